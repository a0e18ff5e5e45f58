theorem fl_RX8_43 : tvFl RX8 43 8 7 := ⟨_, _, _, rfl, by decide, rfl, tvIn_8, rfl, Or.inl (tvgc (tvc_3 (List.mem_of_getElem? (i := 230) (by decide +kernel))) rfl)⟩
theorem fl_RX8_47 : tvFl RX8 47 8 8 := ⟨_, _, _, rfl, by decide, rfl, tvIn_8, rfl, Or.inl (tvgc (tvc_3 (List.mem_of_getElem? (i := 231) (by decide +kernel))) rfl)⟩
theorem fl_RX8_323 : tvFl RX8 323 5 3 := ⟨_, _, _, rfl, by decide, rfl, tvIn_5, rfl, Or.inr ⟨"TideVault", tvn 700 (by decide +kernel) rfl⟩⟩
theorem fl_RX8_337 : tvFl RX8 337 8 9 := ⟨_, _, _, rfl, by decide, rfl, tvIn_8, rfl, Or.inl (tvgc (tvc_3 (List.mem_of_getElem? (i := 232) (by decide +kernel))) rfl)⟩
theorem fw_8_7 : tvFw 8 7 := ⟨_, _, _, rfl, tyX8_ok, nmX8, rfl⟩
theorem fw_8_8 : tvFw 8 8 := ⟨_, _, _, rfl, tyX8_ok, nmX8, rfl⟩
theorem fw_8_9 : tvFw 8 9 := ⟨_, _, _, rfl, tyX8_ok, nmX8, rfl⟩
theorem th_RX8_179_318 : tvTh RX8 179 318 183 43 "java/lang/IllegalArgumentException" "the text is not a program" := ⟨tvgc (tvc_1 (List.mem_of_getElem? (i := 116) (by decide +kernel))) rfl, tvgc (tvc_1 (List.mem_of_getElem? (i := 14) (by decide +kernel))) rfl, by decide +kernel, List.mem_of_getElem? (i := 34) rfl, by decide +kernel⟩
theorem th_RX8_341_343 : tvTh RX8 341 343 345 44 "java/lang/UnsupportedOperationException" "a command fails" := ⟨tvgc (tvc_1 (List.mem_of_getElem? (i := 148) (by decide +kernel))) rfl, tvgc (tvc_1 (List.mem_of_getElem? (i := 16) (by decide +kernel))) rfl, by decide +kernel, List.mem_of_getElem? (i := 35) rfl, by decide +kernel⟩
theorem dk_X6_carryOut_1_c0 : tvSw cX6_carryOut 1 0 48 := Or.inl ⟨136, 0, 7, #[47, 59, 74, 87, 97, 108, 118, 127], 47, 47, by decide +kernel, by decide, by decide, by decide, by decide⟩
theorem dk_X6_carryOut_1_c1 : tvSw cX6_carryOut 1 1 60 := Or.inl ⟨136, 0, 7, #[47, 59, 74, 87, 97, 108, 118, 127], 47, 59, by decide +kernel, by decide, by decide, by decide, by decide⟩
theorem dk_X6_carryOut_1_c2 : tvSw cX6_carryOut 1 2 75 := Or.inl ⟨136, 0, 7, #[47, 59, 74, 87, 97, 108, 118, 127], 47, 74, by decide +kernel, by decide, by decide, by decide, by decide⟩
theorem dk_X6_carryOut_1_c3 : tvSw cX6_carryOut 1 3 88 := Or.inl ⟨136, 0, 7, #[47, 59, 74, 87, 97, 108, 118, 127], 47, 87, by decide +kernel, by decide, by decide, by decide, by decide⟩
theorem dk_X6_carryOut_1_c4 : tvSw cX6_carryOut 1 4 98 := Or.inl ⟨136, 0, 7, #[47, 59, 74, 87, 97, 108, 118, 127], 47, 97, by decide +kernel, by decide, by decide, by decide, by decide⟩
theorem dk_X6_carryOut_1_c5 : tvSw cX6_carryOut 1 5 109 := Or.inl ⟨136, 0, 7, #[47, 59, 74, 87, 97, 108, 118, 127], 47, 108, by decide +kernel, by decide, by decide, by decide, by decide⟩
theorem dk_X6_carryOut_1_c6 : tvSw cX6_carryOut 1 6 119 := Or.inl ⟨136, 0, 7, #[47, 59, 74, 87, 97, 108, 118, 127], 47, 118, by decide +kernel, by decide, by decide, by decide, by decide⟩
theorem dk_X6_carryOut_1_c7 : tvSw cX6_carryOut 1 7 128 := Or.inl ⟨136, 0, 7, #[47, 59, 74, 87, 97, 108, 118, 127], 47, 127, by decide +kernel, by decide, by decide, by decide, by decide⟩
theorem dk_X6_carryOut_1_d {x : Int32} (h0 : ¬ x = 0) (h1 : ¬ x = 1) (h2 : ¬ x = 2) (h3 : ¬ x = 3) (h4 : ¬ x = 4) (h5 : ¬ x = 5) (h6 : ¬ x = 6) (h7 : ¬ x = 7) : tvSw cX6_carryOut 1 x 137 := Or.inr (Or.inl ⟨136, 0, 7, #[47, 59, 74, 87, 97, 108, 118, 127], 47, by decide +kernel, tvsw_out x 0 8 (by decide) (by intro c u1 u2; rcases (show c = 0 ∨ c = 1 ∨ c = 2 ∨ c = 3 ∨ c = 4 ∨ c = 5 ∨ c = 6 ∨ c = 7 by omega) with rfl | rfl | rfl | rfl | rfl | rfl | rfl | rfl <;> first | exact h0 | exact h1 | exact h2 | exact h3 | exact h4 | exact h5 | exact h6 | exact h7), by decide⟩)
theorem dk_X6_refusalOfCommand_1_c0 : tvSw cX6_refusalOfCommand 1 0 48 := Or.inl ⟨106, 0, 7, #[47, 53, 62, 69, 78, 87, 94, 100], 47, 47, by decide +kernel, by decide, by decide, by decide, by decide⟩
theorem dk_X6_refusalOfCommand_1_c1 : tvSw cX6_refusalOfCommand 1 1 54 := Or.inl ⟨106, 0, 7, #[47, 53, 62, 69, 78, 87, 94, 100], 47, 53, by decide +kernel, by decide, by decide, by decide, by decide⟩
theorem dk_X6_refusalOfCommand_1_c2 : tvSw cX6_refusalOfCommand 1 2 63 := Or.inl ⟨106, 0, 7, #[47, 53, 62, 69, 78, 87, 94, 100], 47, 62, by decide +kernel, by decide, by decide, by decide, by decide⟩
theorem dk_X6_refusalOfCommand_1_c3 : tvSw cX6_refusalOfCommand 1 3 70 := Or.inl ⟨106, 0, 7, #[47, 53, 62, 69, 78, 87, 94, 100], 47, 69, by decide +kernel, by decide, by decide, by decide, by decide⟩
theorem dk_X6_refusalOfCommand_1_c4 : tvSw cX6_refusalOfCommand 1 4 79 := Or.inl ⟨106, 0, 7, #[47, 53, 62, 69, 78, 87, 94, 100], 47, 78, by decide +kernel, by decide, by decide, by decide, by decide⟩
theorem dk_X6_refusalOfCommand_1_c5 : tvSw cX6_refusalOfCommand 1 5 88 := Or.inl ⟨106, 0, 7, #[47, 53, 62, 69, 78, 87, 94, 100], 47, 87, by decide +kernel, by decide, by decide, by decide, by decide⟩
theorem dk_X6_refusalOfCommand_1_c6 : tvSw cX6_refusalOfCommand 1 6 95 := Or.inl ⟨106, 0, 7, #[47, 53, 62, 69, 78, 87, 94, 100], 47, 94, by decide +kernel, by decide, by decide, by decide, by decide⟩
theorem dk_X6_refusalOfCommand_1_c7 : tvSw cX6_refusalOfCommand 1 7 101 := Or.inl ⟨106, 0, 7, #[47, 53, 62, 69, 78, 87, 94, 100], 47, 100, by decide +kernel, by decide, by decide, by decide, by decide⟩
theorem dk_X6_refusalOfCommand_1_d {x : Int32} (h0 : ¬ x = 0) (h1 : ¬ x = 1) (h2 : ¬ x = 2) (h3 : ¬ x = 3) (h4 : ¬ x = 4) (h5 : ¬ x = 5) (h6 : ¬ x = 6) (h7 : ¬ x = 7) : tvSw cX6_refusalOfCommand 1 x 107 := Or.inr (Or.inl ⟨106, 0, 7, #[47, 53, 62, 69, 78, 87, 94, 100], 47, by decide +kernel, tvsw_out x 0 8 (by decide) (by intro c u1 u2; rcases (show c = 0 ∨ c = 1 ∨ c = 2 ∨ c = 3 ∨ c = 4 ∨ c = 5 ∨ c = 6 ∨ c = 7 by omega) with rfl | rfl | rfl | rfl | rfl | rfl | rfl | rfl <;> first | exact h0 | exact h1 | exact h2 | exact h3 | exact h4 | exact h5 | exact h6 | exact h7), by decide⟩)
theorem ml_RX8_314 : Cond.methodLink RX8 314 yX5_parse ∈ tvGW := tvgc (tvc_6 (List.mem_of_getElem? (i := 11) (by decide +kernel))) rfl
theorem ml_RX8_317 : Cond.methodLink RX8 317 yX5_empty ∈ tvGW := tvgc (tvc_6 (List.mem_of_getElem? (i := 81) (by decide +kernel))) rfl
theorem ml_RX8_320 : Cond.methodLink RX8 320 yX1_begin ∈ tvGW := tvgc (tvc_6 (List.mem_of_getElem? (i := 86) (by decide +kernel))) rfl
theorem ml_RX8_324 : Cond.methodLink RX8 324 yX5_verbOf ∈ tvGW := tvgc (tvc_6 (List.mem_of_getElem? (i := 87) (by decide +kernel))) rfl
theorem ml_RX8_327 : Cond.methodLink RX8 327 yX5_argumentOf ∈ tvGW := tvgc (tvc_6 (List.mem_of_getElem? (i := 91) (by decide +kernel))) rfl
theorem ml_RX8_330 : Cond.methodLink RX8 330 yX6_refusalOfCommand ∈ tvGW := tvgc (tvc_6 (List.mem_of_getElem? (i := 95) (by decide +kernel))) rfl
theorem ml_RX8_334 : Cond.methodLink RX8 334 yX1_cancel ∈ tvGW := tvgc (tvc_6 (List.mem_of_getElem? (i := 108) (by decide +kernel))) rfl
theorem ml_RX8_346 : Cond.methodLink RX8 346 yX6_carryOut ∈ tvGW := tvgc (tvc_6 (List.mem_of_getElem? (i := 110) (by decide +kernel))) rfl
theorem ml_RX8_350 : Cond.methodLink RX8 350 yX1_commit ∈ tvGW := tvgc (tvc_6 (List.mem_of_getElem? (i := 122) (by decide +kernel))) rfl
theorem ml_RX6_102 : Cond.methodLink RX6 102 yX6_refusalOfHolder ∈ tvGW := tvgc (tvc_6 (List.mem_of_getElem? (i := 99) (by decide +kernel))) rfl
theorem ml_RX6_105 : Cond.methodLink RX6 105 yX6_refusalOfBox ∈ tvGW := tvgc (tvc_6 (List.mem_of_getElem? (i := 100) (by decide +kernel))) rfl
theorem ml_RX6_109 : Cond.methodLink RX6 109 yX6_refusalOfTide ∈ tvGW := tvgc (tvc_6 (List.mem_of_getElem? (i := 101) (by decide +kernel))) rfl
theorem ml_RX6_113 : Cond.methodLink RX6 113 yX6_refusalOfTurn ∈ tvGW := tvgc (tvc_6 (List.mem_of_getElem? (i := 102) (by decide +kernel))) rfl
theorem ml_RX6_116 : Cond.methodLink RX6 116 yX6_refusalOfCode ∈ tvGW := tvgc (tvc_6 (List.mem_of_getElem? (i := 103) (by decide +kernel))) rfl
theorem ml_RX6_119 : Cond.methodLink RX6 119 yX6_refusalOfPut ∈ tvGW := tvgc (tvc_6 (List.mem_of_getElem? (i := 104) (by decide +kernel))) rfl
theorem ml_RX6_122 : Cond.methodLink RX6 122 yX6_refusalOfTake ∈ tvGW := tvgc (tvc_6 (List.mem_of_getElem? (i := 105) (by decide +kernel))) rfl
theorem ml_RX6_125 : Cond.methodLink RX6 125 yX6_refusalOfClose ∈ tvGW := tvgc (tvc_6 (List.mem_of_getElem? (i := 106) (by decide +kernel))) rfl
theorem ml_RX6_128 : Cond.methodLink RX6 128 yX6_refusalOfWait ∈ tvGW := tvgc (tvc_6 (List.mem_of_getElem? (i := 107) (by decide +kernel))) rfl
theorem ml_RX6_131 : Cond.methodLink RX6 131 yX2_add ∈ tvGW := tvgc (tvc_6 (List.mem_of_getElem? (i := 114) (by decide +kernel))) rfl
theorem ml_RX6_134 : Cond.methodLink RX6 134 yX0_add ∈ tvGW := tvgc (tvc_6 (List.mem_of_getElem? (i := 115) (by decide +kernel))) rfl
theorem ml_RX6_136 : Cond.methodLink RX6 136 yX7_become ∈ tvGW := tvgc (tvc_6 (List.mem_of_getElem? (i := 116) (by decide +kernel))) rfl
theorem ml_RX6_139 : Cond.methodLink RX6 139 yX6_turn ∈ tvGW := tvgc (tvc_6 (List.mem_of_getElem? (i := 117) (by decide +kernel))) rfl
theorem ml_RX6_143 : Cond.methodLink RX6 143 yX6_recode ∈ tvGW := tvgc (tvc_6 (List.mem_of_getElem? (i := 118) (by decide +kernel))) rfl
theorem ml_RX6_146 : Cond.methodLink RX6 146 yX6_put ∈ tvGW := tvgc (tvc_6 (List.mem_of_getElem? (i := 119) (by decide +kernel))) rfl
theorem ml_RX6_149 : Cond.methodLink RX6 149 yX6_take ∈ tvGW := tvgc (tvc_6 (List.mem_of_getElem? (i := 120) (by decide +kernel))) rfl
theorem ml_RX6_155 : Cond.methodLink RX6 155 yX6_letPass ∈ tvGW := tvgc (tvc_6 (List.mem_of_getElem? (i := 121) (by decide +kernel))) rfl
theorem yk_X6_carryOut : tvYk yX6_carryOut cX6_carryOut 5 none 4 := ⟨tvgc (tvc_6 (List.mem_of_getElem? (i := 113) (by decide +kernel))) rfl, tvgc (tvc_1 (List.mem_of_getElem? (i := 2) (by decide +kernel))) rfl, by decide +kernel, by decide +kernel, plainFor_of_name (by decide +kernel)⟩
theorem yi_X6_carryOut : tvYi yX6_carryOut := ⟨tvgc (tvc_6 (List.mem_of_getElem? (i := 111) (by decide +kernel))) rfl, tvgc (tvc_6 (List.mem_of_getElem? (i := 112) (by decide +kernel))) rfl⟩
theorem yk_X6_refusalOfCommand : tvYk yX6_refusalOfCommand cX6_refusalOfCommand 5 (some .int) 4 := ⟨tvgc (tvc_6 (List.mem_of_getElem? (i := 98) (by decide +kernel))) rfl, tvgc (tvc_1 (List.mem_of_getElem? (i := 2) (by decide +kernel))) rfl, by decide +kernel, by decide +kernel, plainFor_of_name (by decide +kernel)⟩
theorem yi_X6_refusalOfCommand : tvYi yX6_refusalOfCommand := ⟨tvgc (tvc_6 (List.mem_of_getElem? (i := 96) (by decide +kernel))) rfl, tvgc (tvc_6 (List.mem_of_getElem? (i := 97) (by decide +kernel))) rfl⟩
theorem yk_X8_run : tvYk yX8_run cX8_run 8 (some .int) 0 := ⟨tvgc (tvc_6 (List.mem_of_getElem? (i := 10) (by decide +kernel))) rfl, tvgc (tvc_1 (List.mem_of_getElem? (i := 1) (by decide +kernel))) rfl, by decide +kernel, by decide +kernel, plainFor_of_name (by decide +kernel)⟩
theorem yi_X8_run : tvYi yX8_run := ⟨tvgc (tvc_6 (List.mem_of_getElem? (i := 8) (by decide +kernel))) rfl, tvgc (tvc_6 (List.mem_of_getElem? (i := 9) (by decide +kernel))) rfl⟩
def dl_X6_carryOut : List (Nat × Instr × Nat) := [(0, .iload_n 1, 1), (48, .aload_n 0, 1), (49, .getfield 21, 3), (52, .iload_n 2, 1), (53, .invokevirtual 131, 3), (56, .pop, 1), (57, .goto 86, 3), (60, .aload_n 0, 1), (61, .getfield 28, 3), (64, .iload_n 2, 1), (65, .iload_n 3, 1), (66, .iload 4, 2), (68, .invokevirtual 134, 3), (71, .pop, 1), (72, .goto 71, 3), (75, .aload_n 0, 1), (76, .getfield 12, 3), (79, .iload_n 2, 1), (80, .iload_n 3, 1), (81, .invokevirtual 136, 3), (84, .pop, 1), (85, .goto 58, 3), (88, .aload_n 0, 1), (89, .iload_n 2, 1), (90, .iload_n 3, 1), (91, .invokevirtual 139, 3), (94, .pop, 1), (95, .goto 48, 3), (98, .aload_n 0, 1), (99, .iload_n 2, 1), (100, .iload 4, 2), (102, .invokevirtual 143, 3), (105, .pop, 1), (106, .goto 37, 3), (109, .aload_n 0, 1), (110, .iload_n 2, 1), (111, .iload_n 3, 1), (112, .invokevirtual 146, 3), (115, .pop, 1), (116, .goto 27, 3), (119, .aload_n 0, 1), (120, .iload_n 2, 1), (121, .invokevirtual 149, 3), (124, .pop, 1), (125, .goto 18, 3), (128, .aload_n 0, 1), (129, .iload_n 2, 1), (130, .invokevirtual 152, 3), (133, .pop, 1), (134, .goto 9, 3), (137, .aload_n 0, 1), (138, .iload_n 2, 1), (139, .invokevirtual 155, 3), (142, .pop, 1), (143, .return_, 1)]
theorem dlk_X6_carryOut : tvDl cX6_carryOut dl_X6_carryOut = true := by decide +kernel
theorem dk_X6_carryOut_0 : tvD cX6_carryOut 0 (.iload_n 1) 1 1 := tvDl_get dlk_X6_carryOut 0 rfl rfl
theorem dk_X6_carryOut_48 : tvD cX6_carryOut 48 (.aload_n 0) 1 49 := tvDl_get dlk_X6_carryOut 1 rfl rfl
theorem dk_X6_carryOut_49 : tvD cX6_carryOut 49 (.getfield 21) 3 52 := tvDl_get dlk_X6_carryOut 2 rfl rfl
theorem dk_X6_carryOut_52 : tvD cX6_carryOut 52 (.iload_n 2) 1 53 := tvDl_get dlk_X6_carryOut 3 rfl rfl
theorem dk_X6_carryOut_53 : tvD cX6_carryOut 53 (.invokevirtual 131) 3 56 := tvDl_get dlk_X6_carryOut 4 rfl rfl
theorem dk_X6_carryOut_56 : tvD cX6_carryOut 56 (.pop) 1 57 := tvDl_get dlk_X6_carryOut 5 rfl rfl
theorem dk_X6_carryOut_57 : tvJ cX6_carryOut 57 .goto 143 60 := tvJl_get dlk_X6_carryOut 6 rfl (by decide) rfl
theorem dk_X6_carryOut_60 : tvD cX6_carryOut 60 (.aload_n 0) 1 61 := tvDl_get dlk_X6_carryOut 7 rfl rfl
theorem dk_X6_carryOut_61 : tvD cX6_carryOut 61 (.getfield 28) 3 64 := tvDl_get dlk_X6_carryOut 8 rfl rfl
theorem dk_X6_carryOut_64 : tvD cX6_carryOut 64 (.iload_n 2) 1 65 := tvDl_get dlk_X6_carryOut 9 rfl rfl
theorem dk_X6_carryOut_65 : tvD cX6_carryOut 65 (.iload_n 3) 1 66 := tvDl_get dlk_X6_carryOut 10 rfl rfl
theorem dk_X6_carryOut_66 : tvD cX6_carryOut 66 (.iload 4) 2 68 := tvDl_get dlk_X6_carryOut 11 rfl rfl
theorem dk_X6_carryOut_68 : tvD cX6_carryOut 68 (.invokevirtual 134) 3 71 := tvDl_get dlk_X6_carryOut 12 rfl rfl
theorem dk_X6_carryOut_71 : tvD cX6_carryOut 71 (.pop) 1 72 := tvDl_get dlk_X6_carryOut 13 rfl rfl
theorem dk_X6_carryOut_72 : tvJ cX6_carryOut 72 .goto 143 75 := tvJl_get dlk_X6_carryOut 14 rfl (by decide) rfl
theorem dk_X6_carryOut_75 : tvD cX6_carryOut 75 (.aload_n 0) 1 76 := tvDl_get dlk_X6_carryOut 15 rfl rfl
theorem dk_X6_carryOut_76 : tvD cX6_carryOut 76 (.getfield 12) 3 79 := tvDl_get dlk_X6_carryOut 16 rfl rfl
theorem dk_X6_carryOut_79 : tvD cX6_carryOut 79 (.iload_n 2) 1 80 := tvDl_get dlk_X6_carryOut 17 rfl rfl
theorem dk_X6_carryOut_80 : tvD cX6_carryOut 80 (.iload_n 3) 1 81 := tvDl_get dlk_X6_carryOut 18 rfl rfl
theorem dk_X6_carryOut_81 : tvD cX6_carryOut 81 (.invokevirtual 136) 3 84 := tvDl_get dlk_X6_carryOut 19 rfl rfl
theorem dk_X6_carryOut_84 : tvD cX6_carryOut 84 (.pop) 1 85 := tvDl_get dlk_X6_carryOut 20 rfl rfl
theorem dk_X6_carryOut_85 : tvJ cX6_carryOut 85 .goto 143 88 := tvJl_get dlk_X6_carryOut 21 rfl (by decide) rfl
theorem dk_X6_carryOut_88 : tvD cX6_carryOut 88 (.aload_n 0) 1 89 := tvDl_get dlk_X6_carryOut 22 rfl rfl
theorem dk_X6_carryOut_89 : tvD cX6_carryOut 89 (.iload_n 2) 1 90 := tvDl_get dlk_X6_carryOut 23 rfl rfl
theorem dk_X6_carryOut_90 : tvD cX6_carryOut 90 (.iload_n 3) 1 91 := tvDl_get dlk_X6_carryOut 24 rfl rfl
theorem dk_X6_carryOut_91 : tvD cX6_carryOut 91 (.invokevirtual 139) 3 94 := tvDl_get dlk_X6_carryOut 25 rfl rfl
theorem dk_X6_carryOut_94 : tvD cX6_carryOut 94 (.pop) 1 95 := tvDl_get dlk_X6_carryOut 26 rfl rfl
theorem dk_X6_carryOut_95 : tvJ cX6_carryOut 95 .goto 143 98 := tvJl_get dlk_X6_carryOut 27 rfl (by decide) rfl
theorem dk_X6_carryOut_98 : tvD cX6_carryOut 98 (.aload_n 0) 1 99 := tvDl_get dlk_X6_carryOut 28 rfl rfl
theorem dk_X6_carryOut_99 : tvD cX6_carryOut 99 (.iload_n 2) 1 100 := tvDl_get dlk_X6_carryOut 29 rfl rfl
theorem dk_X6_carryOut_100 : tvD cX6_carryOut 100 (.iload 4) 2 102 := tvDl_get dlk_X6_carryOut 30 rfl rfl
theorem dk_X6_carryOut_102 : tvD cX6_carryOut 102 (.invokevirtual 143) 3 105 := tvDl_get dlk_X6_carryOut 31 rfl rfl
theorem dk_X6_carryOut_105 : tvD cX6_carryOut 105 (.pop) 1 106 := tvDl_get dlk_X6_carryOut 32 rfl rfl
theorem dk_X6_carryOut_106 : tvJ cX6_carryOut 106 .goto 143 109 := tvJl_get dlk_X6_carryOut 33 rfl (by decide) rfl
theorem dk_X6_carryOut_109 : tvD cX6_carryOut 109 (.aload_n 0) 1 110 := tvDl_get dlk_X6_carryOut 34 rfl rfl
theorem dk_X6_carryOut_110 : tvD cX6_carryOut 110 (.iload_n 2) 1 111 := tvDl_get dlk_X6_carryOut 35 rfl rfl
theorem dk_X6_carryOut_111 : tvD cX6_carryOut 111 (.iload_n 3) 1 112 := tvDl_get dlk_X6_carryOut 36 rfl rfl
theorem dk_X6_carryOut_112 : tvD cX6_carryOut 112 (.invokevirtual 146) 3 115 := tvDl_get dlk_X6_carryOut 37 rfl rfl
theorem dk_X6_carryOut_115 : tvD cX6_carryOut 115 (.pop) 1 116 := tvDl_get dlk_X6_carryOut 38 rfl rfl
theorem dk_X6_carryOut_116 : tvJ cX6_carryOut 116 .goto 143 119 := tvJl_get dlk_X6_carryOut 39 rfl (by decide) rfl
theorem dk_X6_carryOut_119 : tvD cX6_carryOut 119 (.aload_n 0) 1 120 := tvDl_get dlk_X6_carryOut 40 rfl rfl
theorem dk_X6_carryOut_120 : tvD cX6_carryOut 120 (.iload_n 2) 1 121 := tvDl_get dlk_X6_carryOut 41 rfl rfl
theorem dk_X6_carryOut_121 : tvD cX6_carryOut 121 (.invokevirtual 149) 3 124 := tvDl_get dlk_X6_carryOut 42 rfl rfl
theorem dk_X6_carryOut_124 : tvD cX6_carryOut 124 (.pop) 1 125 := tvDl_get dlk_X6_carryOut 43 rfl rfl
theorem dk_X6_carryOut_125 : tvJ cX6_carryOut 125 .goto 143 128 := tvJl_get dlk_X6_carryOut 44 rfl (by decide) rfl
theorem dk_X6_carryOut_128 : tvD cX6_carryOut 128 (.aload_n 0) 1 129 := tvDl_get dlk_X6_carryOut 45 rfl rfl
theorem dk_X6_carryOut_129 : tvD cX6_carryOut 129 (.iload_n 2) 1 130 := tvDl_get dlk_X6_carryOut 46 rfl rfl
theorem dk_X6_carryOut_130 : tvD cX6_carryOut 130 (.invokevirtual 152) 3 133 := tvDl_get dlk_X6_carryOut 47 rfl rfl
theorem dk_X6_carryOut_133 : tvD cX6_carryOut 133 (.pop) 1 134 := tvDl_get dlk_X6_carryOut 48 rfl rfl
theorem dk_X6_carryOut_134 : tvJ cX6_carryOut 134 .goto 143 137 := tvJl_get dlk_X6_carryOut 49 rfl (by decide) rfl
theorem dk_X6_carryOut_137 : tvD cX6_carryOut 137 (.aload_n 0) 1 138 := tvDl_get dlk_X6_carryOut 50 rfl rfl
theorem dk_X6_carryOut_138 : tvD cX6_carryOut 138 (.iload_n 2) 1 139 := tvDl_get dlk_X6_carryOut 51 rfl rfl
theorem dk_X6_carryOut_139 : tvD cX6_carryOut 139 (.invokevirtual 155) 3 142 := tvDl_get dlk_X6_carryOut 52 rfl rfl
theorem dk_X6_carryOut_142 : tvD cX6_carryOut 142 (.pop) 1 143 := tvDl_get dlk_X6_carryOut 53 rfl rfl
theorem dk_X6_carryOut_143 : tvD cX6_carryOut 143 (.return_) 1 144 := tvDl_get dlk_X6_carryOut 54 rfl rfl
def dl_X6_refusalOfCommand : List (Nat × Instr × Nat) := [(0, .iload_n 1, 1), (48, .aload_n 0, 1), (49, .iload_n 2, 1), (50, .invokevirtual 102, 3), (53, .ireturn, 1), (54, .aload_n 0, 1), (55, .iload_n 2, 1), (56, .iload_n 3, 1), (57, .iload 4, 2), (59, .invokevirtual 105, 3), (62, .ireturn, 1), (63, .aload_n 0, 1), (64, .iload_n 2, 1), (65, .iload_n 3, 1), (66, .invokevirtual 109, 3), (69, .ireturn, 1), (70, .aload_n 0, 1), (71, .iload_n 2, 1), (72, .iload_n 3, 1), (73, .iload 4, 2), (75, .invokevirtual 113, 3), (78, .ireturn, 1), (79, .aload_n 0, 1), (80, .iload_n 2, 1), (81, .iload_n 3, 1), (82, .iload 4, 2), (84, .invokevirtual 116, 3), (87, .ireturn, 1), (88, .aload_n 0, 1), (89, .iload_n 2, 1), (90, .iload_n 3, 1), (91, .invokevirtual 119, 3), (94, .ireturn, 1), (95, .aload_n 0, 1), (96, .iload_n 2, 1), (97, .invokevirtual 122, 3), (100, .ireturn, 1), (101, .aload_n 0, 1), (102, .iload_n 2, 1), (103, .invokevirtual 125, 3), (106, .ireturn, 1), (107, .aload_n 0, 1), (108, .iload_n 2, 1), (109, .invokevirtual 128, 3), (112, .ireturn, 1)]
theorem dlk_X6_refusalOfCommand : tvDl cX6_refusalOfCommand dl_X6_refusalOfCommand = true := by decide +kernel
theorem dk_X6_refusalOfCommand_0 : tvD cX6_refusalOfCommand 0 (.iload_n 1) 1 1 := tvDl_get dlk_X6_refusalOfCommand 0 rfl rfl
theorem dk_X6_refusalOfCommand_48 : tvD cX6_refusalOfCommand 48 (.aload_n 0) 1 49 := tvDl_get dlk_X6_refusalOfCommand 1 rfl rfl
theorem dk_X6_refusalOfCommand_49 : tvD cX6_refusalOfCommand 49 (.iload_n 2) 1 50 := tvDl_get dlk_X6_refusalOfCommand 2 rfl rfl
theorem dk_X6_refusalOfCommand_50 : tvD cX6_refusalOfCommand 50 (.invokevirtual 102) 3 53 := tvDl_get dlk_X6_refusalOfCommand 3 rfl rfl
theorem dk_X6_refusalOfCommand_53 : tvD cX6_refusalOfCommand 53 (.ireturn) 1 54 := tvDl_get dlk_X6_refusalOfCommand 4 rfl rfl
theorem dk_X6_refusalOfCommand_54 : tvD cX6_refusalOfCommand 54 (.aload_n 0) 1 55 := tvDl_get dlk_X6_refusalOfCommand 5 rfl rfl
theorem dk_X6_refusalOfCommand_55 : tvD cX6_refusalOfCommand 55 (.iload_n 2) 1 56 := tvDl_get dlk_X6_refusalOfCommand 6 rfl rfl
theorem dk_X6_refusalOfCommand_56 : tvD cX6_refusalOfCommand 56 (.iload_n 3) 1 57 := tvDl_get dlk_X6_refusalOfCommand 7 rfl rfl
theorem dk_X6_refusalOfCommand_57 : tvD cX6_refusalOfCommand 57 (.iload 4) 2 59 := tvDl_get dlk_X6_refusalOfCommand 8 rfl rfl
theorem dk_X6_refusalOfCommand_59 : tvD cX6_refusalOfCommand 59 (.invokevirtual 105) 3 62 := tvDl_get dlk_X6_refusalOfCommand 9 rfl rfl
theorem dk_X6_refusalOfCommand_62 : tvD cX6_refusalOfCommand 62 (.ireturn) 1 63 := tvDl_get dlk_X6_refusalOfCommand 10 rfl rfl
theorem dk_X6_refusalOfCommand_63 : tvD cX6_refusalOfCommand 63 (.aload_n 0) 1 64 := tvDl_get dlk_X6_refusalOfCommand 11 rfl rfl
theorem dk_X6_refusalOfCommand_64 : tvD cX6_refusalOfCommand 64 (.iload_n 2) 1 65 := tvDl_get dlk_X6_refusalOfCommand 12 rfl rfl
theorem dk_X6_refusalOfCommand_65 : tvD cX6_refusalOfCommand 65 (.iload_n 3) 1 66 := tvDl_get dlk_X6_refusalOfCommand 13 rfl rfl
theorem dk_X6_refusalOfCommand_66 : tvD cX6_refusalOfCommand 66 (.invokevirtual 109) 3 69 := tvDl_get dlk_X6_refusalOfCommand 14 rfl rfl
theorem dk_X6_refusalOfCommand_69 : tvD cX6_refusalOfCommand 69 (.ireturn) 1 70 := tvDl_get dlk_X6_refusalOfCommand 15 rfl rfl
theorem dk_X6_refusalOfCommand_70 : tvD cX6_refusalOfCommand 70 (.aload_n 0) 1 71 := tvDl_get dlk_X6_refusalOfCommand 16 rfl rfl
theorem dk_X6_refusalOfCommand_71 : tvD cX6_refusalOfCommand 71 (.iload_n 2) 1 72 := tvDl_get dlk_X6_refusalOfCommand 17 rfl rfl
theorem dk_X6_refusalOfCommand_72 : tvD cX6_refusalOfCommand 72 (.iload_n 3) 1 73 := tvDl_get dlk_X6_refusalOfCommand 18 rfl rfl
theorem dk_X6_refusalOfCommand_73 : tvD cX6_refusalOfCommand 73 (.iload 4) 2 75 := tvDl_get dlk_X6_refusalOfCommand 19 rfl rfl
theorem dk_X6_refusalOfCommand_75 : tvD cX6_refusalOfCommand 75 (.invokevirtual 113) 3 78 := tvDl_get dlk_X6_refusalOfCommand 20 rfl rfl
theorem dk_X6_refusalOfCommand_78 : tvD cX6_refusalOfCommand 78 (.ireturn) 1 79 := tvDl_get dlk_X6_refusalOfCommand 21 rfl rfl
theorem dk_X6_refusalOfCommand_79 : tvD cX6_refusalOfCommand 79 (.aload_n 0) 1 80 := tvDl_get dlk_X6_refusalOfCommand 22 rfl rfl
theorem dk_X6_refusalOfCommand_80 : tvD cX6_refusalOfCommand 80 (.iload_n 2) 1 81 := tvDl_get dlk_X6_refusalOfCommand 23 rfl rfl
theorem dk_X6_refusalOfCommand_81 : tvD cX6_refusalOfCommand 81 (.iload_n 3) 1 82 := tvDl_get dlk_X6_refusalOfCommand 24 rfl rfl
theorem dk_X6_refusalOfCommand_82 : tvD cX6_refusalOfCommand 82 (.iload 4) 2 84 := tvDl_get dlk_X6_refusalOfCommand 25 rfl rfl
theorem dk_X6_refusalOfCommand_84 : tvD cX6_refusalOfCommand 84 (.invokevirtual 116) 3 87 := tvDl_get dlk_X6_refusalOfCommand 26 rfl rfl
theorem dk_X6_refusalOfCommand_87 : tvD cX6_refusalOfCommand 87 (.ireturn) 1 88 := tvDl_get dlk_X6_refusalOfCommand 27 rfl rfl
theorem dk_X6_refusalOfCommand_88 : tvD cX6_refusalOfCommand 88 (.aload_n 0) 1 89 := tvDl_get dlk_X6_refusalOfCommand 28 rfl rfl
theorem dk_X6_refusalOfCommand_89 : tvD cX6_refusalOfCommand 89 (.iload_n 2) 1 90 := tvDl_get dlk_X6_refusalOfCommand 29 rfl rfl
theorem dk_X6_refusalOfCommand_90 : tvD cX6_refusalOfCommand 90 (.iload_n 3) 1 91 := tvDl_get dlk_X6_refusalOfCommand 30 rfl rfl
theorem dk_X6_refusalOfCommand_91 : tvD cX6_refusalOfCommand 91 (.invokevirtual 119) 3 94 := tvDl_get dlk_X6_refusalOfCommand 31 rfl rfl
theorem dk_X6_refusalOfCommand_94 : tvD cX6_refusalOfCommand 94 (.ireturn) 1 95 := tvDl_get dlk_X6_refusalOfCommand 32 rfl rfl
theorem dk_X6_refusalOfCommand_95 : tvD cX6_refusalOfCommand 95 (.aload_n 0) 1 96 := tvDl_get dlk_X6_refusalOfCommand 33 rfl rfl
theorem dk_X6_refusalOfCommand_96 : tvD cX6_refusalOfCommand 96 (.iload_n 2) 1 97 := tvDl_get dlk_X6_refusalOfCommand 34 rfl rfl
theorem dk_X6_refusalOfCommand_97 : tvD cX6_refusalOfCommand 97 (.invokevirtual 122) 3 100 := tvDl_get dlk_X6_refusalOfCommand 35 rfl rfl
theorem dk_X6_refusalOfCommand_100 : tvD cX6_refusalOfCommand 100 (.ireturn) 1 101 := tvDl_get dlk_X6_refusalOfCommand 36 rfl rfl
theorem dk_X6_refusalOfCommand_101 : tvD cX6_refusalOfCommand 101 (.aload_n 0) 1 102 := tvDl_get dlk_X6_refusalOfCommand 37 rfl rfl
theorem dk_X6_refusalOfCommand_102 : tvD cX6_refusalOfCommand 102 (.iload_n 2) 1 103 := tvDl_get dlk_X6_refusalOfCommand 38 rfl rfl
theorem dk_X6_refusalOfCommand_103 : tvD cX6_refusalOfCommand 103 (.invokevirtual 125) 3 106 := tvDl_get dlk_X6_refusalOfCommand 39 rfl rfl
theorem dk_X6_refusalOfCommand_106 : tvD cX6_refusalOfCommand 106 (.ireturn) 1 107 := tvDl_get dlk_X6_refusalOfCommand 40 rfl rfl
theorem dk_X6_refusalOfCommand_107 : tvD cX6_refusalOfCommand 107 (.aload_n 0) 1 108 := tvDl_get dlk_X6_refusalOfCommand 41 rfl rfl
theorem dk_X6_refusalOfCommand_108 : tvD cX6_refusalOfCommand 108 (.iload_n 2) 1 109 := tvDl_get dlk_X6_refusalOfCommand 42 rfl rfl
theorem dk_X6_refusalOfCommand_109 : tvD cX6_refusalOfCommand 109 (.invokevirtual 128) 3 112 := tvDl_get dlk_X6_refusalOfCommand 43 rfl rfl
theorem dk_X6_refusalOfCommand_112 : tvD cX6_refusalOfCommand 112 (.ireturn) 1 113 := tvDl_get dlk_X6_refusalOfCommand 44 rfl rfl
def dl_X8_run : List (Nat × Instr × Nat) := [(0, .aload_n 0, 1), (1, .getfield 32, 3), (4, .invokevirtual 314, 3), (7, .istore_n 1, 1), (8, .aload_n 0, 1), (9, .getfield 32, 3), (12, .invokevirtual 317, 3), (15, .iload_n 1, 1), (16, .iconst (-1), 1), (17, .if_icmp .eq 19, 3), (20, .aload_n 0, 1), (21, .iload_n 1, 1), (22, .putfield 43, 3), (25, .new 179, 3), (28, .dup, 1), (29, .ldc_w 318, 3), (32, .invokespecial 183, 3), (35, .athrow, 1), (36, .aload_n 0, 1), (37, .getfield 25, 3), (40, .aload_n 0, 1), (41, .getfield 12, 3), (44, .invokevirtual 320, 3), (47, .iconst 0, 1), (48, .istore_n 2, 1), (49, .iload_n 2, 1), (50, .aload_n 0, 1), (51, .getfield 32, 3), (54, .getfield 323, 3), (57, .if_icmp .ge 128, 3), (60, .aload_n 0, 1), (61, .getfield 32, 3), (64, .iload_n 2, 1), (65, .invokevirtual 324, 3), (68, .istore_n 3, 1), (69, .aload_n 0, 1), (70, .getfield 32, 3), (73, .iload_n 2, 1), (74, .iconst 0, 1), (75, .invokevirtual 327, 3), (78, .istore 4, 2), (80, .aload_n 0, 1), (81, .getfield 32, 3), (84, .iload_n 2, 1), (85, .iconst 1, 1), (86, .invokevirtual 327, 3), (89, .istore 5, 2), (91, .aload_n 0, 1), (92, .getfield 32, 3), (95, .iload_n 2, 1), (96, .iconst 2, 1), (97, .invokevirtual 327, 3), (100, .istore 6, 2), (102, .aload_n 0, 1), (103, .getfield 12, 3), (106, .iload_n 3, 1), (107, .iload 4, 2), (109, .iload 5, 2), (111, .iload 6, 2), (113, .invokevirtual 330, 3)]
theorem dlk_X8_run : tvDl cX8_run dl_X8_run = true := by decide +kernel
theorem dk_X8_run_0 : tvD cX8_run 0 (.aload_n 0) 1 1 := tvDl_get dlk_X8_run 0 rfl rfl
theorem dk_X8_run_1 : tvD cX8_run 1 (.getfield 32) 3 4 := tvDl_get dlk_X8_run 1 rfl rfl
theorem dk_X8_run_4 : tvD cX8_run 4 (.invokevirtual 314) 3 7 := tvDl_get dlk_X8_run 2 rfl rfl
theorem dk_X8_run_7 : tvD cX8_run 7 (.istore_n 1) 1 8 := tvDl_get dlk_X8_run 3 rfl rfl
theorem dk_X8_run_8 : tvD cX8_run 8 (.aload_n 0) 1 9 := tvDl_get dlk_X8_run 4 rfl rfl
theorem dk_X8_run_9 : tvD cX8_run 9 (.getfield 32) 3 12 := tvDl_get dlk_X8_run 5 rfl rfl
theorem dk_X8_run_12 : tvD cX8_run 12 (.invokevirtual 317) 3 15 := tvDl_get dlk_X8_run 6 rfl rfl
theorem dk_X8_run_15 : tvD cX8_run 15 (.iload_n 1) 1 16 := tvDl_get dlk_X8_run 7 rfl rfl
theorem dk_X8_run_16 : tvD cX8_run 16 (.iconst (-1)) 1 17 := tvDl_get dlk_X8_run 8 rfl rfl
theorem dk_X8_run_17 : tvJ cX8_run 17 (.if_icmp .eq) 36 20 := tvJl_get dlk_X8_run 9 rfl (by decide) rfl
theorem dk_X8_run_20 : tvD cX8_run 20 (.aload_n 0) 1 21 := tvDl_get dlk_X8_run 10 rfl rfl
theorem dk_X8_run_21 : tvD cX8_run 21 (.iload_n 1) 1 22 := tvDl_get dlk_X8_run 11 rfl rfl
theorem dk_X8_run_22 : tvD cX8_run 22 (.putfield 43) 3 25 := tvDl_get dlk_X8_run 12 rfl rfl
theorem dk_X8_run_25 : tvD cX8_run 25 (.new 179) 3 28 := tvDl_get dlk_X8_run 13 rfl rfl
theorem dk_X8_run_28 : tvD cX8_run 28 (.dup) 1 29 := tvDl_get dlk_X8_run 14 rfl rfl
theorem dk_X8_run_29 : tvD cX8_run 29 (.ldc_w 318) 3 32 := tvDl_get dlk_X8_run 15 rfl rfl
theorem dk_X8_run_32 : tvD cX8_run 32 (.invokespecial 183) 3 35 := tvDl_get dlk_X8_run 16 rfl rfl
theorem dk_X8_run_35 : tvD cX8_run 35 (.athrow) 1 36 := tvDl_get dlk_X8_run 17 rfl rfl
theorem dk_X8_run_36 : tvD cX8_run 36 (.aload_n 0) 1 37 := tvDl_get dlk_X8_run 18 rfl rfl
theorem dk_X8_run_37 : tvD cX8_run 37 (.getfield 25) 3 40 := tvDl_get dlk_X8_run 19 rfl rfl
theorem dk_X8_run_40 : tvD cX8_run 40 (.aload_n 0) 1 41 := tvDl_get dlk_X8_run 20 rfl rfl
theorem dk_X8_run_41 : tvD cX8_run 41 (.getfield 12) 3 44 := tvDl_get dlk_X8_run 21 rfl rfl
theorem dk_X8_run_44 : tvD cX8_run 44 (.invokevirtual 320) 3 47 := tvDl_get dlk_X8_run 22 rfl rfl
theorem dk_X8_run_47 : tvD cX8_run 47 (.iconst 0) 1 48 := tvDl_get dlk_X8_run 23 rfl rfl
theorem dk_X8_run_48 : tvD cX8_run 48 (.istore_n 2) 1 49 := tvDl_get dlk_X8_run 24 rfl rfl
theorem dk_X8_run_49 : tvD cX8_run 49 (.iload_n 2) 1 50 := tvDl_get dlk_X8_run 25 rfl rfl
theorem dk_X8_run_50 : tvD cX8_run 50 (.aload_n 0) 1 51 := tvDl_get dlk_X8_run 26 rfl rfl
theorem dk_X8_run_51 : tvD cX8_run 51 (.getfield 32) 3 54 := tvDl_get dlk_X8_run 27 rfl rfl
theorem dk_X8_run_54 : tvD cX8_run 54 (.getfield 323) 3 57 := tvDl_get dlk_X8_run 28 rfl rfl
theorem dk_X8_run_57 : tvJ cX8_run 57 (.if_icmp .ge) 185 60 := tvJl_get dlk_X8_run 29 rfl (by decide) rfl
theorem dk_X8_run_60 : tvD cX8_run 60 (.aload_n 0) 1 61 := tvDl_get dlk_X8_run 30 rfl rfl
theorem dk_X8_run_61 : tvD cX8_run 61 (.getfield 32) 3 64 := tvDl_get dlk_X8_run 31 rfl rfl
theorem dk_X8_run_64 : tvD cX8_run 64 (.iload_n 2) 1 65 := tvDl_get dlk_X8_run 32 rfl rfl
theorem dk_X8_run_65 : tvD cX8_run 65 (.invokevirtual 324) 3 68 := tvDl_get dlk_X8_run 33 rfl rfl
theorem dk_X8_run_68 : tvD cX8_run 68 (.istore_n 3) 1 69 := tvDl_get dlk_X8_run 34 rfl rfl
theorem dk_X8_run_69 : tvD cX8_run 69 (.aload_n 0) 1 70 := tvDl_get dlk_X8_run 35 rfl rfl
theorem dk_X8_run_70 : tvD cX8_run 70 (.getfield 32) 3 73 := tvDl_get dlk_X8_run 36 rfl rfl
theorem dk_X8_run_73 : tvD cX8_run 73 (.iload_n 2) 1 74 := tvDl_get dlk_X8_run 37 rfl rfl
theorem dk_X8_run_74 : tvD cX8_run 74 (.iconst 0) 1 75 := tvDl_get dlk_X8_run 38 rfl rfl
theorem dk_X8_run_75 : tvD cX8_run 75 (.invokevirtual 327) 3 78 := tvDl_get dlk_X8_run 39 rfl rfl
theorem dk_X8_run_78 : tvD cX8_run 78 (.istore 4) 2 80 := tvDl_get dlk_X8_run 40 rfl rfl
theorem dk_X8_run_80 : tvD cX8_run 80 (.aload_n 0) 1 81 := tvDl_get dlk_X8_run 41 rfl rfl
theorem dk_X8_run_81 : tvD cX8_run 81 (.getfield 32) 3 84 := tvDl_get dlk_X8_run 42 rfl rfl
theorem dk_X8_run_84 : tvD cX8_run 84 (.iload_n 2) 1 85 := tvDl_get dlk_X8_run 43 rfl rfl
theorem dk_X8_run_85 : tvD cX8_run 85 (.iconst 1) 1 86 := tvDl_get dlk_X8_run 44 rfl rfl
theorem dk_X8_run_86 : tvD cX8_run 86 (.invokevirtual 327) 3 89 := tvDl_get dlk_X8_run 45 rfl rfl
theorem dk_X8_run_89 : tvD cX8_run 89 (.istore 5) 2 91 := tvDl_get dlk_X8_run 46 rfl rfl
theorem dk_X8_run_91 : tvD cX8_run 91 (.aload_n 0) 1 92 := tvDl_get dlk_X8_run 47 rfl rfl
theorem dk_X8_run_92 : tvD cX8_run 92 (.getfield 32) 3 95 := tvDl_get dlk_X8_run 48 rfl rfl
theorem dk_X8_run_95 : tvD cX8_run 95 (.iload_n 2) 1 96 := tvDl_get dlk_X8_run 49 rfl rfl
theorem dk_X8_run_96 : tvD cX8_run 96 (.iconst 2) 1 97 := tvDl_get dlk_X8_run 50 rfl rfl
theorem dk_X8_run_97 : tvD cX8_run 97 (.invokevirtual 327) 3 100 := tvDl_get dlk_X8_run 51 rfl rfl
theorem dk_X8_run_100 : tvD cX8_run 100 (.istore 6) 2 102 := tvDl_get dlk_X8_run 52 rfl rfl
theorem dk_X8_run_102 : tvD cX8_run 102 (.aload_n 0) 1 103 := tvDl_get dlk_X8_run 53 rfl rfl
theorem dk_X8_run_103 : tvD cX8_run 103 (.getfield 12) 3 106 := tvDl_get dlk_X8_run 54 rfl rfl
theorem dk_X8_run_106 : tvD cX8_run 106 (.iload_n 3) 1 107 := tvDl_get dlk_X8_run 55 rfl rfl
theorem dk_X8_run_107 : tvD cX8_run 107 (.iload 4) 2 109 := tvDl_get dlk_X8_run 56 rfl rfl
theorem dk_X8_run_109 : tvD cX8_run 109 (.iload 5) 2 111 := tvDl_get dlk_X8_run 57 rfl rfl
theorem dk_X8_run_111 : tvD cX8_run 111 (.iload 6) 2 113 := tvDl_get dlk_X8_run 58 rfl rfl
theorem dk_X8_run_113 : tvD cX8_run 113 (.invokevirtual 330) 3 116 := tvDl_get dlk_X8_run 59 rfl rfl
def dl_X8_run_1 : List (Nat × Instr × Nat) := [(116, .istore 7, 2), (118, .iload 7, 2), (120, .ifCond .eq 45, 3), (123, .aload_n 0, 1), (124, .getfield 25, 3), (127, .aload_n 0, 1), (128, .getfield 12, 3), (131, .invokevirtual 334, 3), (134, .aload_n 0, 1), (135, .iload_n 2, 1), (136, .putfield 47, 3), (139, .aload_n 0, 1), (140, .iload 7, 2), (142, .iconst 4, 1), (143, .if_icmp .ne 7, 3), (146, .iconst 1, 1), (147, .goto 4, 3), (150, .iconst 0, 1), (151, .putfield 337, 3), (154, .new 341, 3), (157, .dup, 1), (158, .ldc_w 343, 3), (161, .invokespecial 345, 3), (164, .athrow, 1), (165, .aload_n 0, 1), (166, .getfield 12, 3), (169, .iload_n 3, 1), (170, .iload 4, 2), (172, .iload 5, 2), (174, .iload 6, 2), (176, .invokevirtual 346, 3), (179, .iinc 2 1, 3), (182, .goto (-133), 3), (185, .aload_n 0, 1), (186, .getfield 25, 3), (189, .invokevirtual 350, 3), (192, .aload_n 0, 1), (193, .getfield 32, 3), (196, .getfield 323, 3), (199, .ireturn, 1)]
theorem dlk_X8_run_1 : tvDl cX8_run dl_X8_run_1 = true := by decide +kernel
theorem dk_X8_run_116 : tvD cX8_run 116 (.istore 7) 2 118 := tvDl_get dlk_X8_run_1 0 rfl rfl
theorem dk_X8_run_118 : tvD cX8_run 118 (.iload 7) 2 120 := tvDl_get dlk_X8_run_1 1 rfl rfl
theorem dk_X8_run_120 : tvJ cX8_run 120 (.ifCond .eq) 165 123 := tvJl_get dlk_X8_run_1 2 rfl (by decide) rfl
theorem dk_X8_run_123 : tvD cX8_run 123 (.aload_n 0) 1 124 := tvDl_get dlk_X8_run_1 3 rfl rfl
theorem dk_X8_run_124 : tvD cX8_run 124 (.getfield 25) 3 127 := tvDl_get dlk_X8_run_1 4 rfl rfl
theorem dk_X8_run_127 : tvD cX8_run 127 (.aload_n 0) 1 128 := tvDl_get dlk_X8_run_1 5 rfl rfl
theorem dk_X8_run_128 : tvD cX8_run 128 (.getfield 12) 3 131 := tvDl_get dlk_X8_run_1 6 rfl rfl
theorem dk_X8_run_131 : tvD cX8_run 131 (.invokevirtual 334) 3 134 := tvDl_get dlk_X8_run_1 7 rfl rfl
theorem dk_X8_run_134 : tvD cX8_run 134 (.aload_n 0) 1 135 := tvDl_get dlk_X8_run_1 8 rfl rfl
theorem dk_X8_run_135 : tvD cX8_run 135 (.iload_n 2) 1 136 := tvDl_get dlk_X8_run_1 9 rfl rfl
theorem dk_X8_run_136 : tvD cX8_run 136 (.putfield 47) 3 139 := tvDl_get dlk_X8_run_1 10 rfl rfl
theorem dk_X8_run_139 : tvD cX8_run 139 (.aload_n 0) 1 140 := tvDl_get dlk_X8_run_1 11 rfl rfl
theorem dk_X8_run_140 : tvD cX8_run 140 (.iload 7) 2 142 := tvDl_get dlk_X8_run_1 12 rfl rfl
theorem dk_X8_run_142 : tvD cX8_run 142 (.iconst 4) 1 143 := tvDl_get dlk_X8_run_1 13 rfl rfl
theorem dk_X8_run_143 : tvJ cX8_run 143 (.if_icmp .ne) 150 146 := tvJl_get dlk_X8_run_1 14 rfl (by decide) rfl
theorem dk_X8_run_146 : tvD cX8_run 146 (.iconst 1) 1 147 := tvDl_get dlk_X8_run_1 15 rfl rfl
theorem dk_X8_run_147 : tvJ cX8_run 147 .goto 151 150 := tvJl_get dlk_X8_run_1 16 rfl (by decide) rfl
theorem dk_X8_run_150 : tvD cX8_run 150 (.iconst 0) 1 151 := tvDl_get dlk_X8_run_1 17 rfl rfl
theorem dk_X8_run_151 : tvD cX8_run 151 (.putfield 337) 3 154 := tvDl_get dlk_X8_run_1 18 rfl rfl
theorem dk_X8_run_154 : tvD cX8_run 154 (.new 341) 3 157 := tvDl_get dlk_X8_run_1 19 rfl rfl
theorem dk_X8_run_157 : tvD cX8_run 157 (.dup) 1 158 := tvDl_get dlk_X8_run_1 20 rfl rfl
theorem dk_X8_run_158 : tvD cX8_run 158 (.ldc_w 343) 3 161 := tvDl_get dlk_X8_run_1 21 rfl rfl
theorem dk_X8_run_161 : tvD cX8_run 161 (.invokespecial 345) 3 164 := tvDl_get dlk_X8_run_1 22 rfl rfl
theorem dk_X8_run_164 : tvD cX8_run 164 (.athrow) 1 165 := tvDl_get dlk_X8_run_1 23 rfl rfl
theorem dk_X8_run_165 : tvD cX8_run 165 (.aload_n 0) 1 166 := tvDl_get dlk_X8_run_1 24 rfl rfl
theorem dk_X8_run_166 : tvD cX8_run 166 (.getfield 12) 3 169 := tvDl_get dlk_X8_run_1 25 rfl rfl
theorem dk_X8_run_169 : tvD cX8_run 169 (.iload_n 3) 1 170 := tvDl_get dlk_X8_run_1 26 rfl rfl
theorem dk_X8_run_170 : tvD cX8_run 170 (.iload 4) 2 172 := tvDl_get dlk_X8_run_1 27 rfl rfl
theorem dk_X8_run_172 : tvD cX8_run 172 (.iload 5) 2 174 := tvDl_get dlk_X8_run_1 28 rfl rfl
theorem dk_X8_run_174 : tvD cX8_run 174 (.iload 6) 2 176 := tvDl_get dlk_X8_run_1 29 rfl rfl
theorem dk_X8_run_176 : tvD cX8_run 176 (.invokevirtual 346) 3 179 := tvDl_get dlk_X8_run_1 30 rfl rfl
theorem dk_X8_run_179 : tvD cX8_run 179 (.iinc 2 1) 3 182 := tvDl_get dlk_X8_run_1 31 rfl rfl
theorem dk_X8_run_182 : tvJ cX8_run 182 .goto 49 185 := tvJl_get dlk_X8_run_1 32 rfl (by decide) rfl
theorem dk_X8_run_185 : tvD cX8_run 185 (.aload_n 0) 1 186 := tvDl_get dlk_X8_run_1 33 rfl rfl
theorem dk_X8_run_186 : tvD cX8_run 186 (.getfield 25) 3 189 := tvDl_get dlk_X8_run_1 34 rfl rfl
theorem dk_X8_run_189 : tvD cX8_run 189 (.invokevirtual 350) 3 192 := tvDl_get dlk_X8_run_1 35 rfl rfl
theorem dk_X8_run_192 : tvD cX8_run 192 (.aload_n 0) 1 193 := tvDl_get dlk_X8_run_1 36 rfl rfl
theorem dk_X8_run_193 : tvD cX8_run 193 (.getfield 32) 3 196 := tvDl_get dlk_X8_run_1 37 rfl rfl
theorem dk_X8_run_196 : tvD cX8_run 196 (.getfield 323) 3 199 := tvDl_get dlk_X8_run_1 38 rfl rfl
theorem dk_X8_run_199 : tvD cX8_run 199 (.ireturn) 1 200 := tvDl_get dlk_X8_run_1 39 rfl rfl
