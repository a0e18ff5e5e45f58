/-! ===== begun ===== -/
theorem zI_ge {x : Int32} {m : Nat} (h : zI x m) (hm : m ≤ 50) : -90000000 ≤ x := by
  unfold zI at h
  rw [Int32.le_iff_toInt_le, show (-90000000 : Int32).toInt = -90000000 from by decide]
  omega
theorem zI_gt {x : Int32} {m : Nat} (h : zI x m) (hm : m ≤ 50) : -90000000 < x := by
  unfold zI at h
  rw [Int32.lt_iff_toInt_lt, show (-90000000 : Int32).toInt = -90000000 from by decide]
  omega
theorem zI_0 : zI 0 0 := by unfold zI; decide

theorem yk_L_begun : tvYk yL_begun cL_begun 5 (some (.object "TideVault")) 1 := ⟨tvgc (tvc_3 (List.mem_of_getElem? (i := 22) (by decide +kernel))) rfl, tvgc (tvc_1 (List.mem_of_getElem? (i := 0) (by decide +kernel))) rfl, by decide +kernel, by decide +kernel, plainFor_of_name (by decide +kernel)⟩
theorem nw_RL_10 : tvNw RL 10 8 := ⟨_, _, _, rfl, rfl, tvIn_8, tyX8_ok, tvgc (tvc_3 (List.mem_of_getElem? (i := 23) (by decide +kernel))) rfl, tvgc (tvc_1 (List.mem_of_getElem? (i := 38) (by decide +kernel))) rfl, tvgc (tvc_1 (List.mem_of_getElem? (i := 1) (by decide +kernel))) rfl, by decide⟩
theorem ml_RL_105 : Cond.methodLink RL 105 yX8_init ∈ tvGW := tvgc (tvc_3 (List.mem_of_getElem? (i := 24) (by decide +kernel))) rfl
theorem im_X8_init : Cond.instanceMethod yX8_init ∈ tvGW := tvgc (tvc_3 (List.mem_of_getElem? (i := 25) (by decide +kernel))) rfl
theorem kc_121 : Cond.constant RL 121 (-90000000) ∈ tvGW := tvgc (tvc_4 (List.mem_of_getElem? (i := 43) (by decide +kernel))) rfl
def dl_L_begun_g0 : List (Nat × Instr × Nat) := [(0, .new 10, 3), (3, .dup, 1), (4, .invokespecial 105, 3), (7, .astore_n 1, 1), (8, .iconst 0, 1), (9, .istore_n 2, 1), (10, .iconst 0, 1), (11, .istore_n 3, 1), (12, .iload_n 3, 1), (13, .iconst 4, 1), (14, .if_icmp .ge 20, 3), (17, .iload_n 2, 1), (18, .aload_n 1, 1), (19, .bipush 7, 2), (21, .iload_n 3, 1), (22, .imul, 1), (23, .invokestatic 106, 3), (26, .iadd, 1), (27, .istore_n 2, 1), (28, .iinc 3 1, 3), (31, .goto (-19), 3), (34, .iconst 0, 1), (35, .istore_n 3, 1), (36, .iload_n 3, 1), (37, .iconst 4, 1), (38, .if_icmp .ge 67, 3), (41, .aload_n 0, 1), (42, .iload_n 3, 1), (43, .iconst 4, 1), (44, .invokestatic 109, 3), (47, .istore 4, 2), (49, .iload_n 2, 1), (50, .aload_n 1, 1), (51, .iload 4, 2), (53, .iload 4, 2), (55, .iconst 1, 1), (56, .iadd, 1), (57, .aload_n 0, 1), (58, .iconst 4, 1), (59, .iload_n 3, 1), (60, .iadd, 1), (61, .iconst 3, 1), (62, .invokestatic 109, 3), (65, .iadd, 1), (66, .iconst 4, 1), (67, .irem, 1), (68, .aload_n 0, 1), (69, .bipush 8, 2), (71, .iload_n 3, 1), (72, .iadd, 1), (73, .iconst 3, 1), (74, .invokestatic 109, 3), (77, .ifCond .ne 7, 3), (80, .iconst 0, 1), (81, .goto 13, 3), (84, .aload_n 0, 1), (85, .bipush 8, 2), (87, .iload_n 3, 1), (88, .iadd, 1), (89, .bipush 20, 2)]
theorem dlk_L_begun_g0 : tvDl cL_begun dl_L_begun_g0 = true := by decide +kernel
theorem dk_L_begun_0 : tvD cL_begun 0 (.new 10) 3 3 := tvDl_get dlk_L_begun_g0 0 rfl rfl
theorem dk_L_begun_3 : tvD cL_begun 3 (.dup) 1 4 := tvDl_get dlk_L_begun_g0 1 rfl rfl
theorem dk_L_begun_4 : tvD cL_begun 4 (.invokespecial 105) 3 7 := tvDl_get dlk_L_begun_g0 2 rfl rfl
theorem dk_L_begun_7 : tvD cL_begun 7 (.astore_n 1) 1 8 := tvDl_get dlk_L_begun_g0 3 rfl rfl
theorem dk_L_begun_8 : tvD cL_begun 8 (.iconst 0) 1 9 := tvDl_get dlk_L_begun_g0 4 rfl rfl
theorem dk_L_begun_9 : tvD cL_begun 9 (.istore_n 2) 1 10 := tvDl_get dlk_L_begun_g0 5 rfl rfl
theorem dk_L_begun_10 : tvD cL_begun 10 (.iconst 0) 1 11 := tvDl_get dlk_L_begun_g0 6 rfl rfl
theorem dk_L_begun_11 : tvD cL_begun 11 (.istore_n 3) 1 12 := tvDl_get dlk_L_begun_g0 7 rfl rfl
theorem dk_L_begun_12 : tvD cL_begun 12 (.iload_n 3) 1 13 := tvDl_get dlk_L_begun_g0 8 rfl rfl
theorem dk_L_begun_13 : tvD cL_begun 13 (.iconst 4) 1 14 := tvDl_get dlk_L_begun_g0 9 rfl rfl
theorem dk_L_begun_14 : tvJ cL_begun 14 (.if_icmp .ge) 34 17 := tvJl_get dlk_L_begun_g0 10 rfl (by decide) rfl
theorem dk_L_begun_17 : tvD cL_begun 17 (.iload_n 2) 1 18 := tvDl_get dlk_L_begun_g0 11 rfl rfl
theorem dk_L_begun_18 : tvD cL_begun 18 (.aload_n 1) 1 19 := tvDl_get dlk_L_begun_g0 12 rfl rfl
theorem dk_L_begun_19 : tvD cL_begun 19 (.bipush 7) 2 21 := tvDl_get dlk_L_begun_g0 13 rfl rfl
theorem dk_L_begun_21 : tvD cL_begun 21 (.iload_n 3) 1 22 := tvDl_get dlk_L_begun_g0 14 rfl rfl
theorem dk_L_begun_22 : tvD cL_begun 22 (.imul) 1 23 := tvDl_get dlk_L_begun_g0 15 rfl rfl
theorem dk_L_begun_23 : tvD cL_begun 23 (.invokestatic 106) 3 26 := tvDl_get dlk_L_begun_g0 16 rfl rfl
theorem dk_L_begun_26 : tvD cL_begun 26 (.iadd) 1 27 := tvDl_get dlk_L_begun_g0 17 rfl rfl
theorem dk_L_begun_27 : tvD cL_begun 27 (.istore_n 2) 1 28 := tvDl_get dlk_L_begun_g0 18 rfl rfl
theorem dk_L_begun_28 : tvD cL_begun 28 (.iinc 3 1) 3 31 := tvDl_get dlk_L_begun_g0 19 rfl rfl
theorem dk_L_begun_31 : tvJ cL_begun 31 .goto 12 34 := tvJl_get dlk_L_begun_g0 20 rfl (by decide) rfl
theorem dk_L_begun_34 : tvD cL_begun 34 (.iconst 0) 1 35 := tvDl_get dlk_L_begun_g0 21 rfl rfl
theorem dk_L_begun_35 : tvD cL_begun 35 (.istore_n 3) 1 36 := tvDl_get dlk_L_begun_g0 22 rfl rfl
theorem dk_L_begun_36 : tvD cL_begun 36 (.iload_n 3) 1 37 := tvDl_get dlk_L_begun_g0 23 rfl rfl
theorem dk_L_begun_37 : tvD cL_begun 37 (.iconst 4) 1 38 := tvDl_get dlk_L_begun_g0 24 rfl rfl
theorem dk_L_begun_38 : tvJ cL_begun 38 (.if_icmp .ge) 105 41 := tvJl_get dlk_L_begun_g0 25 rfl (by decide) rfl
theorem dk_L_begun_41 : tvD cL_begun 41 (.aload_n 0) 1 42 := tvDl_get dlk_L_begun_g0 26 rfl rfl
theorem dk_L_begun_42 : tvD cL_begun 42 (.iload_n 3) 1 43 := tvDl_get dlk_L_begun_g0 27 rfl rfl
theorem dk_L_begun_43 : tvD cL_begun 43 (.iconst 4) 1 44 := tvDl_get dlk_L_begun_g0 28 rfl rfl
theorem dk_L_begun_44 : tvD cL_begun 44 (.invokestatic 109) 3 47 := tvDl_get dlk_L_begun_g0 29 rfl rfl
theorem dk_L_begun_47 : tvD cL_begun 47 (.istore 4) 2 49 := tvDl_get dlk_L_begun_g0 30 rfl rfl
theorem dk_L_begun_49 : tvD cL_begun 49 (.iload_n 2) 1 50 := tvDl_get dlk_L_begun_g0 31 rfl rfl
theorem dk_L_begun_50 : tvD cL_begun 50 (.aload_n 1) 1 51 := tvDl_get dlk_L_begun_g0 32 rfl rfl
theorem dk_L_begun_51 : tvD cL_begun 51 (.iload 4) 2 53 := tvDl_get dlk_L_begun_g0 33 rfl rfl
theorem dk_L_begun_53 : tvD cL_begun 53 (.iload 4) 2 55 := tvDl_get dlk_L_begun_g0 34 rfl rfl
theorem dk_L_begun_55 : tvD cL_begun 55 (.iconst 1) 1 56 := tvDl_get dlk_L_begun_g0 35 rfl rfl
theorem dk_L_begun_56 : tvD cL_begun 56 (.iadd) 1 57 := tvDl_get dlk_L_begun_g0 36 rfl rfl
theorem dk_L_begun_57 : tvD cL_begun 57 (.aload_n 0) 1 58 := tvDl_get dlk_L_begun_g0 37 rfl rfl
theorem dk_L_begun_58 : tvD cL_begun 58 (.iconst 4) 1 59 := tvDl_get dlk_L_begun_g0 38 rfl rfl
theorem dk_L_begun_59 : tvD cL_begun 59 (.iload_n 3) 1 60 := tvDl_get dlk_L_begun_g0 39 rfl rfl
theorem dk_L_begun_60 : tvD cL_begun 60 (.iadd) 1 61 := tvDl_get dlk_L_begun_g0 40 rfl rfl
theorem dk_L_begun_61 : tvD cL_begun 61 (.iconst 3) 1 62 := tvDl_get dlk_L_begun_g0 41 rfl rfl
theorem dk_L_begun_62 : tvD cL_begun 62 (.invokestatic 109) 3 65 := tvDl_get dlk_L_begun_g0 42 rfl rfl
theorem dk_L_begun_65 : tvD cL_begun 65 (.iadd) 1 66 := tvDl_get dlk_L_begun_g0 43 rfl rfl
theorem dk_L_begun_66 : tvD cL_begun 66 (.iconst 4) 1 67 := tvDl_get dlk_L_begun_g0 44 rfl rfl
theorem dk_L_begun_67 : tvD cL_begun 67 (.irem) 1 68 := tvDl_get dlk_L_begun_g0 45 rfl rfl
theorem dk_L_begun_68 : tvD cL_begun 68 (.aload_n 0) 1 69 := tvDl_get dlk_L_begun_g0 46 rfl rfl
theorem dk_L_begun_69 : tvD cL_begun 69 (.bipush 8) 2 71 := tvDl_get dlk_L_begun_g0 47 rfl rfl
theorem dk_L_begun_71 : tvD cL_begun 71 (.iload_n 3) 1 72 := tvDl_get dlk_L_begun_g0 48 rfl rfl
theorem dk_L_begun_72 : tvD cL_begun 72 (.iadd) 1 73 := tvDl_get dlk_L_begun_g0 49 rfl rfl
theorem dk_L_begun_73 : tvD cL_begun 73 (.iconst 3) 1 74 := tvDl_get dlk_L_begun_g0 50 rfl rfl
theorem dk_L_begun_74 : tvD cL_begun 74 (.invokestatic 109) 3 77 := tvDl_get dlk_L_begun_g0 51 rfl rfl
theorem dk_L_begun_77 : tvJ cL_begun 77 (.ifCond .ne) 84 80 := tvJl_get dlk_L_begun_g0 52 rfl (by decide) rfl
theorem dk_L_begun_80 : tvD cL_begun 80 (.iconst 0) 1 81 := tvDl_get dlk_L_begun_g0 53 rfl rfl
theorem dk_L_begun_81 : tvJ cL_begun 81 .goto 94 84 := tvJl_get dlk_L_begun_g0 54 rfl (by decide) rfl
theorem dk_L_begun_84 : tvD cL_begun 84 (.aload_n 0) 1 85 := tvDl_get dlk_L_begun_g0 55 rfl rfl
theorem dk_L_begun_85 : tvD cL_begun 85 (.bipush 8) 2 87 := tvDl_get dlk_L_begun_g0 56 rfl rfl
theorem dk_L_begun_87 : tvD cL_begun 87 (.iload_n 3) 1 88 := tvDl_get dlk_L_begun_g0 57 rfl rfl
theorem dk_L_begun_88 : tvD cL_begun 88 (.iadd) 1 89 := tvDl_get dlk_L_begun_g0 58 rfl rfl
theorem dk_L_begun_89 : tvD cL_begun 89 (.bipush 20) 2 91 := tvDl_get dlk_L_begun_g0 59 rfl rfl
def dl_L_begun_g1 : List (Nat × Instr × Nat) := [(91, .invokestatic 109, 3), (94, .invokestatic 113, 3), (97, .iadd, 1), (98, .istore_n 2, 1), (99, .iinc 3 1, 3), (102, .goto (-66), 3), (105, .iload_n 2, 1), (106, .aload_n 1, 1), (107, .bipush 60, 2), (109, .aload_n 0, 1), (110, .bipush 12, 2), (112, .bipush 60, 2), (114, .invokestatic 109, 3), (117, .iadd, 1), (118, .bipush 10, 2), (120, .aload_n 0, 1), (121, .bipush 13, 2), (123, .bipush 50, 2), (125, .invokestatic 109, 3), (128, .iadd, 1), (129, .invokestatic 116, 3), (132, .aload_n 1, 1), (133, .iconst 1, 1), (134, .aload_n 0, 1), (135, .bipush 14, 2), (137, .bipush 90, 2), (139, .invokestatic 109, 3), (142, .iadd, 1), (143, .invokestatic 119, 3), (146, .iadd, 1), (147, .iadd, 1), (148, .istore_n 2, 1), (149, .iload_n 2, 1), (150, .ldc 121, 2), (152, .if_icmp .ge 7, 3), (159, .aload_n 1, 1), (160, .areturn, 1)]
theorem dlk_L_begun_g1 : tvDl cL_begun dl_L_begun_g1 = true := by decide +kernel
theorem dk_L_begun_91 : tvD cL_begun 91 (.invokestatic 109) 3 94 := tvDl_get dlk_L_begun_g1 0 rfl rfl
theorem dk_L_begun_94 : tvD cL_begun 94 (.invokestatic 113) 3 97 := tvDl_get dlk_L_begun_g1 1 rfl rfl
theorem dk_L_begun_97 : tvD cL_begun 97 (.iadd) 1 98 := tvDl_get dlk_L_begun_g1 2 rfl rfl
theorem dk_L_begun_98 : tvD cL_begun 98 (.istore_n 2) 1 99 := tvDl_get dlk_L_begun_g1 3 rfl rfl
theorem dk_L_begun_99 : tvD cL_begun 99 (.iinc 3 1) 3 102 := tvDl_get dlk_L_begun_g1 4 rfl rfl
theorem dk_L_begun_102 : tvJ cL_begun 102 .goto 36 105 := tvJl_get dlk_L_begun_g1 5 rfl (by decide) rfl
theorem dk_L_begun_105 : tvD cL_begun 105 (.iload_n 2) 1 106 := tvDl_get dlk_L_begun_g1 6 rfl rfl
theorem dk_L_begun_106 : tvD cL_begun 106 (.aload_n 1) 1 107 := tvDl_get dlk_L_begun_g1 7 rfl rfl
theorem dk_L_begun_107 : tvD cL_begun 107 (.bipush 60) 2 109 := tvDl_get dlk_L_begun_g1 8 rfl rfl
theorem dk_L_begun_109 : tvD cL_begun 109 (.aload_n 0) 1 110 := tvDl_get dlk_L_begun_g1 9 rfl rfl
theorem dk_L_begun_110 : tvD cL_begun 110 (.bipush 12) 2 112 := tvDl_get dlk_L_begun_g1 10 rfl rfl
theorem dk_L_begun_112 : tvD cL_begun 112 (.bipush 60) 2 114 := tvDl_get dlk_L_begun_g1 11 rfl rfl
theorem dk_L_begun_114 : tvD cL_begun 114 (.invokestatic 109) 3 117 := tvDl_get dlk_L_begun_g1 12 rfl rfl
theorem dk_L_begun_117 : tvD cL_begun 117 (.iadd) 1 118 := tvDl_get dlk_L_begun_g1 13 rfl rfl
theorem dk_L_begun_118 : tvD cL_begun 118 (.bipush 10) 2 120 := tvDl_get dlk_L_begun_g1 14 rfl rfl
theorem dk_L_begun_120 : tvD cL_begun 120 (.aload_n 0) 1 121 := tvDl_get dlk_L_begun_g1 15 rfl rfl
theorem dk_L_begun_121 : tvD cL_begun 121 (.bipush 13) 2 123 := tvDl_get dlk_L_begun_g1 16 rfl rfl
theorem dk_L_begun_123 : tvD cL_begun 123 (.bipush 50) 2 125 := tvDl_get dlk_L_begun_g1 17 rfl rfl
theorem dk_L_begun_125 : tvD cL_begun 125 (.invokestatic 109) 3 128 := tvDl_get dlk_L_begun_g1 18 rfl rfl
theorem dk_L_begun_128 : tvD cL_begun 128 (.iadd) 1 129 := tvDl_get dlk_L_begun_g1 19 rfl rfl
theorem dk_L_begun_129 : tvD cL_begun 129 (.invokestatic 116) 3 132 := tvDl_get dlk_L_begun_g1 20 rfl rfl
theorem dk_L_begun_132 : tvD cL_begun 132 (.aload_n 1) 1 133 := tvDl_get dlk_L_begun_g1 21 rfl rfl
theorem dk_L_begun_133 : tvD cL_begun 133 (.iconst 1) 1 134 := tvDl_get dlk_L_begun_g1 22 rfl rfl
theorem dk_L_begun_134 : tvD cL_begun 134 (.aload_n 0) 1 135 := tvDl_get dlk_L_begun_g1 23 rfl rfl
theorem dk_L_begun_135 : tvD cL_begun 135 (.bipush 14) 2 137 := tvDl_get dlk_L_begun_g1 24 rfl rfl
theorem dk_L_begun_137 : tvD cL_begun 137 (.bipush 90) 2 139 := tvDl_get dlk_L_begun_g1 25 rfl rfl
theorem dk_L_begun_139 : tvD cL_begun 139 (.invokestatic 109) 3 142 := tvDl_get dlk_L_begun_g1 26 rfl rfl
theorem dk_L_begun_142 : tvD cL_begun 142 (.iadd) 1 143 := tvDl_get dlk_L_begun_g1 27 rfl rfl
theorem dk_L_begun_143 : tvD cL_begun 143 (.invokestatic 119) 3 146 := tvDl_get dlk_L_begun_g1 28 rfl rfl
theorem dk_L_begun_146 : tvD cL_begun 146 (.iadd) 1 147 := tvDl_get dlk_L_begun_g1 29 rfl rfl
theorem dk_L_begun_147 : tvD cL_begun 147 (.iadd) 1 148 := tvDl_get dlk_L_begun_g1 30 rfl rfl
theorem dk_L_begun_148 : tvD cL_begun 148 (.istore_n 2) 1 149 := tvDl_get dlk_L_begun_g1 31 rfl rfl
theorem dk_L_begun_149 : tvD cL_begun 149 (.iload_n 2) 1 150 := tvDl_get dlk_L_begun_g1 32 rfl rfl
theorem dk_L_begun_150 : tvD cL_begun 150 (.ldc 121) 2 152 := tvDl_get dlk_L_begun_g1 33 rfl rfl
theorem dk_L_begun_152 : tvJ cL_begun 152 (.if_icmp .ge) 159 155 := tvJl_get dlk_L_begun_g1 34 rfl (by decide) rfl
theorem dk_L_begun_159 : tvD cL_begun 159 (.aload_n 1) 1 160 := tvDl_get dlk_L_begun_g1 35 rfl rfl
theorem dk_L_begun_160 : tvD cL_begun 160 (.areturn) 1 161 := tvDl_get dlk_L_begun_g1 36 rfl rfl
