def zOf : Array Int := #[103, 113, 125, 142, 142, 142, 142, 142, 142, 152, 152, 152, 200, 229, 229, 229, 239, 239, 245, 251, 251, 251]
theorem dk_L_acts_37 : decode cL_acts 37 = .ok (.tableswitch 275 0 21 zOf, 103) := by decide +kernel
theorem zsw_0 {d : Nat} (h1 : 0 ≤ d) (h2 : d ≤ 0) : tvSw cL_acts 37 (nI d) 140 := by
  obtain rfl : d = 0 := by omega
  exact Or.inl ⟨275, 0, 21, zOf, 103, 103, dk_L_acts_37, by decide, by decide, by decide, by decide⟩
theorem zsw_1 {d : Nat} (h1 : 1 ≤ d) (h2 : d ≤ 1) : tvSw cL_acts 37 (nI d) 150 := by
  obtain rfl : d = 1 := by omega
  exact Or.inl ⟨275, 0, 21, zOf, 103, 113, dk_L_acts_37, by decide, by decide, by decide, by decide⟩
theorem zsw_2 {d : Nat} (h1 : 2 ≤ d) (h2 : d ≤ 2) : tvSw cL_acts 37 (nI d) 162 := by
  obtain rfl : d = 2 := by omega
  exact Or.inl ⟨275, 0, 21, zOf, 103, 125, dk_L_acts_37, by decide, by decide, by decide, by decide⟩
theorem zsw_3 {d : Nat} (h1 : 3 ≤ d) (h2 : d ≤ 8) : tvSw cL_acts 37 (nI d) 179 := by
  rcases (show d = 3 ∨ d = 4 ∨ d = 5 ∨ d = 6 ∨ d = 7 ∨ d = 8 by omega) with rfl | rfl | rfl | rfl | rfl | rfl
  · exact Or.inl ⟨275, 0, 21, zOf, 103, 142, dk_L_acts_37, by decide, by decide, by decide, by decide⟩
  · exact Or.inl ⟨275, 0, 21, zOf, 103, 142, dk_L_acts_37, by decide, by decide, by decide, by decide⟩
  · exact Or.inl ⟨275, 0, 21, zOf, 103, 142, dk_L_acts_37, by decide, by decide, by decide, by decide⟩
  · exact Or.inl ⟨275, 0, 21, zOf, 103, 142, dk_L_acts_37, by decide, by decide, by decide, by decide⟩
  · exact Or.inl ⟨275, 0, 21, zOf, 103, 142, dk_L_acts_37, by decide, by decide, by decide, by decide⟩
  · exact Or.inl ⟨275, 0, 21, zOf, 103, 142, dk_L_acts_37, by decide, by decide, by decide, by decide⟩
theorem zsw_9 {d : Nat} (h1 : 9 ≤ d) (h2 : d ≤ 11) : tvSw cL_acts 37 (nI d) 189 := by
  rcases (show d = 9 ∨ d = 10 ∨ d = 11 by omega) with rfl | rfl | rfl
  · exact Or.inl ⟨275, 0, 21, zOf, 103, 152, dk_L_acts_37, by decide, by decide, by decide, by decide⟩
  · exact Or.inl ⟨275, 0, 21, zOf, 103, 152, dk_L_acts_37, by decide, by decide, by decide, by decide⟩
  · exact Or.inl ⟨275, 0, 21, zOf, 103, 152, dk_L_acts_37, by decide, by decide, by decide, by decide⟩
theorem zsw_12 {d : Nat} (h1 : 12 ≤ d) (h2 : d ≤ 12) : tvSw cL_acts 37 (nI d) 237 := by
  obtain rfl : d = 12 := by omega
  exact Or.inl ⟨275, 0, 21, zOf, 103, 200, dk_L_acts_37, by decide, by decide, by decide, by decide⟩
theorem zsw_13 {d : Nat} (h1 : 13 ≤ d) (h2 : d ≤ 15) : tvSw cL_acts 37 (nI d) 266 := by
  rcases (show d = 13 ∨ d = 14 ∨ d = 15 by omega) with rfl | rfl | rfl
  · exact Or.inl ⟨275, 0, 21, zOf, 103, 229, dk_L_acts_37, by decide, by decide, by decide, by decide⟩
  · exact Or.inl ⟨275, 0, 21, zOf, 103, 229, dk_L_acts_37, by decide, by decide, by decide, by decide⟩
  · exact Or.inl ⟨275, 0, 21, zOf, 103, 229, dk_L_acts_37, by decide, by decide, by decide, by decide⟩
theorem zsw_16 {d : Nat} (h1 : 16 ≤ d) (h2 : d ≤ 17) : tvSw cL_acts 37 (nI d) 276 := by
  rcases (show d = 16 ∨ d = 17 by omega) with rfl | rfl
  · exact Or.inl ⟨275, 0, 21, zOf, 103, 239, dk_L_acts_37, by decide, by decide, by decide, by decide⟩
  · exact Or.inl ⟨275, 0, 21, zOf, 103, 239, dk_L_acts_37, by decide, by decide, by decide, by decide⟩
theorem zsw_18 {d : Nat} (h1 : 18 ≤ d) (h2 : d ≤ 18) : tvSw cL_acts 37 (nI d) 282 := by
  obtain rfl : d = 18 := by omega
  exact Or.inl ⟨275, 0, 21, zOf, 103, 245, dk_L_acts_37, by decide, by decide, by decide, by decide⟩
theorem zsw_19 {d : Nat} (h1 : 19 ≤ d) (h2 : d ≤ 21) : tvSw cL_acts 37 (nI d) 288 := by
  rcases (show d = 19 ∨ d = 20 ∨ d = 21 by omega) with rfl | rfl | rfl
  · exact Or.inl ⟨275, 0, 21, zOf, 103, 251, dk_L_acts_37, by decide, by decide, by decide, by decide⟩
  · exact Or.inl ⟨275, 0, 21, zOf, 103, 251, dk_L_acts_37, by decide, by decide, by decide, by decide⟩
  · exact Or.inl ⟨275, 0, 21, zOf, 103, 251, dk_L_acts_37, by decide, by decide, by decide, by decide⟩
theorem zsw_22 {d : Nat} (h1 : 22 ≤ d) (h2 : d ≤ 25) : tvSw cL_acts 37 (nI d) 312 := by
  rcases (show d = 22 ∨ d = 23 ∨ d = 24 ∨ d = 25 by omega) with rfl | rfl | rfl | rfl
  · exact Or.inr (Or.inl ⟨275, 0, 21, zOf, 103, dk_L_acts_37, by decide, by decide⟩)
  · exact Or.inr (Or.inl ⟨275, 0, 21, zOf, 103, dk_L_acts_37, by decide, by decide⟩)
  · exact Or.inr (Or.inl ⟨275, 0, 21, zOf, 103, dk_L_acts_37, by decide, by decide⟩)
  · exact Or.inr (Or.inl ⟨275, 0, 21, zOf, 103, dk_L_acts_37, by decide, by decide⟩)

theorem yk_L_acts : tvYk yL_acts cL_acts 6 (some .int) 3 := ⟨tvgc (tvc_4 (List.mem_of_getElem? (i := 132) (by decide +kernel))) rfl, tvgc (tvc_1 (List.mem_of_getElem? (i := 0) (by decide +kernel))) rfl, by decide +kernel, by decide +kernel, plainFor_of_name (by decide +kernel)⟩
theorem ml_RL_109 : Cond.methodLink RL 109 yL_in ∈ tvGW := tvgc (tvc_4 (List.mem_of_getElem? (i := 14) (by decide +kernel))) rfl
theorem yi_L_in : Cond.static yL_in ∈ tvGW := tvgc (tvc_4 (List.mem_of_getElem? (i := 15) (by decide +kernel))) rfl
theorem ml_RL_106 : Cond.methodLink RL 106 yL_addHolder ∈ tvGW := tvgc (tvc_2 (List.mem_of_getElem? (i := 40) (by decide +kernel))) rfl
theorem yi_L_addHolder : Cond.static yL_addHolder ∈ tvGW := tvgc (tvc_2 (List.mem_of_getElem? (i := 41) (by decide +kernel))) rfl
theorem ml_RL_113 : Cond.methodLink RL 113 yL_addBox ∈ tvGW := tvgc (tvc_4 (List.mem_of_getElem? (i := 23) (by decide +kernel))) rfl
theorem yi_L_addBox : Cond.static yL_addBox ∈ tvGW := tvgc (tvc_4 (List.mem_of_getElem? (i := 24) (by decide +kernel))) rfl
theorem ml_RL_116 : Cond.methodLink RL 116 yL_setTide ∈ tvGW := tvgc (tvc_2 (List.mem_of_getElem? (i := 81) (by decide +kernel))) rfl
theorem yi_L_setTide : Cond.static yL_setTide ∈ tvGW := tvgc (tvc_2 (List.mem_of_getElem? (i := 82) (by decide +kernel))) rfl
theorem ml_RL_124 : Cond.methodLink RL 124 yL_turns ∈ tvGW := tvgc (tvc_4 (List.mem_of_getElem? (i := 44) (by decide +kernel))) rfl
theorem yi_L_turns : Cond.static yL_turns ∈ tvGW := tvgc (tvc_4 (List.mem_of_getElem? (i := 45) (by decide +kernel))) rfl
theorem ml_RL_119 : Cond.methodLink RL 119 yL_pass ∈ tvGW := tvgc (tvc_2 (List.mem_of_getElem? (i := 143) (by decide +kernel))) rfl
theorem yi_L_pass : Cond.static yL_pass ∈ tvGW := tvgc (tvc_2 (List.mem_of_getElem? (i := 144) (by decide +kernel))) rfl
theorem ml_RL_130 : Cond.methodLink RL 130 yL_changeCode ∈ tvGW := tvgc (tvc_4 (List.mem_of_getElem? (i := 137) (by decide +kernel))) rfl
theorem yi_L_changeCode : Cond.static yL_changeCode ∈ tvGW := tvgc (tvc_4 (List.mem_of_getElem? (i := 138) (by decide +kernel))) rfl
theorem ml_RL_132 : Cond.methodLink RL 132 yL_deposit ∈ tvGW := tvgc (tvc_4 (List.mem_of_getElem? (i := 156) (by decide +kernel))) rfl
theorem yi_L_deposit : Cond.static yL_deposit ∈ tvGW := tvgc (tvc_4 (List.mem_of_getElem? (i := 157) (by decide +kernel))) rfl
theorem ml_RL_134 : Cond.methodLink RL 134 yL_withdraw ∈ tvGW := tvgc (tvc_4 (List.mem_of_getElem? (i := 183) (by decide +kernel))) rfl
theorem yi_L_withdraw : Cond.static yL_withdraw ∈ tvGW := tvgc (tvc_4 (List.mem_of_getElem? (i := 184) (by decide +kernel))) rfl
theorem ml_RL_136 : Cond.methodLink RL 136 yL_close ∈ tvGW := tvgc (tvc_2 (List.mem_of_getElem? (i := 96) (by decide +kernel))) rfl
theorem yi_L_close : Cond.static yL_close ∈ tvGW := tvgc (tvc_2 (List.mem_of_getElem? (i := 97) (by decide +kernel))) rfl
def dl_L_acts_g0x : List (Nat × Instr × Nat) := [(0, .aload_n 1, 1), (1, .iload_n 2, 1), (2, .iconst 1, 1), (3, .iadd, 1), (4, .iconst 5, 1), (5, .invokestatic 109, 3), (8, .istore_n 3, 1), (9, .aload_n 1, 1), (10, .iload_n 2, 1), (11, .iconst 2, 1), (12, .iadd, 1), (13, .iconst 5, 1), (14, .invokestatic 109, 3), (17, .istore 4, 2), (19, .aload_n 1, 1), (20, .iload_n 2, 1), (21, .iconst 3, 1), (22, .iadd, 1), (23, .bipush 60, 2), (25, .invokestatic 109, 3), (28, .istore 5, 2), (30, .aload_n 1, 1), (31, .iload_n 2, 1), (32, .bipush 26, 2), (34, .invokestatic 109, 3), (140, .aload_n 0, 1), (141, .bipush 20, 2), (143, .iload 5, 2), (145, .imul, 1), (146, .invokestatic 106, 3), (149, .ireturn, 1), (150, .aload_n 0, 1), (151, .iload_n 3, 1), (152, .iload 4, 2), (154, .iload 5, 2), (156, .iconst 3, 1), (157, .iadd, 1), (158, .invokestatic 113, 3), (161, .ireturn, 1), (162, .aload_n 0, 1), (163, .bipush 8, 2), (165, .iload 5, 2), (167, .imul, 1), (168, .bipush 40, 2), (170, .iadd, 1), (171, .iconst 3, 1), (172, .iload 5, 2), (174, .imul, 1), (175, .invokestatic 116, 3), (178, .ireturn, 1), (179, .aload_n 0, 1), (180, .iload_n 3, 1), (181, .iload 4, 2), (183, .iload 5, 2), (185, .invokestatic 124, 3), (188, .ireturn, 1), (189, .iload_n 3, 1), (190, .aload_n 0, 1), (191, .invokevirtual 127, 3), (194, .if_icmp .ge 33, 3)]
theorem dlk_L_acts_g0x : tvDl cL_acts dl_L_acts_g0x = true := by decide +kernel
theorem dk_L_acts_0 : tvD cL_acts 0 (.aload_n 1) 1 1 := tvDl_get dlk_L_acts_g0x 0 rfl rfl
theorem dk_L_acts_1 : tvD cL_acts 1 (.iload_n 2) 1 2 := tvDl_get dlk_L_acts_g0x 1 rfl rfl
theorem dk_L_acts_2 : tvD cL_acts 2 (.iconst 1) 1 3 := tvDl_get dlk_L_acts_g0x 2 rfl rfl
theorem dk_L_acts_3 : tvD cL_acts 3 (.iadd) 1 4 := tvDl_get dlk_L_acts_g0x 3 rfl rfl
theorem dk_L_acts_4 : tvD cL_acts 4 (.iconst 5) 1 5 := tvDl_get dlk_L_acts_g0x 4 rfl rfl
theorem dk_L_acts_5 : tvD cL_acts 5 (.invokestatic 109) 3 8 := tvDl_get dlk_L_acts_g0x 5 rfl rfl
theorem dk_L_acts_8 : tvD cL_acts 8 (.istore_n 3) 1 9 := tvDl_get dlk_L_acts_g0x 6 rfl rfl
theorem dk_L_acts_9 : tvD cL_acts 9 (.aload_n 1) 1 10 := tvDl_get dlk_L_acts_g0x 7 rfl rfl
theorem dk_L_acts_10 : tvD cL_acts 10 (.iload_n 2) 1 11 := tvDl_get dlk_L_acts_g0x 8 rfl rfl
theorem dk_L_acts_11 : tvD cL_acts 11 (.iconst 2) 1 12 := tvDl_get dlk_L_acts_g0x 9 rfl rfl
theorem dk_L_acts_12 : tvD cL_acts 12 (.iadd) 1 13 := tvDl_get dlk_L_acts_g0x 10 rfl rfl
theorem dk_L_acts_13 : tvD cL_acts 13 (.iconst 5) 1 14 := tvDl_get dlk_L_acts_g0x 11 rfl rfl
theorem dk_L_acts_14 : tvD cL_acts 14 (.invokestatic 109) 3 17 := tvDl_get dlk_L_acts_g0x 12 rfl rfl
theorem dk_L_acts_17 : tvD cL_acts 17 (.istore 4) 2 19 := tvDl_get dlk_L_acts_g0x 13 rfl rfl
theorem dk_L_acts_19 : tvD cL_acts 19 (.aload_n 1) 1 20 := tvDl_get dlk_L_acts_g0x 14 rfl rfl
theorem dk_L_acts_20 : tvD cL_acts 20 (.iload_n 2) 1 21 := tvDl_get dlk_L_acts_g0x 15 rfl rfl
theorem dk_L_acts_21 : tvD cL_acts 21 (.iconst 3) 1 22 := tvDl_get dlk_L_acts_g0x 16 rfl rfl
theorem dk_L_acts_22 : tvD cL_acts 22 (.iadd) 1 23 := tvDl_get dlk_L_acts_g0x 17 rfl rfl
theorem dk_L_acts_23 : tvD cL_acts 23 (.bipush 60) 2 25 := tvDl_get dlk_L_acts_g0x 18 rfl rfl
theorem dk_L_acts_25 : tvD cL_acts 25 (.invokestatic 109) 3 28 := tvDl_get dlk_L_acts_g0x 19 rfl rfl
theorem dk_L_acts_28 : tvD cL_acts 28 (.istore 5) 2 30 := tvDl_get dlk_L_acts_g0x 20 rfl rfl
theorem dk_L_acts_30 : tvD cL_acts 30 (.aload_n 1) 1 31 := tvDl_get dlk_L_acts_g0x 21 rfl rfl
theorem dk_L_acts_31 : tvD cL_acts 31 (.iload_n 2) 1 32 := tvDl_get dlk_L_acts_g0x 22 rfl rfl
theorem dk_L_acts_32 : tvD cL_acts 32 (.bipush 26) 2 34 := tvDl_get dlk_L_acts_g0x 23 rfl rfl
theorem dk_L_acts_34 : tvD cL_acts 34 (.invokestatic 109) 3 37 := tvDl_get dlk_L_acts_g0x 24 rfl rfl
theorem dk_L_acts_140 : tvD cL_acts 140 (.aload_n 0) 1 141 := tvDl_get dlk_L_acts_g0x 25 rfl rfl
theorem dk_L_acts_141 : tvD cL_acts 141 (.bipush 20) 2 143 := tvDl_get dlk_L_acts_g0x 26 rfl rfl
theorem dk_L_acts_143 : tvD cL_acts 143 (.iload 5) 2 145 := tvDl_get dlk_L_acts_g0x 27 rfl rfl
theorem dk_L_acts_145 : tvD cL_acts 145 (.imul) 1 146 := tvDl_get dlk_L_acts_g0x 28 rfl rfl
theorem dk_L_acts_146 : tvD cL_acts 146 (.invokestatic 106) 3 149 := tvDl_get dlk_L_acts_g0x 29 rfl rfl
theorem dk_L_acts_149 : tvD cL_acts 149 (.ireturn) 1 150 := tvDl_get dlk_L_acts_g0x 30 rfl rfl
theorem dk_L_acts_150 : tvD cL_acts 150 (.aload_n 0) 1 151 := tvDl_get dlk_L_acts_g0x 31 rfl rfl
theorem dk_L_acts_151 : tvD cL_acts 151 (.iload_n 3) 1 152 := tvDl_get dlk_L_acts_g0x 32 rfl rfl
theorem dk_L_acts_152 : tvD cL_acts 152 (.iload 4) 2 154 := tvDl_get dlk_L_acts_g0x 33 rfl rfl
theorem dk_L_acts_154 : tvD cL_acts 154 (.iload 5) 2 156 := tvDl_get dlk_L_acts_g0x 34 rfl rfl
theorem dk_L_acts_156 : tvD cL_acts 156 (.iconst 3) 1 157 := tvDl_get dlk_L_acts_g0x 35 rfl rfl
theorem dk_L_acts_157 : tvD cL_acts 157 (.iadd) 1 158 := tvDl_get dlk_L_acts_g0x 36 rfl rfl
theorem dk_L_acts_158 : tvD cL_acts 158 (.invokestatic 113) 3 161 := tvDl_get dlk_L_acts_g0x 37 rfl rfl
theorem dk_L_acts_161 : tvD cL_acts 161 (.ireturn) 1 162 := tvDl_get dlk_L_acts_g0x 38 rfl rfl
theorem dk_L_acts_162 : tvD cL_acts 162 (.aload_n 0) 1 163 := tvDl_get dlk_L_acts_g0x 39 rfl rfl
theorem dk_L_acts_163 : tvD cL_acts 163 (.bipush 8) 2 165 := tvDl_get dlk_L_acts_g0x 40 rfl rfl
theorem dk_L_acts_165 : tvD cL_acts 165 (.iload 5) 2 167 := tvDl_get dlk_L_acts_g0x 41 rfl rfl
theorem dk_L_acts_167 : tvD cL_acts 167 (.imul) 1 168 := tvDl_get dlk_L_acts_g0x 42 rfl rfl
theorem dk_L_acts_168 : tvD cL_acts 168 (.bipush 40) 2 170 := tvDl_get dlk_L_acts_g0x 43 rfl rfl
theorem dk_L_acts_170 : tvD cL_acts 170 (.iadd) 1 171 := tvDl_get dlk_L_acts_g0x 44 rfl rfl
theorem dk_L_acts_171 : tvD cL_acts 171 (.iconst 3) 1 172 := tvDl_get dlk_L_acts_g0x 45 rfl rfl
theorem dk_L_acts_172 : tvD cL_acts 172 (.iload 5) 2 174 := tvDl_get dlk_L_acts_g0x 46 rfl rfl
theorem dk_L_acts_174 : tvD cL_acts 174 (.imul) 1 175 := tvDl_get dlk_L_acts_g0x 47 rfl rfl
theorem dk_L_acts_175 : tvD cL_acts 175 (.invokestatic 116) 3 178 := tvDl_get dlk_L_acts_g0x 48 rfl rfl
theorem dk_L_acts_178 : tvD cL_acts 178 (.ireturn) 1 179 := tvDl_get dlk_L_acts_g0x 49 rfl rfl
theorem dk_L_acts_179 : tvD cL_acts 179 (.aload_n 0) 1 180 := tvDl_get dlk_L_acts_g0x 50 rfl rfl
theorem dk_L_acts_180 : tvD cL_acts 180 (.iload_n 3) 1 181 := tvDl_get dlk_L_acts_g0x 51 rfl rfl
theorem dk_L_acts_181 : tvD cL_acts 181 (.iload 4) 2 183 := tvDl_get dlk_L_acts_g0x 52 rfl rfl
theorem dk_L_acts_183 : tvD cL_acts 183 (.iload 5) 2 185 := tvDl_get dlk_L_acts_g0x 53 rfl rfl
theorem dk_L_acts_185 : tvD cL_acts 185 (.invokestatic 124) 3 188 := tvDl_get dlk_L_acts_g0x 54 rfl rfl
theorem dk_L_acts_188 : tvD cL_acts 188 (.ireturn) 1 189 := tvDl_get dlk_L_acts_g0x 55 rfl rfl
theorem dk_L_acts_189 : tvD cL_acts 189 (.iload_n 3) 1 190 := tvDl_get dlk_L_acts_g0x 56 rfl rfl
theorem dk_L_acts_190 : tvD cL_acts 190 (.aload_n 0) 1 191 := tvDl_get dlk_L_acts_g0x 57 rfl rfl
theorem dk_L_acts_191 : tvD cL_acts 191 (.invokevirtual 127) 3 194 := tvDl_get dlk_L_acts_g0x 58 rfl rfl
theorem dk_L_acts_194 : tvJ cL_acts 194 (.if_icmp .ge) 227 197 := tvJl_get dlk_L_acts_g0x 59 rfl (by decide) rfl
def dl_L_acts_g1x : List (Nat × Instr × Nat) := [(197, .aload_n 0, 1), (198, .iload_n 3, 1), (199, .aload_n 1, 1), (200, .iload_n 2, 1), (201, .iconst 2, 1), (202, .iadd, 1), (203, .iconst 4, 1), (204, .invokestatic 109, 3), (207, .iconst 1, 1), (208, .invokestatic 124, 3), (211, .ifCond .le 16, 3), (214, .aload_n 0, 1), (215, .iconst 1, 1), (216, .iload 5, 2), (218, .iconst 4, 1), (219, .irem, 1), (220, .iadd, 1), (221, .invokestatic 119, 3), (224, .goto 12, 3), (227, .aload_n 0, 1), (228, .iload_n 3, 1), (229, .iload 4, 2), (231, .bipush 7, 2), (233, .invokestatic 124, 3), (236, .ireturn, 1), (237, .aload_n 0, 1), (238, .iload 4, 2), (240, .iload 5, 2), (242, .iconst 3, 1), (243, .irem, 1), (244, .ifCond .ne 8, 3), (247, .iload 5, 2), (249, .goto 8, 3), (252, .bipush 7, 2), (254, .iload 4, 2), (256, .imul, 1), (257, .bipush 7, 2), (259, .iload 4, 2), (261, .imul, 1), (262, .invokestatic 130, 3), (265, .ireturn, 1), (266, .aload_n 0, 1), (267, .iload_n 3, 1), (268, .iconst 2, 1), (269, .iload 5, 2), (271, .imul, 1), (272, .invokestatic 132, 3), (275, .ireturn, 1), (276, .aload_n 0, 1), (277, .iload_n 3, 1), (278, .invokestatic 134, 3), (281, .ireturn, 1), (282, .aload_n 0, 1), (283, .iload_n 3, 1), (284, .invokestatic 136, 3), (287, .ireturn, 1), (288, .aload_n 0, 1), (289, .iload 5, 2), (291, .iconst 3, 1), (292, .irem, 1)]
theorem dlk_L_acts_g1x : tvDl cL_acts dl_L_acts_g1x = true := by decide +kernel
theorem dk_L_acts_197 : tvD cL_acts 197 (.aload_n 0) 1 198 := tvDl_get dlk_L_acts_g1x 0 rfl rfl
theorem dk_L_acts_198 : tvD cL_acts 198 (.iload_n 3) 1 199 := tvDl_get dlk_L_acts_g1x 1 rfl rfl
theorem dk_L_acts_199 : tvD cL_acts 199 (.aload_n 1) 1 200 := tvDl_get dlk_L_acts_g1x 2 rfl rfl
theorem dk_L_acts_200 : tvD cL_acts 200 (.iload_n 2) 1 201 := tvDl_get dlk_L_acts_g1x 3 rfl rfl
theorem dk_L_acts_201 : tvD cL_acts 201 (.iconst 2) 1 202 := tvDl_get dlk_L_acts_g1x 4 rfl rfl
theorem dk_L_acts_202 : tvD cL_acts 202 (.iadd) 1 203 := tvDl_get dlk_L_acts_g1x 5 rfl rfl
theorem dk_L_acts_203 : tvD cL_acts 203 (.iconst 4) 1 204 := tvDl_get dlk_L_acts_g1x 6 rfl rfl
theorem dk_L_acts_204 : tvD cL_acts 204 (.invokestatic 109) 3 207 := tvDl_get dlk_L_acts_g1x 7 rfl rfl
theorem dk_L_acts_207 : tvD cL_acts 207 (.iconst 1) 1 208 := tvDl_get dlk_L_acts_g1x 8 rfl rfl
theorem dk_L_acts_208 : tvD cL_acts 208 (.invokestatic 124) 3 211 := tvDl_get dlk_L_acts_g1x 9 rfl rfl
theorem dk_L_acts_211 : tvJ cL_acts 211 (.ifCond .le) 227 214 := tvJl_get dlk_L_acts_g1x 10 rfl (by decide) rfl
theorem dk_L_acts_214 : tvD cL_acts 214 (.aload_n 0) 1 215 := tvDl_get dlk_L_acts_g1x 11 rfl rfl
theorem dk_L_acts_215 : tvD cL_acts 215 (.iconst 1) 1 216 := tvDl_get dlk_L_acts_g1x 12 rfl rfl
theorem dk_L_acts_216 : tvD cL_acts 216 (.iload 5) 2 218 := tvDl_get dlk_L_acts_g1x 13 rfl rfl
theorem dk_L_acts_218 : tvD cL_acts 218 (.iconst 4) 1 219 := tvDl_get dlk_L_acts_g1x 14 rfl rfl
theorem dk_L_acts_219 : tvD cL_acts 219 (.irem) 1 220 := tvDl_get dlk_L_acts_g1x 15 rfl rfl
theorem dk_L_acts_220 : tvD cL_acts 220 (.iadd) 1 221 := tvDl_get dlk_L_acts_g1x 16 rfl rfl
theorem dk_L_acts_221 : tvD cL_acts 221 (.invokestatic 119) 3 224 := tvDl_get dlk_L_acts_g1x 17 rfl rfl
theorem dk_L_acts_224 : tvJ cL_acts 224 .goto 236 227 := tvJl_get dlk_L_acts_g1x 18 rfl (by decide) rfl
theorem dk_L_acts_227 : tvD cL_acts 227 (.aload_n 0) 1 228 := tvDl_get dlk_L_acts_g1x 19 rfl rfl
theorem dk_L_acts_228 : tvD cL_acts 228 (.iload_n 3) 1 229 := tvDl_get dlk_L_acts_g1x 20 rfl rfl
theorem dk_L_acts_229 : tvD cL_acts 229 (.iload 4) 2 231 := tvDl_get dlk_L_acts_g1x 21 rfl rfl
theorem dk_L_acts_231 : tvD cL_acts 231 (.bipush 7) 2 233 := tvDl_get dlk_L_acts_g1x 22 rfl rfl
theorem dk_L_acts_233 : tvD cL_acts 233 (.invokestatic 124) 3 236 := tvDl_get dlk_L_acts_g1x 23 rfl rfl
theorem dk_L_acts_236 : tvD cL_acts 236 (.ireturn) 1 237 := tvDl_get dlk_L_acts_g1x 24 rfl rfl
theorem dk_L_acts_237 : tvD cL_acts 237 (.aload_n 0) 1 238 := tvDl_get dlk_L_acts_g1x 25 rfl rfl
theorem dk_L_acts_238 : tvD cL_acts 238 (.iload 4) 2 240 := tvDl_get dlk_L_acts_g1x 26 rfl rfl
theorem dk_L_acts_240 : tvD cL_acts 240 (.iload 5) 2 242 := tvDl_get dlk_L_acts_g1x 27 rfl rfl
theorem dk_L_acts_242 : tvD cL_acts 242 (.iconst 3) 1 243 := tvDl_get dlk_L_acts_g1x 28 rfl rfl
theorem dk_L_acts_243 : tvD cL_acts 243 (.irem) 1 244 := tvDl_get dlk_L_acts_g1x 29 rfl rfl
theorem dk_L_acts_244 : tvJ cL_acts 244 (.ifCond .ne) 252 247 := tvJl_get dlk_L_acts_g1x 30 rfl (by decide) rfl
theorem dk_L_acts_247 : tvD cL_acts 247 (.iload 5) 2 249 := tvDl_get dlk_L_acts_g1x 31 rfl rfl
theorem dk_L_acts_249 : tvJ cL_acts 249 .goto 257 252 := tvJl_get dlk_L_acts_g1x 32 rfl (by decide) rfl
theorem dk_L_acts_252 : tvD cL_acts 252 (.bipush 7) 2 254 := tvDl_get dlk_L_acts_g1x 33 rfl rfl
theorem dk_L_acts_254 : tvD cL_acts 254 (.iload 4) 2 256 := tvDl_get dlk_L_acts_g1x 34 rfl rfl
theorem dk_L_acts_256 : tvD cL_acts 256 (.imul) 1 257 := tvDl_get dlk_L_acts_g1x 35 rfl rfl
theorem dk_L_acts_257 : tvD cL_acts 257 (.bipush 7) 2 259 := tvDl_get dlk_L_acts_g1x 36 rfl rfl
theorem dk_L_acts_259 : tvD cL_acts 259 (.iload 4) 2 261 := tvDl_get dlk_L_acts_g1x 37 rfl rfl
theorem dk_L_acts_261 : tvD cL_acts 261 (.imul) 1 262 := tvDl_get dlk_L_acts_g1x 38 rfl rfl
theorem dk_L_acts_262 : tvD cL_acts 262 (.invokestatic 130) 3 265 := tvDl_get dlk_L_acts_g1x 39 rfl rfl
theorem dk_L_acts_265 : tvD cL_acts 265 (.ireturn) 1 266 := tvDl_get dlk_L_acts_g1x 40 rfl rfl
theorem dk_L_acts_266 : tvD cL_acts 266 (.aload_n 0) 1 267 := tvDl_get dlk_L_acts_g1x 41 rfl rfl
theorem dk_L_acts_267 : tvD cL_acts 267 (.iload_n 3) 1 268 := tvDl_get dlk_L_acts_g1x 42 rfl rfl
theorem dk_L_acts_268 : tvD cL_acts 268 (.iconst 2) 1 269 := tvDl_get dlk_L_acts_g1x 43 rfl rfl
theorem dk_L_acts_269 : tvD cL_acts 269 (.iload 5) 2 271 := tvDl_get dlk_L_acts_g1x 44 rfl rfl
theorem dk_L_acts_271 : tvD cL_acts 271 (.imul) 1 272 := tvDl_get dlk_L_acts_g1x 45 rfl rfl
theorem dk_L_acts_272 : tvD cL_acts 272 (.invokestatic 132) 3 275 := tvDl_get dlk_L_acts_g1x 46 rfl rfl
theorem dk_L_acts_275 : tvD cL_acts 275 (.ireturn) 1 276 := tvDl_get dlk_L_acts_g1x 47 rfl rfl
theorem dk_L_acts_276 : tvD cL_acts 276 (.aload_n 0) 1 277 := tvDl_get dlk_L_acts_g1x 48 rfl rfl
theorem dk_L_acts_277 : tvD cL_acts 277 (.iload_n 3) 1 278 := tvDl_get dlk_L_acts_g1x 49 rfl rfl
theorem dk_L_acts_278 : tvD cL_acts 278 (.invokestatic 134) 3 281 := tvDl_get dlk_L_acts_g1x 50 rfl rfl
theorem dk_L_acts_281 : tvD cL_acts 281 (.ireturn) 1 282 := tvDl_get dlk_L_acts_g1x 51 rfl rfl
theorem dk_L_acts_282 : tvD cL_acts 282 (.aload_n 0) 1 283 := tvDl_get dlk_L_acts_g1x 52 rfl rfl
theorem dk_L_acts_283 : tvD cL_acts 283 (.iload_n 3) 1 284 := tvDl_get dlk_L_acts_g1x 53 rfl rfl
theorem dk_L_acts_284 : tvD cL_acts 284 (.invokestatic 136) 3 287 := tvDl_get dlk_L_acts_g1x 54 rfl rfl
theorem dk_L_acts_287 : tvD cL_acts 287 (.ireturn) 1 288 := tvDl_get dlk_L_acts_g1x 55 rfl rfl
theorem dk_L_acts_288 : tvD cL_acts 288 (.aload_n 0) 1 289 := tvDl_get dlk_L_acts_g1x 56 rfl rfl
theorem dk_L_acts_289 : tvD cL_acts 289 (.iload 5) 2 291 := tvDl_get dlk_L_acts_g1x 57 rfl rfl
theorem dk_L_acts_291 : tvD cL_acts 291 (.iconst 3) 1 292 := tvDl_get dlk_L_acts_g1x 58 rfl rfl
theorem dk_L_acts_292 : tvD cL_acts 292 (.irem) 1 293 := tvDl_get dlk_L_acts_g1x 59 rfl rfl
def dl_L_acts_g2 : List (Nat × Instr × Nat) := [(293, .ifCond .ne 10, 3), (296, .iconst 3, 1), (297, .iload 5, 2), (299, .imul, 1), (300, .goto 8, 3), (303, .iload 5, 2), (305, .bipush 9, 2), (307, .irem, 1), (308, .invokestatic 119, 3), (311, .ireturn, 1)]
theorem dlk_L_acts_g2 : tvDl cL_acts dl_L_acts_g2 = true := by decide +kernel
theorem dk_L_acts_293 : tvJ cL_acts 293 (.ifCond .ne) 303 296 := tvJl_get dlk_L_acts_g2 0 rfl (by decide) rfl
theorem dk_L_acts_296 : tvD cL_acts 296 (.iconst 3) 1 297 := tvDl_get dlk_L_acts_g2 1 rfl rfl
theorem dk_L_acts_297 : tvD cL_acts 297 (.iload 5) 2 299 := tvDl_get dlk_L_acts_g2 2 rfl rfl
theorem dk_L_acts_299 : tvD cL_acts 299 (.imul) 1 300 := tvDl_get dlk_L_acts_g2 3 rfl rfl
theorem dk_L_acts_300 : tvJ cL_acts 300 .goto 308 303 := tvJl_get dlk_L_acts_g2 4 rfl (by decide) rfl
theorem dk_L_acts_303 : tvD cL_acts 303 (.iload 5) 2 305 := tvDl_get dlk_L_acts_g2 5 rfl rfl
theorem dk_L_acts_305 : tvD cL_acts 305 (.bipush 9) 2 307 := tvDl_get dlk_L_acts_g2 6 rfl rfl
theorem dk_L_acts_307 : tvD cL_acts 307 (.irem) 1 308 := tvDl_get dlk_L_acts_g2 7 rfl rfl
theorem dk_L_acts_308 : tvD cL_acts 308 (.invokestatic 119) 3 311 := tvDl_get dlk_L_acts_g2 8 rfl rfl
theorem dk_L_acts_311 : tvD cL_acts 311 (.ireturn) 1 312 := tvDl_get dlk_L_acts_g2 9 rfl rfl
