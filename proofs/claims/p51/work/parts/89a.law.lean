/-! ===== the law's body ===== -/
theorem pKd_c {B B' : Nat} {M M1 : tvM} {sv : Nat → Nat} (h : pKd B M sv) (e : ∀ a, a = 0 ∨ (41 ≤ a ∧ a < 61) → M1.1 a = M.1 a) (e2 : M1.2.1 41 = M.2.1 41) (hB : B ≤ B') (hB' : B' ≤ 10000000) : pKd B' M1 sv := by
  obtain ⟨h1, h2, h3⟩ := h
  refine ⟨by rw [e 0 (by omega)]; exact h1, ?_, h3⟩
  rw [show pL M1 41 = pL M 41 from congrFun e2 8]
  exact (pOk_cc h2 fun p k hr => congrFun (e _ (by unfold pRel at hr; omega)) k).up hB hB'
theorem kOut_kd {B B1 : Nat} {M M1 : tvM} {s sv : Nat → Nat} {lo : Nat} {e : Prop} {y : Int32} (h : kOut B1 M s lo e y M1) (hK : pKd B M sv) : pKd B M1 sv := by
  rcases h with ⟨v, s', x', n', S', -, -, -, -, -, -, -, h8⟩ | ⟨-, h2⟩ | ⟨-, -, s', x', n', S', -, -, -, -, -, h7⟩
  · exact pKd_fr hK h8
  · rw [h2]
    exact hK
  · exact pKd_fr hK h7
theorem zM_G {B : Nat} {M M1 : tvM} {s : Nat → Nat} {x n : Nat} {S : Nat → Nat → Nat} (h : zM M M1) (hG : pG B M s x n S) : pG B M1 s x n S :=
  pG_c hG (fun a q => h.1 a (by omega)) (fun a q => h.2 a (by omega))
theorem zM_E {M M1 : tvM} (h : zM M M1) (h0 : zE M) : zE M1 := (congrFun (h.1 243 (by omega)) 1).trans h0
theorem pUndo' {B : Nat} {M : tvM} {s s0 : Nat → Nat} {x n : Nat} {S : Nat → Nat → Nat} (hG : pG B M s x n S) (q : n ≠ 0) (hs : S (n - 1) = s0) : ∃ (M1 : tvM) (x' n' : Nat) (S' : Nat → Nat → Nat), f_X8_undo M = (none, nI (n - 1), M1) ∧ pG B M1 s0 x' n' S' ∧ pFr M M1 := by
  obtain ⟨M1, h1, h2, h3⟩ := pUndo hG q
  rw [hs] at h2
  exact ⟨M1, _, _, _, h1, h2, h3⟩

theorem ml_RL_252 : Cond.methodLink RL 252 yL_seen ∈ tvGW := tvgc (tvc_6 (List.mem_of_getElem? (i := 123) (by decide +kernel))) rfl
theorem yi_L_seen : Cond.static yL_seen ∈ tvGW := tvgc (tvc_6 (List.mem_of_getElem? (i := 124) (by decide +kernel))) rfl
theorem ml_RL_256 : Cond.methodLink RL 256 yL_acts ∈ tvGW := tvgc (tvc_4 (List.mem_of_getElem? (i := 130) (by decide +kernel))) rfl
theorem yi_L_acts : Cond.static yL_acts ∈ tvGW := tvgc (tvc_4 (List.mem_of_getElem? (i := 131) (by decide +kernel))) rfl
theorem ml_RL_248 : Cond.methodLink RL 248 yL_isWell ∈ tvGW := tvgc (tvc_6 (List.mem_of_getElem? (i := 218) (by decide +kernel))) rfl
theorem yi_L_isWell : Cond.static yL_isWell ∈ tvGW := tvgc (tvc_6 (List.mem_of_getElem? (i := 219) (by decide +kernel))) rfl
theorem kc_101 : Cond.constant RL 101 (-900009) ∈ tvGW := tvgc (tvc_6 (List.mem_of_getElem? (i := 3) (by decide +kernel))) rfl
theorem kc_260 : Cond.constant RL 260 (-900000) ∈ tvGW := tvgc (tvc_7 (List.mem_of_getElem? (i := 55) (by decide +kernel))) rfl
theorem ml_RL_261 : Cond.methodLink RL 261 yL_areAlike ∈ tvGW := tvgc (tvc_6 (List.mem_of_getElem? (i := 215) (by decide +kernel))) rfl
theorem yi_L_areAlike : Cond.static yL_areAlike ∈ tvGW := tvgc (tvc_6 (List.mem_of_getElem? (i := 216) (by decide +kernel))) rfl
theorem ml_RL_265 : Cond.methodLink RL 265 yL_undo ∈ tvGW := tvgc (tvc_2 (List.mem_of_getElem? (i := 232) (by decide +kernel))) rfl
theorem yi_L_undo : Cond.static yL_undo ∈ tvGW := tvgc (tvc_2 (List.mem_of_getElem? (i := 233) (by decide +kernel))) rfl
theorem ml_RL_267 : Cond.methodLink RL 267 yX8_save ∈ tvGW := tvgc (tvc_2 (List.mem_of_getElem? (i := 11) (by decide +kernel))) rfl
theorem ml_RL_270 : Cond.methodLink RL 270 yL_boxByValue ∈ tvGW := tvgc (tvc_2 (List.mem_of_getElem? (i := 209) (by decide +kernel))) rfl
theorem yi_L_boxByValue : Cond.static yL_boxByValue ∈ tvGW := tvgc (tvc_2 (List.mem_of_getElem? (i := 210) (by decide +kernel))) rfl
theorem ml_RL_272 : Cond.methodLink RL 272 yX8_writeBox ∈ tvGW := tvgc (tvc_1 (List.mem_of_getElem? (i := 196) (by decide +kernel))) rfl
theorem ml_RL_275 : Cond.methodLink RL 275 yX8_writeEvents ∈ tvGW := tvgc (tvc_1 (List.mem_of_getElem? (i := 234) (by decide +kernel))) rfl
theorem ml_RL_278 : Cond.methodLink RL 278 yL_restore ∈ tvGW := tvgc (tvc_3 (List.mem_of_getElem? (i := 8) (by decide +kernel))) rfl
theorem yi_L_restore : Cond.static yL_restore ∈ tvGW := tvgc (tvc_3 (List.mem_of_getElem? (i := 9) (by decide +kernel))) rfl
theorem ml_RL_244 : Cond.methodLink RL 244 yL_begun ∈ tvGW := tvgc (tvc_3 (List.mem_of_getElem? (i := 20) (by decide +kernel))) rfl
theorem yi_L_begun : Cond.static yL_begun ∈ tvGW := tvgc (tvc_3 (List.mem_of_getElem? (i := 21) (by decide +kernel))) rfl
def dl_L_law_g0 : List (Nat × Instr × Nat) := [(0, .aload_n 0, 1), (1, .invokestatic 244, 3), (4, .astore_n 1, 1), (5, .aload_n 1, 1), (6, .ifnull 10, 3), (9, .aload_n 1, 1), (10, .invokestatic 248, 3), (13, .ifCond .ne 5, 3), (18, .iconst 0, 1), (19, .istore_n 2, 1), (20, .iload_n 2, 1), (21, .bipush 10, 2), (23, .if_icmp .ge 116, 3), (26, .aload_n 1, 1), (27, .invokestatic 252, 3), (30, .astore_n 3, 1), (31, .aload_n 1, 1), (32, .aload_n 0, 1), (33, .bipush 15, 2), (35, .iconst 4, 1), (36, .iload_n 2, 1), (37, .imul, 1), (38, .iadd, 1), (39, .invokestatic 256, 3), (42, .istore 4, 2), (44, .iload 4, 2), (46, .ldc 38, 2), (48, .if_icmp .ne 7, 3), (51, .iconst 1, 1), (52, .goto 4, 3), (55, .iconst 0, 1), (56, .istore 5, 2), (58, .aload_n 1, 1), (59, .invokestatic 248, 3), (62, .ifCond .eq 34, 3), (65, .iload 4, 2), (67, .ldc 101, 2), (69, .if_icmp .eq 27, 3), (72, .iload 4, 2), (74, .ldc_w 260, 3), (77, .if_icmp .gt 21, 3), (80, .iload 5, 2), (82, .ifCond .ne 16, 3), (85, .aload_n 3, 1), (86, .aload_n 1, 1), (87, .invokestatic 252, 3), (90, .invokestatic 261, 3), (93, .ifCond .ne 5, 3), (98, .iload 5, 2), (100, .ifCond .eq 33, 3), (103, .aload_n 1, 1), (104, .invokevirtual 173, 3), (107, .aload_n 3, 1), (108, .iconst 1, 1), (109, .iaload, 1), (110, .if_icmp .lt 21, 3), (113, .aload_n 1, 1), (114, .invokestatic 265, 3), (117, .ifCond .lt 14, 3), (120, .aload_n 3, 1)]
theorem dlk_L_law_g0 : tvDl cL_law dl_L_law_g0 = true := by decide +kernel
theorem dk_L_law_0 : tvD cL_law 0 (.aload_n 0) 1 1 := tvDl_get dlk_L_law_g0 0 rfl rfl
theorem dk_L_law_1 : tvD cL_law 1 (.invokestatic 244) 3 4 := tvDl_get dlk_L_law_g0 1 rfl rfl
theorem dk_L_law_4 : tvD cL_law 4 (.astore_n 1) 1 5 := tvDl_get dlk_L_law_g0 2 rfl rfl
theorem dk_L_law_5 : tvD cL_law 5 (.aload_n 1) 1 6 := tvDl_get dlk_L_law_g0 3 rfl rfl
theorem dk_L_law_6 : tvJ cL_law 6 .ifnull 16 9 := tvJl_get dlk_L_law_g0 4 rfl (by decide) rfl
theorem dk_L_law_9 : tvD cL_law 9 (.aload_n 1) 1 10 := tvDl_get dlk_L_law_g0 5 rfl rfl
theorem dk_L_law_10 : tvD cL_law 10 (.invokestatic 248) 3 13 := tvDl_get dlk_L_law_g0 6 rfl rfl
theorem dk_L_law_13 : tvJ cL_law 13 (.ifCond .ne) 18 16 := tvJl_get dlk_L_law_g0 7 rfl (by decide) rfl
theorem dk_L_law_18 : tvD cL_law 18 (.iconst 0) 1 19 := tvDl_get dlk_L_law_g0 8 rfl rfl
theorem dk_L_law_19 : tvD cL_law 19 (.istore_n 2) 1 20 := tvDl_get dlk_L_law_g0 9 rfl rfl
theorem dk_L_law_20 : tvD cL_law 20 (.iload_n 2) 1 21 := tvDl_get dlk_L_law_g0 10 rfl rfl
theorem dk_L_law_21 : tvD cL_law 21 (.bipush 10) 2 23 := tvDl_get dlk_L_law_g0 11 rfl rfl
theorem dk_L_law_23 : tvJ cL_law 23 (.if_icmp .ge) 139 26 := tvJl_get dlk_L_law_g0 12 rfl (by decide) rfl
theorem dk_L_law_26 : tvD cL_law 26 (.aload_n 1) 1 27 := tvDl_get dlk_L_law_g0 13 rfl rfl
theorem dk_L_law_27 : tvD cL_law 27 (.invokestatic 252) 3 30 := tvDl_get dlk_L_law_g0 14 rfl rfl
theorem dk_L_law_30 : tvD cL_law 30 (.astore_n 3) 1 31 := tvDl_get dlk_L_law_g0 15 rfl rfl
theorem dk_L_law_31 : tvD cL_law 31 (.aload_n 1) 1 32 := tvDl_get dlk_L_law_g0 16 rfl rfl
theorem dk_L_law_32 : tvD cL_law 32 (.aload_n 0) 1 33 := tvDl_get dlk_L_law_g0 17 rfl rfl
theorem dk_L_law_33 : tvD cL_law 33 (.bipush 15) 2 35 := tvDl_get dlk_L_law_g0 18 rfl rfl
theorem dk_L_law_35 : tvD cL_law 35 (.iconst 4) 1 36 := tvDl_get dlk_L_law_g0 19 rfl rfl
theorem dk_L_law_36 : tvD cL_law 36 (.iload_n 2) 1 37 := tvDl_get dlk_L_law_g0 20 rfl rfl
theorem dk_L_law_37 : tvD cL_law 37 (.imul) 1 38 := tvDl_get dlk_L_law_g0 21 rfl rfl
theorem dk_L_law_38 : tvD cL_law 38 (.iadd) 1 39 := tvDl_get dlk_L_law_g0 22 rfl rfl
theorem dk_L_law_39 : tvD cL_law 39 (.invokestatic 256) 3 42 := tvDl_get dlk_L_law_g0 23 rfl rfl
theorem dk_L_law_42 : tvD cL_law 42 (.istore 4) 2 44 := tvDl_get dlk_L_law_g0 24 rfl rfl
theorem dk_L_law_44 : tvD cL_law 44 (.iload 4) 2 46 := tvDl_get dlk_L_law_g0 25 rfl rfl
theorem dk_L_law_46 : tvD cL_law 46 (.ldc 38) 2 48 := tvDl_get dlk_L_law_g0 26 rfl rfl
theorem dk_L_law_48 : tvJ cL_law 48 (.if_icmp .ne) 55 51 := tvJl_get dlk_L_law_g0 27 rfl (by decide) rfl
theorem dk_L_law_51 : tvD cL_law 51 (.iconst 1) 1 52 := tvDl_get dlk_L_law_g0 28 rfl rfl
theorem dk_L_law_52 : tvJ cL_law 52 .goto 56 55 := tvJl_get dlk_L_law_g0 29 rfl (by decide) rfl
theorem dk_L_law_55 : tvD cL_law 55 (.iconst 0) 1 56 := tvDl_get dlk_L_law_g0 30 rfl rfl
theorem dk_L_law_56 : tvD cL_law 56 (.istore 5) 2 58 := tvDl_get dlk_L_law_g0 31 rfl rfl
theorem dk_L_law_58 : tvD cL_law 58 (.aload_n 1) 1 59 := tvDl_get dlk_L_law_g0 32 rfl rfl
theorem dk_L_law_59 : tvD cL_law 59 (.invokestatic 248) 3 62 := tvDl_get dlk_L_law_g0 33 rfl rfl
theorem dk_L_law_62 : tvJ cL_law 62 (.ifCond .eq) 96 65 := tvJl_get dlk_L_law_g0 34 rfl (by decide) rfl
theorem dk_L_law_65 : tvD cL_law 65 (.iload 4) 2 67 := tvDl_get dlk_L_law_g0 35 rfl rfl
theorem dk_L_law_67 : tvD cL_law 67 (.ldc 101) 2 69 := tvDl_get dlk_L_law_g0 36 rfl rfl
theorem dk_L_law_69 : tvJ cL_law 69 (.if_icmp .eq) 96 72 := tvJl_get dlk_L_law_g0 37 rfl (by decide) rfl
theorem dk_L_law_72 : tvD cL_law 72 (.iload 4) 2 74 := tvDl_get dlk_L_law_g0 38 rfl rfl
theorem dk_L_law_74 : tvD cL_law 74 (.ldc_w 260) 3 77 := tvDl_get dlk_L_law_g0 39 rfl rfl
theorem dk_L_law_77 : tvJ cL_law 77 (.if_icmp .gt) 98 80 := tvJl_get dlk_L_law_g0 40 rfl (by decide) rfl
theorem dk_L_law_80 : tvD cL_law 80 (.iload 5) 2 82 := tvDl_get dlk_L_law_g0 41 rfl rfl
theorem dk_L_law_82 : tvJ cL_law 82 (.ifCond .ne) 98 85 := tvJl_get dlk_L_law_g0 42 rfl (by decide) rfl
theorem dk_L_law_85 : tvD cL_law 85 (.aload_n 3) 1 86 := tvDl_get dlk_L_law_g0 43 rfl rfl
theorem dk_L_law_86 : tvD cL_law 86 (.aload_n 1) 1 87 := tvDl_get dlk_L_law_g0 44 rfl rfl
theorem dk_L_law_87 : tvD cL_law 87 (.invokestatic 252) 3 90 := tvDl_get dlk_L_law_g0 45 rfl rfl
theorem dk_L_law_90 : tvD cL_law 90 (.invokestatic 261) 3 93 := tvDl_get dlk_L_law_g0 46 rfl rfl
theorem dk_L_law_93 : tvJ cL_law 93 (.ifCond .ne) 98 96 := tvJl_get dlk_L_law_g0 47 rfl (by decide) rfl
theorem dk_L_law_98 : tvD cL_law 98 (.iload 5) 2 100 := tvDl_get dlk_L_law_g0 48 rfl rfl
theorem dk_L_law_100 : tvJ cL_law 100 (.ifCond .eq) 133 103 := tvJl_get dlk_L_law_g0 49 rfl (by decide) rfl
theorem dk_L_law_103 : tvD cL_law 103 (.aload_n 1) 1 104 := tvDl_get dlk_L_law_g0 50 rfl rfl
theorem dk_L_law_104 : tvD cL_law 104 (.invokevirtual 173) 3 107 := tvDl_get dlk_L_law_g0 51 rfl rfl
theorem dk_L_law_107 : tvD cL_law 107 (.aload_n 3) 1 108 := tvDl_get dlk_L_law_g0 52 rfl rfl
theorem dk_L_law_108 : tvD cL_law 108 (.iconst 1) 1 109 := tvDl_get dlk_L_law_g0 53 rfl rfl
theorem dk_L_law_109 : tvD cL_law 109 (.iaload) 1 110 := tvDl_get dlk_L_law_g0 54 rfl rfl
theorem dk_L_law_110 : tvJ cL_law 110 (.if_icmp .lt) 131 113 := tvJl_get dlk_L_law_g0 55 rfl (by decide) rfl
theorem dk_L_law_113 : tvD cL_law 113 (.aload_n 1) 1 114 := tvDl_get dlk_L_law_g0 56 rfl rfl
theorem dk_L_law_114 : tvD cL_law 114 (.invokestatic 265) 3 117 := tvDl_get dlk_L_law_g0 57 rfl rfl
theorem dk_L_law_117 : tvJ cL_law 117 (.ifCond .lt) 131 120 := tvJl_get dlk_L_law_g0 58 rfl (by decide) rfl
theorem dk_L_law_120 : tvD cL_law 120 (.aload_n 3) 1 121 := tvDl_get dlk_L_law_g0 59 rfl rfl
def dl_L_law_g1 : List (Nat × Instr × Nat) := [(121, .aload_n 1, 1), (122, .invokestatic 252, 3), (125, .invokestatic 261, 3), (128, .ifCond .ne 5, 3), (133, .iinc 2 1, 3), (136, .goto (-116), 3), (139, .aload_n 1, 1), (140, .invokestatic 252, 3), (143, .astore_n 2, 1), (144, .aload_n 1, 1), (145, .iconst 0, 1), (146, .iconst 0, 1), (147, .iconst 1, 1), (148, .invokestatic 124, 3), (151, .ifCond .le 23, 3), (154, .aload_n 1, 1), (155, .invokestatic 265, 3), (158, .ifCond .lt 14, 3), (161, .aload_n 2, 1), (162, .aload_n 1, 1), (163, .invokestatic 252, 3), (166, .invokestatic 261, 3), (169, .ifCond .ne 5, 3), (174, .aload_n 1, 1), (175, .invokestatic 252, 3), (178, .astore_n 3, 1), (179, .aload_n 1, 1), (180, .invokevirtual 267, 3), (183, .istore 4, 2), (185, .aload_n 1, 1), (186, .iconst 0, 1), (187, .invokestatic 221, 3), (190, .aload_n 1, 1), (191, .iconst 0, 1), (192, .invokestatic 270, 3), (195, .iadd, 1), (196, .aload_n 1, 1), (197, .iconst 0, 1), (198, .invokevirtual 272, 3), (201, .iadd, 1), (202, .aload_n 1, 1), (203, .invokevirtual 275, 3), (206, .iadd, 1), (207, .aload_n 1, 1), (208, .bipush 77, 2), (210, .invokevirtual 186, 3), (213, .iadd, 1), (214, .istore 5, 2), (216, .aload_n 3, 1), (217, .aload_n 1, 1), (218, .invokestatic 252, 3), (221, .invokestatic 261, 3), (224, .ifCond .ne 5, 3), (229, .iload 5, 2), (231, .aload_n 1, 1), (232, .bipush 20, 2), (234, .invokestatic 119, 3), (237, .aload_n 1, 1), (238, .bipush 100, 2), (240, .bipush 30, 2)]
theorem dlk_L_law_g1 : tvDl cL_law dl_L_law_g1 = true := by decide +kernel
theorem dk_L_law_121 : tvD cL_law 121 (.aload_n 1) 1 122 := tvDl_get dlk_L_law_g1 0 rfl rfl
theorem dk_L_law_122 : tvD cL_law 122 (.invokestatic 252) 3 125 := tvDl_get dlk_L_law_g1 1 rfl rfl
theorem dk_L_law_125 : tvD cL_law 125 (.invokestatic 261) 3 128 := tvDl_get dlk_L_law_g1 2 rfl rfl
theorem dk_L_law_128 : tvJ cL_law 128 (.ifCond .ne) 133 131 := tvJl_get dlk_L_law_g1 3 rfl (by decide) rfl
theorem dk_L_law_133 : tvD cL_law 133 (.iinc 2 1) 3 136 := tvDl_get dlk_L_law_g1 4 rfl rfl
theorem dk_L_law_136 : tvJ cL_law 136 .goto 20 139 := tvJl_get dlk_L_law_g1 5 rfl (by decide) rfl
theorem dk_L_law_139 : tvD cL_law 139 (.aload_n 1) 1 140 := tvDl_get dlk_L_law_g1 6 rfl rfl
theorem dk_L_law_140 : tvD cL_law 140 (.invokestatic 252) 3 143 := tvDl_get dlk_L_law_g1 7 rfl rfl
theorem dk_L_law_143 : tvD cL_law 143 (.astore_n 2) 1 144 := tvDl_get dlk_L_law_g1 8 rfl rfl
theorem dk_L_law_144 : tvD cL_law 144 (.aload_n 1) 1 145 := tvDl_get dlk_L_law_g1 9 rfl rfl
theorem dk_L_law_145 : tvD cL_law 145 (.iconst 0) 1 146 := tvDl_get dlk_L_law_g1 10 rfl rfl
theorem dk_L_law_146 : tvD cL_law 146 (.iconst 0) 1 147 := tvDl_get dlk_L_law_g1 11 rfl rfl
theorem dk_L_law_147 : tvD cL_law 147 (.iconst 1) 1 148 := tvDl_get dlk_L_law_g1 12 rfl rfl
theorem dk_L_law_148 : tvD cL_law 148 (.invokestatic 124) 3 151 := tvDl_get dlk_L_law_g1 13 rfl rfl
theorem dk_L_law_151 : tvJ cL_law 151 (.ifCond .le) 174 154 := tvJl_get dlk_L_law_g1 14 rfl (by decide) rfl
theorem dk_L_law_154 : tvD cL_law 154 (.aload_n 1) 1 155 := tvDl_get dlk_L_law_g1 15 rfl rfl
theorem dk_L_law_155 : tvD cL_law 155 (.invokestatic 265) 3 158 := tvDl_get dlk_L_law_g1 16 rfl rfl
theorem dk_L_law_158 : tvJ cL_law 158 (.ifCond .lt) 172 161 := tvJl_get dlk_L_law_g1 17 rfl (by decide) rfl
theorem dk_L_law_161 : tvD cL_law 161 (.aload_n 2) 1 162 := tvDl_get dlk_L_law_g1 18 rfl rfl
theorem dk_L_law_162 : tvD cL_law 162 (.aload_n 1) 1 163 := tvDl_get dlk_L_law_g1 19 rfl rfl
theorem dk_L_law_163 : tvD cL_law 163 (.invokestatic 252) 3 166 := tvDl_get dlk_L_law_g1 20 rfl rfl
theorem dk_L_law_166 : tvD cL_law 166 (.invokestatic 261) 3 169 := tvDl_get dlk_L_law_g1 21 rfl rfl
theorem dk_L_law_169 : tvJ cL_law 169 (.ifCond .ne) 174 172 := tvJl_get dlk_L_law_g1 22 rfl (by decide) rfl
theorem dk_L_law_174 : tvD cL_law 174 (.aload_n 1) 1 175 := tvDl_get dlk_L_law_g1 23 rfl rfl
theorem dk_L_law_175 : tvD cL_law 175 (.invokestatic 252) 3 178 := tvDl_get dlk_L_law_g1 24 rfl rfl
theorem dk_L_law_178 : tvD cL_law 178 (.astore_n 3) 1 179 := tvDl_get dlk_L_law_g1 25 rfl rfl
theorem dk_L_law_179 : tvD cL_law 179 (.aload_n 1) 1 180 := tvDl_get dlk_L_law_g1 26 rfl rfl
theorem dk_L_law_180 : tvD cL_law 180 (.invokevirtual 267) 3 183 := tvDl_get dlk_L_law_g1 27 rfl rfl
theorem dk_L_law_183 : tvD cL_law 183 (.istore 4) 2 185 := tvDl_get dlk_L_law_g1 28 rfl rfl
theorem dk_L_law_185 : tvD cL_law 185 (.aload_n 1) 1 186 := tvDl_get dlk_L_law_g1 29 rfl rfl
theorem dk_L_law_186 : tvD cL_law 186 (.iconst 0) 1 187 := tvDl_get dlk_L_law_g1 30 rfl rfl
theorem dk_L_law_187 : tvD cL_law 187 (.invokestatic 221) 3 190 := tvDl_get dlk_L_law_g1 31 rfl rfl
theorem dk_L_law_190 : tvD cL_law 190 (.aload_n 1) 1 191 := tvDl_get dlk_L_law_g1 32 rfl rfl
theorem dk_L_law_191 : tvD cL_law 191 (.iconst 0) 1 192 := tvDl_get dlk_L_law_g1 33 rfl rfl
theorem dk_L_law_192 : tvD cL_law 192 (.invokestatic 270) 3 195 := tvDl_get dlk_L_law_g1 34 rfl rfl
theorem dk_L_law_195 : tvD cL_law 195 (.iadd) 1 196 := tvDl_get dlk_L_law_g1 35 rfl rfl
theorem dk_L_law_196 : tvD cL_law 196 (.aload_n 1) 1 197 := tvDl_get dlk_L_law_g1 36 rfl rfl
theorem dk_L_law_197 : tvD cL_law 197 (.iconst 0) 1 198 := tvDl_get dlk_L_law_g1 37 rfl rfl
theorem dk_L_law_198 : tvD cL_law 198 (.invokevirtual 272) 3 201 := tvDl_get dlk_L_law_g1 38 rfl rfl
theorem dk_L_law_201 : tvD cL_law 201 (.iadd) 1 202 := tvDl_get dlk_L_law_g1 39 rfl rfl
theorem dk_L_law_202 : tvD cL_law 202 (.aload_n 1) 1 203 := tvDl_get dlk_L_law_g1 40 rfl rfl
theorem dk_L_law_203 : tvD cL_law 203 (.invokevirtual 275) 3 206 := tvDl_get dlk_L_law_g1 41 rfl rfl
theorem dk_L_law_206 : tvD cL_law 206 (.iadd) 1 207 := tvDl_get dlk_L_law_g1 42 rfl rfl
theorem dk_L_law_207 : tvD cL_law 207 (.aload_n 1) 1 208 := tvDl_get dlk_L_law_g1 43 rfl rfl
theorem dk_L_law_208 : tvD cL_law 208 (.bipush 77) 2 210 := tvDl_get dlk_L_law_g1 44 rfl rfl
theorem dk_L_law_210 : tvD cL_law 210 (.invokevirtual 186) 3 213 := tvDl_get dlk_L_law_g1 45 rfl rfl
theorem dk_L_law_213 : tvD cL_law 213 (.iadd) 1 214 := tvDl_get dlk_L_law_g1 46 rfl rfl
theorem dk_L_law_214 : tvD cL_law 214 (.istore 5) 2 216 := tvDl_get dlk_L_law_g1 47 rfl rfl
theorem dk_L_law_216 : tvD cL_law 216 (.aload_n 3) 1 217 := tvDl_get dlk_L_law_g1 48 rfl rfl
theorem dk_L_law_217 : tvD cL_law 217 (.aload_n 1) 1 218 := tvDl_get dlk_L_law_g1 49 rfl rfl
theorem dk_L_law_218 : tvD cL_law 218 (.invokestatic 252) 3 221 := tvDl_get dlk_L_law_g1 50 rfl rfl
theorem dk_L_law_221 : tvD cL_law 221 (.invokestatic 261) 3 224 := tvDl_get dlk_L_law_g1 51 rfl rfl
theorem dk_L_law_224 : tvJ cL_law 224 (.ifCond .ne) 229 227 := tvJl_get dlk_L_law_g1 52 rfl (by decide) rfl
theorem dk_L_law_229 : tvD cL_law 229 (.iload 5) 2 231 := tvDl_get dlk_L_law_g1 53 rfl rfl
theorem dk_L_law_231 : tvD cL_law 231 (.aload_n 1) 1 232 := tvDl_get dlk_L_law_g1 54 rfl rfl
theorem dk_L_law_232 : tvD cL_law 232 (.bipush 20) 2 234 := tvDl_get dlk_L_law_g1 55 rfl rfl
theorem dk_L_law_234 : tvD cL_law 234 (.invokestatic 119) 3 237 := tvDl_get dlk_L_law_g1 56 rfl rfl
theorem dk_L_law_237 : tvD cL_law 237 (.aload_n 1) 1 238 := tvDl_get dlk_L_law_g1 57 rfl rfl
theorem dk_L_law_238 : tvD cL_law 238 (.bipush 100) 2 240 := tvDl_get dlk_L_law_g1 58 rfl rfl
theorem dk_L_law_240 : tvD cL_law 240 (.bipush 30) 2 242 := tvDl_get dlk_L_law_g1 59 rfl rfl
def dl_L_law_g2 : List (Nat × Instr × Nat) := [(242, .invokestatic 116, 3), (245, .iadd, 1), (246, .aload_n 1, 1), (247, .iconst 1, 1), (248, .iconst 1, 1), (249, .bipush 7, 2), (251, .invokestatic 124, 3), (254, .iadd, 1), (255, .aload_n 1, 1), (256, .iconst 5, 1), (257, .invokestatic 106, 3), (260, .iadd, 1), (261, .aload_n 1, 1), (262, .iconst 2, 1), (263, .invokestatic 136, 3), (266, .iadd, 1), (267, .iadd, 1), (268, .istore 5, 2), (270, .iload 5, 2), (272, .ldc 121, 2), (274, .if_icmp .le 36, 3), (277, .aload_n 1, 1), (278, .invokestatic 278, 3), (281, .iload 4, 2), (283, .if_icmp .ne 27, 3), (286, .aload_n 3, 1), (287, .aload_n 1, 1), (288, .invokestatic 252, 3), (291, .invokestatic 261, 3), (294, .ifCond .eq 16, 3), (297, .aload_n 1, 1), (298, .invokestatic 265, 3), (301, .ldc 17, 2), (303, .if_icmp .ne 7, 3), (306, .iconst 1, 1), (307, .goto 4, 3)]
theorem dlk_L_law_g2 : tvDl cL_law dl_L_law_g2 = true := by decide +kernel
theorem dk_L_law_242 : tvD cL_law 242 (.invokestatic 116) 3 245 := tvDl_get dlk_L_law_g2 0 rfl rfl
theorem dk_L_law_245 : tvD cL_law 245 (.iadd) 1 246 := tvDl_get dlk_L_law_g2 1 rfl rfl
theorem dk_L_law_246 : tvD cL_law 246 (.aload_n 1) 1 247 := tvDl_get dlk_L_law_g2 2 rfl rfl
theorem dk_L_law_247 : tvD cL_law 247 (.iconst 1) 1 248 := tvDl_get dlk_L_law_g2 3 rfl rfl
theorem dk_L_law_248 : tvD cL_law 248 (.iconst 1) 1 249 := tvDl_get dlk_L_law_g2 4 rfl rfl
theorem dk_L_law_249 : tvD cL_law 249 (.bipush 7) 2 251 := tvDl_get dlk_L_law_g2 5 rfl rfl
theorem dk_L_law_251 : tvD cL_law 251 (.invokestatic 124) 3 254 := tvDl_get dlk_L_law_g2 6 rfl rfl
theorem dk_L_law_254 : tvD cL_law 254 (.iadd) 1 255 := tvDl_get dlk_L_law_g2 7 rfl rfl
theorem dk_L_law_255 : tvD cL_law 255 (.aload_n 1) 1 256 := tvDl_get dlk_L_law_g2 8 rfl rfl
theorem dk_L_law_256 : tvD cL_law 256 (.iconst 5) 1 257 := tvDl_get dlk_L_law_g2 9 rfl rfl
theorem dk_L_law_257 : tvD cL_law 257 (.invokestatic 106) 3 260 := tvDl_get dlk_L_law_g2 10 rfl rfl
theorem dk_L_law_260 : tvD cL_law 260 (.iadd) 1 261 := tvDl_get dlk_L_law_g2 11 rfl rfl
theorem dk_L_law_261 : tvD cL_law 261 (.aload_n 1) 1 262 := tvDl_get dlk_L_law_g2 12 rfl rfl
theorem dk_L_law_262 : tvD cL_law 262 (.iconst 2) 1 263 := tvDl_get dlk_L_law_g2 13 rfl rfl
theorem dk_L_law_263 : tvD cL_law 263 (.invokestatic 136) 3 266 := tvDl_get dlk_L_law_g2 14 rfl rfl
theorem dk_L_law_266 : tvD cL_law 266 (.iadd) 1 267 := tvDl_get dlk_L_law_g2 15 rfl rfl
theorem dk_L_law_267 : tvD cL_law 267 (.iadd) 1 268 := tvDl_get dlk_L_law_g2 16 rfl rfl
theorem dk_L_law_268 : tvD cL_law 268 (.istore 5) 2 270 := tvDl_get dlk_L_law_g2 17 rfl rfl
theorem dk_L_law_270 : tvD cL_law 270 (.iload 5) 2 272 := tvDl_get dlk_L_law_g2 18 rfl rfl
theorem dk_L_law_272 : tvD cL_law 272 (.ldc 121) 2 274 := tvDl_get dlk_L_law_g2 19 rfl rfl
theorem dk_L_law_274 : tvJ cL_law 274 (.if_icmp .le) 310 277 := tvJl_get dlk_L_law_g2 20 rfl (by decide) rfl
theorem dk_L_law_277 : tvD cL_law 277 (.aload_n 1) 1 278 := tvDl_get dlk_L_law_g2 21 rfl rfl
theorem dk_L_law_278 : tvD cL_law 278 (.invokestatic 278) 3 281 := tvDl_get dlk_L_law_g2 22 rfl rfl
theorem dk_L_law_281 : tvD cL_law 281 (.iload 4) 2 283 := tvDl_get dlk_L_law_g2 23 rfl rfl
theorem dk_L_law_283 : tvJ cL_law 283 (.if_icmp .ne) 310 286 := tvJl_get dlk_L_law_g2 24 rfl (by decide) rfl
theorem dk_L_law_286 : tvD cL_law 286 (.aload_n 3) 1 287 := tvDl_get dlk_L_law_g2 25 rfl rfl
theorem dk_L_law_287 : tvD cL_law 287 (.aload_n 1) 1 288 := tvDl_get dlk_L_law_g2 26 rfl rfl
theorem dk_L_law_288 : tvD cL_law 288 (.invokestatic 252) 3 291 := tvDl_get dlk_L_law_g2 27 rfl rfl
theorem dk_L_law_291 : tvD cL_law 291 (.invokestatic 261) 3 294 := tvDl_get dlk_L_law_g2 28 rfl rfl
theorem dk_L_law_294 : tvJ cL_law 294 (.ifCond .eq) 310 297 := tvJl_get dlk_L_law_g2 29 rfl (by decide) rfl
theorem dk_L_law_297 : tvD cL_law 297 (.aload_n 1) 1 298 := tvDl_get dlk_L_law_g2 30 rfl rfl
theorem dk_L_law_298 : tvD cL_law 298 (.invokestatic 265) 3 301 := tvDl_get dlk_L_law_g2 31 rfl rfl
theorem dk_L_law_301 : tvD cL_law 301 (.ldc 17) 2 303 := tvDl_get dlk_L_law_g2 32 rfl rfl
theorem dk_L_law_303 : tvJ cL_law 303 (.if_icmp .ne) 310 306 := tvJl_get dlk_L_law_g2 33 rfl (by decide) rfl
theorem dk_L_law_306 : tvD cL_law 306 (.iconst 1) 1 307 := tvDl_get dlk_L_law_g2 34 rfl rfl
theorem dk_L_law_307 : tvJ cL_law 307 .goto 311 310 := tvJl_get dlk_L_law_g2 35 rfl (by decide) rfl
