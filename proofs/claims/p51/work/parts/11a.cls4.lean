theorem fl_RX8_12 : tvFl RX8 12 8 0 := ⟨_, _, _, rfl, by decide, rfl, tvIn_8, rfl, Or.inl (tvgc (tvc_3 (List.mem_of_getElem? (i := 223) (by decide +kernel))) rfl)⟩
theorem fl_RX8_16 : tvFl RX8 16 8 1 := ⟨_, _, _, rfl, by decide, rfl, tvIn_8, rfl, Or.inl (tvgc (tvc_3 (List.mem_of_getElem? (i := 224) (by decide +kernel))) rfl)⟩
theorem fl_RX8_19 : tvFl RX8 19 8 2 := ⟨_, _, _, rfl, by decide, rfl, tvIn_8, rfl, Or.inl (tvgc (tvc_3 (List.mem_of_getElem? (i := 225) (by decide +kernel))) rfl)⟩
theorem fl_RX8_25 : tvFl RX8 25 8 3 := ⟨_, _, _, rfl, by decide, rfl, tvIn_8, rfl, Or.inl (tvgc (tvc_3 (List.mem_of_getElem? (i := 226) (by decide +kernel))) rfl)⟩
theorem fl_RX8_32 : tvFl RX8 32 8 4 := ⟨_, _, _, rfl, by decide, rfl, tvIn_8, rfl, Or.inl (tvgc (tvc_3 (List.mem_of_getElem? (i := 227) (by decide +kernel))) rfl)⟩
theorem fl_RX8_62 : tvFl RX8 62 6 1 := ⟨_, _, _, rfl, by decide, rfl, tvIn_6, rfl, Or.inr ⟨"TideVault", tvn 638 (by decide +kernel) rfl⟩⟩
theorem fl_RX8_75 : tvFl RX8 75 6 2 := ⟨_, _, _, rfl, by decide, rfl, tvIn_6, rfl, Or.inr ⟨"TideVault", tvn 640 (by decide +kernel) rfl⟩⟩
theorem fl_RX8_87 : tvFl RX8 87 6 0 := ⟨_, _, _, rfl, by decide, rfl, tvIn_6, rfl, Or.inr ⟨"TideVault", tvn 636 (by decide +kernel) rfl⟩⟩
theorem fl_RX8_137 : tvFl RX8 137 6 4 := ⟨_, _, _, rfl, by decide, rfl, tvIn_6, rfl, Or.inr ⟨"TideVault", tvn 644 (by decide +kernel) rfl⟩⟩
theorem fl_RX8_153 : tvFl RX8 153 6 5 := ⟨_, _, _, rfl, by decide, rfl, tvIn_6, rfl, Or.inr ⟨"TideVault", tvn 646 (by decide +kernel) rfl⟩⟩
theorem fl_RX8_156 : tvFl RX8 156 2 0 := ⟨_, _, _, rfl, by decide, rfl, tvIn_2, rfl, Or.inr ⟨"TideVault", tvn 560 (by decide +kernel) rfl⟩⟩
theorem fl_RX8_171 : tvFl RX8 171 0 0 := ⟨_, _, _, rfl, by decide, rfl, tvIn_0, rfl, Or.inr ⟨"TideVault", tvn 581 (by decide +kernel) rfl⟩⟩
theorem fl_RX8_236 : tvFl RX8 236 6 8 := ⟨_, _, _, rfl, by decide, rfl, tvIn_6, rfl, Or.inr ⟨"TideVault", tvn 650 (by decide +kernel) rfl⟩⟩
theorem fl_RX8_257 : tvFl RX8 257 6 3 := ⟨_, _, _, rfl, by decide, rfl, tvIn_6, rfl, Or.inr ⟨"TideVault", tvn 642 (by decide +kernel) rfl⟩⟩
theorem fl_RX8_261 : tvFl RX8 261 4 1 := ⟨_, _, _, rfl, by decide, rfl, tvIn_4, rfl, Or.inr ⟨"TideVault", tvn 620 (by decide +kernel) rfl⟩⟩
theorem fl_RX8_358 : tvFl RX8 358 1 2 := ⟨_, _, _, rfl, by decide, rfl, tvIn_1, rfl, Or.inr ⟨"TideVault", tvn 682 (by decide +kernel) rfl⟩⟩
theorem fl_RX8_365 : tvFl RX8 365 8 6 := ⟨_, _, _, rfl, by decide, rfl, tvIn_8, rfl, Or.inl (tvgc (tvc_3 (List.mem_of_getElem? (i := 229) (by decide +kernel))) rfl)⟩
theorem fl_RX1_13 : tvFl RX1 13 1 0 := ⟨_, _, _, rfl, by decide, rfl, tvIn_1, rfl, Or.inl (tvgc (tvc_3 (List.mem_of_getElem? (i := 172) (by decide +kernel))) rfl)⟩
theorem fl_RX1_25 : tvFl RX1 25 1 1 := ⟨_, _, _, rfl, by decide, rfl, tvIn_1, rfl, Or.inl (tvgc (tvc_3 (List.mem_of_getElem? (i := 173) (by decide +kernel))) rfl)⟩
theorem fl_RX1_38 : tvFl RX1 38 1 2 := ⟨_, _, _, rfl, by decide, rfl, tvIn_1, rfl, Or.inl (tvgc (tvc_3 (List.mem_of_getElem? (i := 174) (by decide +kernel))) rfl)⟩
theorem fl_RX3_11 : tvFl RX3 11 3 0 := ⟨_, _, _, rfl, by decide, rfl, tvIn_3, rfl, Or.inl (tvgc (tvc_3 (List.mem_of_getElem? (i := 215) (by decide +kernel))) rfl)⟩
theorem fl_RX3_15 : tvFl RX3 15 3 1 := ⟨_, _, _, rfl, by decide, rfl, tvIn_3, rfl, Or.inl (tvgc (tvc_3 (List.mem_of_getElem? (i := 216) (by decide +kernel))) rfl)⟩
theorem fl_RX5_9 : tvFl RX5 9 5 0 := ⟨_, _, _, rfl, by decide, rfl, tvIn_5, rfl, Or.inl (tvgc (tvc_3 (List.mem_of_getElem? (i := 189) (by decide +kernel))) rfl)⟩
theorem fl_RX5_15 : tvFl RX5 15 5 4 := ⟨_, _, _, rfl, by decide, rfl, tvIn_5, rfl, Or.inl (tvgc (tvc_3 (List.mem_of_getElem? (i := 194) (by decide +kernel))) rfl)⟩
theorem fl_RX5_19 : tvFl RX5 19 5 5 := ⟨_, _, _, rfl, by decide, rfl, tvIn_5, rfl, Or.inl (tvgc (tvc_3 (List.mem_of_getElem? (i := 195) (by decide +kernel))) rfl)⟩
theorem fl_RX5_22 : tvFl RX5 22 5 1 := ⟨_, _, _, rfl, by decide, rfl, tvIn_5, rfl, Or.inl (tvgc (tvc_3 (List.mem_of_getElem? (i := 190) (by decide +kernel))) rfl)⟩
theorem fl_RX5_26 : tvFl RX5 26 5 2 := ⟨_, _, _, rfl, by decide, rfl, tvIn_5, rfl, Or.inl (tvgc (tvc_3 (List.mem_of_getElem? (i := 191) (by decide +kernel))) rfl)⟩
theorem fl_RX5_29 : tvFl RX5 29 5 3 := ⟨_, _, _, rfl, by decide, rfl, tvIn_5, rfl, Or.inl (tvgc (tvc_3 (List.mem_of_getElem? (i := 192) (by decide +kernel))) rfl)⟩
theorem fw_1_1 : tvFw 1 1 := ⟨_, _, _, rfl, tyX1_ok, nmX1, rfl⟩
theorem fw_1_2 : tvFw 1 2 := ⟨_, _, _, rfl, tyX1_ok, nmX1, rfl⟩
theorem fw_3_1 : tvFw 3 1 := ⟨_, _, _, rfl, tyX3_ok, nmX3, rfl⟩
theorem fw_5_1 : tvFw 5 1 := ⟨_, _, _, rfl, tyX5_ok, nmX5, rfl⟩
theorem fw_5_2 : tvFw 5 2 := ⟨_, _, _, rfl, tyX5_ok, nmX5, rfl⟩
theorem fw_8_6 : tvFw 8 6 := ⟨_, _, _, rfl, tyX8_ok, nmX8, rfl⟩
theorem th_RX8_179_181 : tvTh RX8 179 181 183 46 "java/lang/IllegalArgumentException" "not a holder of the box" := ⟨tvgc (tvc_1 (List.mem_of_getElem? (i := 116) (by decide +kernel))) rfl, tvgc (tvc_1 (List.mem_of_getElem? (i := 14) (by decide +kernel))) rfl, by decide +kernel, List.mem_of_getElem? (i := 37) rfl, by decide +kernel⟩
theorem th_RX8_215_217 : tvThN RX8 215 217 219 45 "java/util/NoSuchElementException" "no such pearl" := ⟨rfl, tvgc (tvc_1 (List.mem_of_getElem? (i := 164) (by decide +kernel))) rfl, tvgc (tvc_1 (List.mem_of_getElem? (i := 17) (by decide +kernel))) rfl, List.mem_of_getElem? (i := 36) rfl, by decide +kernel⟩
theorem th_RX8_215_227 : tvThN RX8 215 227 219 38 "java/util/NoSuchElementException" "no such rank" := ⟨rfl, tvgc (tvc_1 (List.mem_of_getElem? (i := 164) (by decide +kernel))) rfl, tvgc (tvc_1 (List.mem_of_getElem? (i := 17) (by decide +kernel))) rfl, List.mem_of_getElem? (i := 29) rfl, by decide +kernel⟩
theorem th_RX8_305_307 : tvTh RX8 305 307 309 42 "java/lang/IllegalStateException" "the program buffer is full" := ⟨tvgc (tvc_1 (List.mem_of_getElem? (i := 132) (by decide +kernel))) rfl, tvgc (tvc_1 (List.mem_of_getElem? (i := 15) (by decide +kernel))) rfl, by decide +kernel, List.mem_of_getElem? (i := 33) rfl, by decide +kernel⟩
theorem th_RX8_305_359 : tvTh RX8 305 359 309 39 "java/lang/IllegalStateException" "no change can be undone" := ⟨tvgc (tvc_1 (List.mem_of_getElem? (i := 132) (by decide +kernel))) rfl, tvgc (tvc_1 (List.mem_of_getElem? (i := 15) (by decide +kernel))) rfl, by decide +kernel, List.mem_of_getElem? (i := 30) rfl, by decide +kernel⟩
theorem th_RX8_305_368 : tvTh RX8 305 368 309 40 "java/lang/IllegalStateException" "no state was saved" := ⟨tvgc (tvc_1 (List.mem_of_getElem? (i := 132) (by decide +kernel))) rfl, tvgc (tvc_1 (List.mem_of_getElem? (i := 15) (by decide +kernel))) rfl, by decide +kernel, List.mem_of_getElem? (i := 31) rfl, by decide +kernel⟩
theorem dk_X5_formOf_1_c0 : tvSw cX5_formOf 1 0 48 := Or.inl ⟨71, 0, 7, #[47, 50, 53, 56, 59, 62, 65, 68], 47, 47, by decide +kernel, by decide, by decide, by decide, by decide⟩
theorem dk_X5_formOf_1_c1 : tvSw cX5_formOf 1 1 51 := Or.inl ⟨71, 0, 7, #[47, 50, 53, 56, 59, 62, 65, 68], 47, 50, by decide +kernel, by decide, by decide, by decide, by decide⟩
theorem dk_X5_formOf_1_c2 : tvSw cX5_formOf 1 2 54 := Or.inl ⟨71, 0, 7, #[47, 50, 53, 56, 59, 62, 65, 68], 47, 53, by decide +kernel, by decide, by decide, by decide, by decide⟩
theorem dk_X5_formOf_1_c3 : tvSw cX5_formOf 1 3 57 := Or.inl ⟨71, 0, 7, #[47, 50, 53, 56, 59, 62, 65, 68], 47, 56, by decide +kernel, by decide, by decide, by decide, by decide⟩
theorem dk_X5_formOf_1_c4 : tvSw cX5_formOf 1 4 60 := Or.inl ⟨71, 0, 7, #[47, 50, 53, 56, 59, 62, 65, 68], 47, 59, by decide +kernel, by decide, by decide, by decide, by decide⟩
theorem dk_X5_formOf_1_c5 : tvSw cX5_formOf 1 5 63 := Or.inl ⟨71, 0, 7, #[47, 50, 53, 56, 59, 62, 65, 68], 47, 62, by decide +kernel, by decide, by decide, by decide, by decide⟩
theorem dk_X5_formOf_1_c6 : tvSw cX5_formOf 1 6 66 := Or.inl ⟨71, 0, 7, #[47, 50, 53, 56, 59, 62, 65, 68], 47, 65, by decide +kernel, by decide, by decide, by decide, by decide⟩
theorem dk_X5_formOf_1_c7 : tvSw cX5_formOf 1 7 69 := Or.inl ⟨71, 0, 7, #[47, 50, 53, 56, 59, 62, 65, 68], 47, 68, by decide +kernel, by decide, by decide, by decide, by decide⟩
theorem dk_X5_formOf_1_d {x : Int32} (h0 : ¬ x = 0) (h1 : ¬ x = 1) (h2 : ¬ x = 2) (h3 : ¬ x = 3) (h4 : ¬ x = 4) (h5 : ¬ x = 5) (h6 : ¬ x = 6) (h7 : ¬ x = 7) : tvSw cX5_formOf 1 x 72 := Or.inr (Or.inl ⟨71, 0, 7, #[47, 50, 53, 56, 59, 62, 65, 68], 47, by decide +kernel, tvsw_out x 0 8 (by decide) (by intro c u1 u2; rcases (show c = 0 ∨ c = 1 ∨ c = 2 ∨ c = 3 ∨ c = 4 ∨ c = 5 ∨ c = 6 ∨ c = 7 by omega) with rfl | rfl | rfl | rfl | rfl | rfl | rfl | rfl <;> first | exact h0 | exact h1 | exact h2 | exact h3 | exact h4 | exact h5 | exact h6 | exact h7), by decide⟩)
theorem dk_X5_wordOf_1_c0 : tvSw cX5_wordOf 1 0 48 := Or.inl ⟨71, 0, 7, #[47, 50, 53, 56, 59, 62, 65, 68], 47, 47, by decide +kernel, by decide, by decide, by decide, by decide⟩
theorem dk_X5_wordOf_1_c1 : tvSw cX5_wordOf 1 1 51 := Or.inl ⟨71, 0, 7, #[47, 50, 53, 56, 59, 62, 65, 68], 47, 50, by decide +kernel, by decide, by decide, by decide, by decide⟩
theorem dk_X5_wordOf_1_c2 : tvSw cX5_wordOf 1 2 54 := Or.inl ⟨71, 0, 7, #[47, 50, 53, 56, 59, 62, 65, 68], 47, 53, by decide +kernel, by decide, by decide, by decide, by decide⟩
theorem dk_X5_wordOf_1_c3 : tvSw cX5_wordOf 1 3 57 := Or.inl ⟨71, 0, 7, #[47, 50, 53, 56, 59, 62, 65, 68], 47, 56, by decide +kernel, by decide, by decide, by decide, by decide⟩
theorem dk_X5_wordOf_1_c4 : tvSw cX5_wordOf 1 4 60 := Or.inl ⟨71, 0, 7, #[47, 50, 53, 56, 59, 62, 65, 68], 47, 59, by decide +kernel, by decide, by decide, by decide, by decide⟩
theorem dk_X5_wordOf_1_c5 : tvSw cX5_wordOf 1 5 63 := Or.inl ⟨71, 0, 7, #[47, 50, 53, 56, 59, 62, 65, 68], 47, 62, by decide +kernel, by decide, by decide, by decide, by decide⟩
theorem dk_X5_wordOf_1_c6 : tvSw cX5_wordOf 1 6 66 := Or.inl ⟨71, 0, 7, #[47, 50, 53, 56, 59, 62, 65, 68], 47, 65, by decide +kernel, by decide, by decide, by decide, by decide⟩
theorem dk_X5_wordOf_1_c7 : tvSw cX5_wordOf 1 7 69 := Or.inl ⟨71, 0, 7, #[47, 50, 53, 56, 59, 62, 65, 68], 47, 68, by decide +kernel, by decide, by decide, by decide, by decide⟩
theorem dk_X5_wordOf_1_d {x : Int32} (h0 : ¬ x = 0) (h1 : ¬ x = 1) (h2 : ¬ x = 2) (h3 : ¬ x = 3) (h4 : ¬ x = 4) (h5 : ¬ x = 5) (h6 : ¬ x = 6) (h7 : ¬ x = 7) : tvSw cX5_wordOf 1 x 72 := Or.inr (Or.inl ⟨71, 0, 7, #[47, 50, 53, 56, 59, 62, 65, 68], 47, by decide +kernel, tvsw_out x 0 8 (by decide) (by intro c u1 u2; rcases (show c = 0 ∨ c = 1 ∨ c = 2 ∨ c = 3 ∨ c = 4 ∨ c = 5 ∨ c = 6 ∨ c = 7 by omega) with rfl | rfl | rfl | rfl | rfl | rfl | rfl | rfl <;> first | exact h0 | exact h1 | exact h2 | exact h3 | exact h4 | exact h5 | exact h6 | exact h7), by decide⟩)
theorem ml_RX8_50 : Cond.methodLink RX8 50 yX6_refusalOfHolder ∈ tvGW := tvgc (tvc_2 (List.mem_of_getElem? (i := 49) (by decide +kernel))) rfl
theorem ml_RX8_54 : Cond.methodLink RX8 54 yX8_refuse ∈ tvGW := tvgc (tvc_1 (List.mem_of_getElem? (i := 40) (by decide +kernel))) rfl
theorem ml_RX8_58 : Cond.methodLink RX8 58 yX1_keep ∈ tvGW := tvgc (tvc_2 (List.mem_of_getElem? (i := 58) (by decide +kernel))) rfl
theorem ml_RX8_66 : Cond.methodLink RX8 66 yX2_add ∈ tvGW := tvgc (tvc_2 (List.mem_of_getElem? (i := 75) (by decide +kernel))) rfl
theorem ml_RX8_71 : Cond.methodLink RX8 71 yX6_refusalOfBox ∈ tvGW := tvgc (tvc_4 (List.mem_of_getElem? (i := 30) (by decide +kernel))) rfl
theorem ml_RX8_79 : Cond.methodLink RX8 79 yX0_add ∈ tvGW := tvgc (tvc_4 (List.mem_of_getElem? (i := 38) (by decide +kernel))) rfl
theorem ml_RX8_83 : Cond.methodLink RX8 83 yX6_refusalOfTide ∈ tvGW := tvgc (tvc_2 (List.mem_of_getElem? (i := 88) (by decide +kernel))) rfl
theorem ml_RX8_91 : Cond.methodLink RX8 91 yX7_become ∈ tvGW := tvgc (tvc_2 (List.mem_of_getElem? (i := 92) (by decide +kernel))) rfl
theorem ml_RX8_96 : Cond.methodLink RX8 96 yX6_refusalOfTurn ∈ tvGW := tvgc (tvc_4 (List.mem_of_getElem? (i := 55) (by decide +kernel))) rfl
theorem ml_RX8_99 : Cond.methodLink RX8 99 yX8_hearCode ∈ tvGW := tvgc (tvc_4 (List.mem_of_getElem? (i := 87) (by decide +kernel))) rfl
theorem ml_RX8_103 : Cond.methodLink RX8 103 yX6_turn ∈ tvGW := tvgc (tvc_4 (List.mem_of_getElem? (i := 112) (by decide +kernel))) rfl
theorem ml_RX8_107 : Cond.methodLink RX8 107 yX6_refusalOfCode ∈ tvGW := tvgc (tvc_4 (List.mem_of_getElem? (i := 144) (by decide +kernel))) rfl
theorem ml_RX8_110 : Cond.methodLink RX8 110 yX6_recode ∈ tvGW := tvgc (tvc_4 (List.mem_of_getElem? (i := 148) (by decide +kernel))) rfl
theorem ml_RX8_113 : Cond.methodLink RX8 113 yX6_refusalOfPut ∈ tvGW := tvgc (tvc_4 (List.mem_of_getElem? (i := 163) (by decide +kernel))) rfl
theorem ml_RX8_116 : Cond.methodLink RX8 116 yX6_put ∈ tvGW := tvgc (tvc_4 (List.mem_of_getElem? (i := 167) (by decide +kernel))) rfl
theorem ml_RX8_119 : Cond.methodLink RX8 119 yX6_refusalOfTake ∈ tvGW := tvgc (tvc_4 (List.mem_of_getElem? (i := 190) (by decide +kernel))) rfl
theorem ml_RX8_122 : Cond.methodLink RX8 122 yX6_take ∈ tvGW := tvgc (tvc_4 (List.mem_of_getElem? (i := 194) (by decide +kernel))) rfl
theorem ml_RX8_125 : Cond.methodLink RX8 125 yX6_refusalOfClose ∈ tvGW := tvgc (tvc_2 (List.mem_of_getElem? (i := 124) (by decide +kernel))) rfl
theorem ml_RX8_128 : Cond.methodLink RX8 128 yX6_shut ∈ tvGW := tvgc (tvc_2 (List.mem_of_getElem? (i := 130) (by decide +kernel))) rfl
theorem ml_RX8_131 : Cond.methodLink RX8 131 yX6_refusalOfWait ∈ tvGW := tvgc (tvc_2 (List.mem_of_getElem? (i := 150) (by decide +kernel))) rfl
theorem ml_RX8_134 : Cond.methodLink RX8 134 yX6_letPass ∈ tvGW := tvgc (tvc_2 (List.mem_of_getElem? (i := 154) (by decide +kernel))) rfl
theorem ml_RX8_140 : Cond.methodLink RX8 140 yX6_isLow ∈ tvGW := tvgc (tvc_6 (List.mem_of_getElem? (i := 146) (by decide +kernel))) rfl
theorem ml_RX8_144 : Cond.methodLink RX8 144 yX8_refusalOfLowMinutes ∈ tvGW := tvgc (tvc_1 (List.mem_of_getElem? (i := 35) (by decide +kernel))) rfl
theorem ml_RX8_147 : Cond.methodLink RX8 147 yX7_lowByFormula ∈ tvGW := tvgc (tvc_1 (List.mem_of_getElem? (i := 180) (by decide +kernel))) rfl
theorem ml_RX8_150 : Cond.methodLink RX8 150 yX7_lowByCounting ∈ tvGW := tvgc (tvc_7 (List.mem_of_getElem? (i := 31) (by decide +kernel))) rfl
theorem ml_RX8_159 : Cond.methodLink RX8 159 yX8_refusalOfHolderNumber ∈ tvGW := tvgc (tvc_6 (List.mem_of_getElem? (i := 151) (by decide +kernel))) rfl
theorem ml_RX8_162 : Cond.methodLink RX8 162 yX2_attemptsOf ∈ tvGW := tvgc (tvc_6 (List.mem_of_getElem? (i := 156) (by decide +kernel))) rfl
theorem ml_RX8_165 : Cond.methodLink RX8 165 yX2_lockedFor ∈ tvGW := tvgc (tvc_6 (List.mem_of_getElem? (i := 161) (by decide +kernel))) rfl
theorem ml_RX8_168 : Cond.methodLink RX8 168 yX0_countOf ∈ tvGW := tvgc (tvc_7 (List.mem_of_getElem? (i := 14) (by decide +kernel))) rfl
theorem ml_RX8_172 : Cond.methodLink RX8 172 yX8_refusalOfBoxNumber ∈ tvGW := tvgc (tvc_1 (List.mem_of_getElem? (i := 200) (by decide +kernel))) rfl
theorem ml_RX8_175 : Cond.methodLink RX8 175 yX0_belongsTo ∈ tvGW := tvgc (tvc_7 (List.mem_of_getElem? (i := 1) (by decide +kernel))) rfl
theorem ml_RX8_186 : Cond.methodLink RX8 186 yX0_partnerOf ∈ tvGW := tvgc (tvc_7 (List.mem_of_getElem? (i := 3) (by decide +kernel))) rfl
theorem ml_RX8_189 : Cond.methodLink RX8 189 yX0_statusOf ∈ tvGW := tvgc (tvc_1 (List.mem_of_getElem? (i := 220) (by decide +kernel))) rfl
theorem ml_RX8_193 : Cond.methodLink RX8 193 yX8_refusalUnless ∈ tvGW := tvgc (tvc_2 (List.mem_of_getElem? (i := 200) (by decide +kernel))) rfl
theorem ml_RX8_197 : Cond.methodLink RX8 197 yX0_firstOf ∈ tvGW := tvgc (tvc_6 (List.mem_of_getElem? (i := 173) (by decide +kernel))) rfl
theorem ml_RX8_200 : Cond.methodLink RX8 200 yX0_remainingOf ∈ tvGW := tvgc (tvc_6 (List.mem_of_getElem? (i := 181) (by decide +kernel))) rfl
theorem ml_RX8_203 : Cond.methodLink RX8 203 yX6_searchOpening ∈ tvGW := tvgc (tvc_2 (List.mem_of_getElem? (i := 204) (by decide +kernel))) rfl
theorem ml_RX8_206 : Cond.methodLink RX8 206 yX6_copyFrom ∈ tvGW := tvgc (tvc_2 (List.mem_of_getElem? (i := 15) (by decide +kernel))) rfl
theorem ml_RX8_209 : Cond.methodLink RX8 209 yX6_waitForOpening ∈ tvGW := tvgc (tvc_6 (List.mem_of_getElem? (i := 228) (by decide +kernel))) rfl
theorem ml_RX8_212 : Cond.methodLink RX8 212 yX0_pearlsIn ∈ tvGW := tvgc (tvc_1 (List.mem_of_getElem? (i := 226) (by decide +kernel))) rfl
theorem ml_RX8_220 : Cond.methodLink RX8 220 yX0_valueOf ∈ tvGW := tvgc (tvc_1 (List.mem_of_getElem? (i := 230) (by decide +kernel))) rfl
theorem ml_RX8_223 : Cond.methodLink RX8 223 yX0_has ∈ tvGW := tvgc (tvc_1 (List.mem_of_getElem? (i := 204) (by decide +kernel))) rfl
theorem ml_RX8_229 : Cond.methodLink RX8 229 yX0_atRank ∈ tvGW := tvgc (tvc_2 (List.mem_of_getElem? (i := 217) (by decide +kernel))) rfl
theorem ml_RX8_232 : Cond.methodLink RX8 232 yX0_sumOfAll ∈ tvGW := tvgc (tvc_7 (List.mem_of_getElem? (i := 23) (by decide +kernel))) rfl
theorem ml_RX8_264 : Cond.methodLink RX8 264 yX8_refusalOfEvent ∈ tvGW := tvgc (tvc_6 (List.mem_of_getElem? (i := 195) (by decide +kernel))) rfl
theorem ml_RX8_267 : Cond.methodLink RX8 267 yX4_kindOf ∈ tvGW := tvgc (tvc_1 (List.mem_of_getElem? (i := 238) (by decide +kernel))) rfl
theorem ml_RX8_270 : Cond.methodLink RX8 270 yX4_timeOf ∈ tvGW := tvgc (tvc_6 (List.mem_of_getElem? (i := 207) (by decide +kernel))) rfl
theorem ml_RX8_273 : Cond.methodLink RX8 273 yX4_numberOf ∈ tvGW := tvgc (tvc_2 (List.mem_of_getElem? (i := 7) (by decide +kernel))) rfl
theorem ml_RX8_302 : Cond.methodLink RX8 302 yX5_isFull ∈ tvGW := tvgc (tvc_5 (List.mem_of_getElem? (i := 234) (by decide +kernel))) rfl
theorem ml_RX8_310 : Cond.methodLink RX8 310 yX5_append ∈ tvGW := tvgc (tvc_5 (List.mem_of_getElem? (i := 239) (by decide +kernel))) rfl
theorem ml_RX8_361 : Cond.methodLink RX8 361 yX1_stepBack ∈ tvGW := tvgc (tvc_3 (List.mem_of_getElem? (i := 0) (by decide +kernel))) rfl
theorem ml_RX8_370 : Cond.methodLink RX8 370 yX1_forget ∈ tvGW := tvgc (tvc_3 (List.mem_of_getElem? (i := 16) (by decide +kernel))) rfl
theorem ml_RX8_383 : Cond.methodLink RX8 383 yX6_hearWrongCode ∈ tvGW := tvgc (tvc_4 (List.mem_of_getElem? (i := 91) (by decide +kernel))) rfl
theorem ml_RX8_395 : Cond.methodLink RX8 395 yX2_has ∈ tvGW := tvgc (tvc_6 (List.mem_of_getElem? (i := 155) (by decide +kernel))) rfl
theorem ml_RX8_396 : Cond.methodLink RX8 396 yX4_has ∈ tvGW := tvgc (tvc_6 (List.mem_of_getElem? (i := 199) (by decide +kernel))) rfl
theorem ml_RX1_18 : Cond.methodLink RX1 18 yX1_begin ∈ tvGW := tvgc (tvc_2 (List.mem_of_getElem? (i := 62) (by decide +kernel))) rfl
theorem ml_RX1_22 : Cond.methodLink RX1 22 yX1_commit ∈ tvGW := tvgc (tvc_2 (List.mem_of_getElem? (i := 70) (by decide +kernel))) rfl
theorem ml_RX1_29 : Cond.methodLink RX1 29 yJ9_floorMod_7cf53 ∈ tvGW := tvgc (tvc_2 (List.mem_of_getElem? (i := 66) (by decide +kernel))) rfl
theorem ml_RX1_35 : Cond.methodLink RX1 35 yX6_copyFrom ∈ tvGW := tvgc (tvc_2 (List.mem_of_getElem? (i := 69) (by decide +kernel))) rfl
theorem ml_RX1_41 : Cond.methodLink RX1 41 yJ9_min_7cf53 ∈ tvGW := tvgc (tvc_2 (List.mem_of_getElem? (i := 74) (by decide +kernel))) rfl
theorem ml_RX1_44 : Cond.methodLink RX1 44 yX1_cancel ∈ tvGW := tvgc (tvc_3 (List.mem_of_getElem? (i := 4) (by decide +kernel))) rfl
theorem ml_RX3_19 : Cond.methodLink RX3 19 yX3_add ∈ tvGW := tvgc (tvc_1 (List.mem_of_getElem? (i := 216) (by decide +kernel))) rfl
theorem ml_RX5_48 : Cond.methodLink RX5 48 yX5_sign ∈ tvGW := tvgc (tvc_6 (List.mem_of_getElem? (i := 50) (by decide +kernel))) rfl
theorem ml_RX5_79 : Cond.methodLink RX5 79 yX5_signAt ∈ tvGW := tvgc (tvc_6 (List.mem_of_getElem? (i := 40) (by decide +kernel))) rfl
theorem yk_X1_begin : tvYk yX1_begin cX1_begin 3 none 1 := ⟨tvgc (tvc_2 (List.mem_of_getElem? (i := 65) (by decide +kernel))) rfl, tvgc (tvc_1 (List.mem_of_getElem? (i := 7) (by decide +kernel))) rfl, by decide +kernel, by decide +kernel, plainFor_of_name (by decide +kernel)⟩
theorem yi_X1_begin : tvYi yX1_begin := ⟨tvgc (tvc_2 (List.mem_of_getElem? (i := 63) (by decide +kernel))) rfl, tvgc (tvc_2 (List.mem_of_getElem? (i := 64) (by decide +kernel))) rfl⟩
theorem yk_X1_cancel : tvYk yX1_cancel cX1_cancel 3 none 1 := ⟨tvgc (tvc_3 (List.mem_of_getElem? (i := 7) (by decide +kernel))) rfl, tvgc (tvc_1 (List.mem_of_getElem? (i := 7) (by decide +kernel))) rfl, by decide +kernel, by decide +kernel, plainFor_of_name (by decide +kernel)⟩
theorem yi_X1_cancel : tvYi yX1_cancel := ⟨tvgc (tvc_3 (List.mem_of_getElem? (i := 5) (by decide +kernel))) rfl, tvgc (tvc_3 (List.mem_of_getElem? (i := 6) (by decide +kernel))) rfl⟩
theorem yk_X1_commit : tvYk yX1_commit cX1_commit 1 none 0 := ⟨tvgc (tvc_2 (List.mem_of_getElem? (i := 73) (by decide +kernel))) rfl, tvgc (tvc_1 (List.mem_of_getElem? (i := 7) (by decide +kernel))) rfl, by decide +kernel, by decide +kernel, plainFor_of_name (by decide +kernel)⟩
theorem yi_X1_commit : tvYi yX1_commit := ⟨tvgc (tvc_2 (List.mem_of_getElem? (i := 71) (by decide +kernel))) rfl, tvgc (tvc_2 (List.mem_of_getElem? (i := 72) (by decide +kernel))) rfl⟩
theorem yk_X1_forget : tvYk yX1_forget cX1_forget 1 none 0 := ⟨tvgc (tvc_3 (List.mem_of_getElem? (i := 19) (by decide +kernel))) rfl, tvgc (tvc_1 (List.mem_of_getElem? (i := 7) (by decide +kernel))) rfl, by decide +kernel, by decide +kernel, plainFor_of_name (by decide +kernel)⟩
theorem yi_X1_forget : tvYi yX1_forget := ⟨tvgc (tvc_3 (List.mem_of_getElem? (i := 17) (by decide +kernel))) rfl, tvgc (tvc_3 (List.mem_of_getElem? (i := 18) (by decide +kernel))) rfl⟩
theorem yk_X1_keep : tvYk yX1_keep cX1_keep 2 none 1 := ⟨tvgc (tvc_2 (List.mem_of_getElem? (i := 61) (by decide +kernel))) rfl, tvgc (tvc_1 (List.mem_of_getElem? (i := 7) (by decide +kernel))) rfl, by decide +kernel, by decide +kernel, plainFor_of_name (by decide +kernel)⟩
theorem yi_X1_keep : tvYi yX1_keep := ⟨tvgc (tvc_2 (List.mem_of_getElem? (i := 59) (by decide +kernel))) rfl, tvgc (tvc_2 (List.mem_of_getElem? (i := 60) (by decide +kernel))) rfl⟩
theorem yk_X1_stepBack : tvYk yX1_stepBack cX1_stepBack 2 (some .int) 1 := ⟨tvgc (tvc_3 (List.mem_of_getElem? (i := 3) (by decide +kernel))) rfl, tvgc (tvc_1 (List.mem_of_getElem? (i := 7) (by decide +kernel))) rfl, by decide +kernel, by decide +kernel, plainFor_of_name (by decide +kernel)⟩
theorem yi_X1_stepBack : tvYi yX1_stepBack := ⟨tvgc (tvc_3 (List.mem_of_getElem? (i := 1) (by decide +kernel))) rfl, tvgc (tvc_3 (List.mem_of_getElem? (i := 2) (by decide +kernel))) rfl⟩
theorem yk_X3_add : tvYk yX3_add cX3_add 2 none 1 := ⟨tvgc (tvc_1 (List.mem_of_getElem? (i := 219) (by decide +kernel))) rfl, tvgc (tvc_1 (List.mem_of_getElem? (i := 9) (by decide +kernel))) rfl, by decide +kernel, by decide +kernel, plainFor_of_name (by decide +kernel)⟩
theorem yi_X3_add : tvYi yX3_add := ⟨tvgc (tvc_1 (List.mem_of_getElem? (i := 217) (by decide +kernel))) rfl, tvgc (tvc_1 (List.mem_of_getElem? (i := 218) (by decide +kernel))) rfl⟩
theorem yk_X3_addNumber : tvYk yX3_addNumber cX3_addNumber 2 none 1 := ⟨tvgc (tvc_1 (List.mem_of_getElem? (i := 215) (by decide +kernel))) rfl, tvgc (tvc_1 (List.mem_of_getElem? (i := 9) (by decide +kernel))) rfl, by decide +kernel, by decide +kernel, plainFor_of_name (by decide +kernel)⟩
theorem yi_X3_addNumber : tvYi yX3_addNumber := ⟨tvgc (tvc_1 (List.mem_of_getElem? (i := 213) (by decide +kernel))) rfl, tvgc (tvc_1 (List.mem_of_getElem? (i := 214) (by decide +kernel))) rfl⟩
theorem yk_X3_empty : tvYk yX3_empty cX3_empty 1 none 0 := ⟨tvgc (tvc_1 (List.mem_of_getElem? (i := 211) (by decide +kernel))) rfl, tvgc (tvc_1 (List.mem_of_getElem? (i := 9) (by decide +kernel))) rfl, by decide +kernel, by decide +kernel, plainFor_of_name (by decide +kernel)⟩
theorem yi_X3_empty : tvYi yX3_empty := ⟨tvgc (tvc_1 (List.mem_of_getElem? (i := 209) (by decide +kernel))) rfl, tvgc (tvc_1 (List.mem_of_getElem? (i := 210) (by decide +kernel))) rfl⟩
theorem yk_X5_append : tvYk yX5_append cX5_append 2 (some .int) 1 := ⟨tvgc (tvc_6 (List.mem_of_getElem? (i := 2) (by decide +kernel))) rfl, tvgc (tvc_1 (List.mem_of_getElem? (i := 8) (by decide +kernel))) rfl, by decide +kernel, by decide +kernel, plainFor_of_name (by decide +kernel)⟩
theorem yi_X5_append : tvYi yX5_append := ⟨tvgc (tvc_6 (List.mem_of_getElem? (i := 0) (by decide +kernel))) rfl, tvgc (tvc_6 (List.mem_of_getElem? (i := 1) (by decide +kernel))) rfl⟩
theorem yk_X5_argumentOf : tvYk yX5_argumentOf cX5_argumentOf 4 (some .int) 2 := ⟨tvgc (tvc_6 (List.mem_of_getElem? (i := 94) (by decide +kernel))) rfl, tvgc (tvc_1 (List.mem_of_getElem? (i := 8) (by decide +kernel))) rfl, by decide +kernel, by decide +kernel, plainFor_of_name (by decide +kernel)⟩
theorem yi_X5_argumentOf : tvYi yX5_argumentOf := ⟨tvgc (tvc_6 (List.mem_of_getElem? (i := 92) (by decide +kernel))) rfl, tvgc (tvc_6 (List.mem_of_getElem? (i := 93) (by decide +kernel))) rfl⟩
theorem yk_X5_empty : tvYk yX5_empty cX5_empty 1 none 0 := ⟨tvgc (tvc_6 (List.mem_of_getElem? (i := 84) (by decide +kernel))) rfl, tvgc (tvc_1 (List.mem_of_getElem? (i := 8) (by decide +kernel))) rfl, by decide +kernel, by decide +kernel, plainFor_of_name (by decide +kernel)⟩
theorem yi_X5_empty : tvYi yX5_empty := ⟨tvgc (tvc_6 (List.mem_of_getElem? (i := 82) (by decide +kernel))) rfl, tvgc (tvc_6 (List.mem_of_getElem? (i := 83) (by decide +kernel))) rfl⟩
theorem yk_X5_formOf : tvYk yX5_formOf cX5_formOf 1 (some (.object "java/lang/String")) 1 := ⟨tvgc (tvc_6 (List.mem_of_getElem? (i := 57) (by decide +kernel))) rfl, tvgc (tvc_1 (List.mem_of_getElem? (i := 8) (by decide +kernel))) rfl, by decide +kernel, by decide +kernel, plainFor_of_name (by decide +kernel)⟩
theorem yi_X5_formOf : Cond.static yX5_formOf ∈ tvGW := tvgc (tvc_6 (List.mem_of_getElem? (i := 56) (by decide +kernel))) rfl
theorem yk_X5_isDigit : tvYk yX5_isDigit cX5_isDigit 1 (some .boolean) 1 := ⟨tvgc (tvc_6 (List.mem_of_getElem? (i := 76) (by decide +kernel))) rfl, tvgc (tvc_1 (List.mem_of_getElem? (i := 8) (by decide +kernel))) rfl, by decide +kernel, by decide +kernel, plainFor_of_name (by decide +kernel)⟩
theorem yi_X5_isDigit : Cond.static yX5_isDigit ∈ tvGW := tvgc (tvc_6 (List.mem_of_getElem? (i := 75) (by decide +kernel))) rfl
theorem yk_X5_isFull : tvYk yX5_isFull cX5_isFull 1 (some .boolean) 0 := ⟨tvgc (tvc_5 (List.mem_of_getElem? (i := 237) (by decide +kernel))) rfl, tvgc (tvc_1 (List.mem_of_getElem? (i := 8) (by decide +kernel))) rfl, by decide +kernel, by decide +kernel, plainFor_of_name (by decide +kernel)⟩
theorem yi_X5_isFull : tvYi yX5_isFull := ⟨tvgc (tvc_5 (List.mem_of_getElem? (i := 235) (by decide +kernel))) rfl, tvgc (tvc_5 (List.mem_of_getElem? (i := 236) (by decide +kernel))) rfl⟩
theorem yk_X5_readSign : tvYk yX5_readSign cX5_readSign 2 (some .boolean) 1 := ⟨tvgc (tvc_6 (List.mem_of_getElem? (i := 80) (by decide +kernel))) rfl, tvgc (tvc_1 (List.mem_of_getElem? (i := 8) (by decide +kernel))) rfl, by decide +kernel, by decide +kernel, plainFor_of_name (by decide +kernel)⟩
theorem yi_X5_readSign : tvYi yX5_readSign := ⟨tvgc (tvc_6 (List.mem_of_getElem? (i := 79) (by decide +kernel))) rfl, tvg 23 (by decide +kernel) rfl⟩
theorem yk_X5_setArgument : tvYk yX5_setArgument cX5_setArgument 4 none 2 := ⟨tvgc (tvc_6 (List.mem_of_getElem? (i := 49) (by decide +kernel))) rfl, tvgc (tvc_1 (List.mem_of_getElem? (i := 8) (by decide +kernel))) rfl, by decide +kernel, by decide +kernel, plainFor_of_name (by decide +kernel)⟩
theorem yi_X5_setArgument : tvYi yX5_setArgument := ⟨tvgc (tvc_6 (List.mem_of_getElem? (i := 48) (by decide +kernel))) rfl, tvg 19 (by decide +kernel) rfl⟩
theorem yk_X5_sign : tvYk yX5_sign cX5_sign 1 (some .char) 0 := ⟨tvgc (tvc_6 (List.mem_of_getElem? (i := 53) (by decide +kernel))) rfl, tvgc (tvc_1 (List.mem_of_getElem? (i := 8) (by decide +kernel))) rfl, by decide +kernel, by decide +kernel, plainFor_of_name (by decide +kernel)⟩
theorem yi_X5_sign : tvYi yX5_sign := ⟨tvgc (tvc_6 (List.mem_of_getElem? (i := 52) (by decide +kernel))) rfl, tvg 20 (by decide +kernel) rfl⟩
theorem yk_X5_signAt : tvYk yX5_signAt cX5_signAt 3 (some .char) 1 := ⟨tvgc (tvc_6 (List.mem_of_getElem? (i := 43) (by decide +kernel))) rfl, tvgc (tvc_1 (List.mem_of_getElem? (i := 8) (by decide +kernel))) rfl, by decide +kernel, by decide +kernel, plainFor_of_name (by decide +kernel)⟩
theorem yi_X5_signAt : tvYi yX5_signAt := ⟨tvgc (tvc_6 (List.mem_of_getElem? (i := 42) (by decide +kernel))) rfl, tvg 18 (by decide +kernel) rfl⟩
theorem yk_X5_verbOf : tvYk yX5_verbOf cX5_verbOf 2 (some .int) 1 := ⟨tvgc (tvc_6 (List.mem_of_getElem? (i := 90) (by decide +kernel))) rfl, tvgc (tvc_1 (List.mem_of_getElem? (i := 8) (by decide +kernel))) rfl, by decide +kernel, by decide +kernel, plainFor_of_name (by decide +kernel)⟩
theorem yi_X5_verbOf : tvYi yX5_verbOf := ⟨tvgc (tvc_6 (List.mem_of_getElem? (i := 88) (by decide +kernel))) rfl, tvgc (tvc_6 (List.mem_of_getElem? (i := 89) (by decide +kernel))) rfl⟩
theorem yk_X5_wordOf : tvYk yX5_wordOf cX5_wordOf 1 (some (.object "java/lang/String")) 1 := ⟨tvgc (tvc_6 (List.mem_of_getElem? (i := 25) (by decide +kernel))) rfl, tvgc (tvc_1 (List.mem_of_getElem? (i := 8) (by decide +kernel))) rfl, by decide +kernel, by decide +kernel, plainFor_of_name (by decide +kernel)⟩
theorem yi_X5_wordOf : Cond.static yX5_wordOf ∈ tvGW := tvgc (tvc_6 (List.mem_of_getElem? (i := 24) (by decide +kernel))) rfl
theorem yk_X8_addBox : tvYk yX8_addBox cX8_addBox 4 (some .int) 3 := ⟨tvgc (tvc_4 (List.mem_of_getElem? (i := 29) (by decide +kernel))) rfl, tvgc (tvc_1 (List.mem_of_getElem? (i := 1) (by decide +kernel))) rfl, by decide +kernel, by decide +kernel, plainFor_of_name (by decide +kernel)⟩
theorem yi_X8_addBox : tvYi yX8_addBox := ⟨tvgc (tvc_4 (List.mem_of_getElem? (i := 27) (by decide +kernel))) rfl, tvgc (tvc_4 (List.mem_of_getElem? (i := 28) (by decide +kernel))) rfl⟩
theorem yk_X8_addHolder : tvYk yX8_addHolder cX8_addHolder 2 (some .int) 1 := ⟨tvgc (tvc_2 (List.mem_of_getElem? (i := 48) (by decide +kernel))) rfl, tvgc (tvc_1 (List.mem_of_getElem? (i := 1) (by decide +kernel))) rfl, by decide +kernel, by decide +kernel, plainFor_of_name (by decide +kernel)⟩
theorem yi_X8_addHolder : tvYi yX8_addHolder := ⟨tvgc (tvc_2 (List.mem_of_getElem? (i := 46) (by decide +kernel))) rfl, tvgc (tvc_2 (List.mem_of_getElem? (i := 47) (by decide +kernel))) rfl⟩
theorem yk_X8_alarm : tvYk yX8_alarm cX8_alarm 1 (some .int) 0 := ⟨tvgc (tvc_1 (List.mem_of_getElem? (i := 195) (by decide +kernel))) rfl, tvgc (tvc_1 (List.mem_of_getElem? (i := 1) (by decide +kernel))) rfl, by decide +kernel, by decide +kernel, plainFor_of_name (by decide +kernel)⟩
theorem yi_X8_alarm : tvYi yX8_alarm := ⟨tvgc (tvc_1 (List.mem_of_getElem? (i := 193) (by decide +kernel))) rfl, tvgc (tvc_1 (List.mem_of_getElem? (i := 194) (by decide +kernel))) rfl⟩
theorem yk_X8_attempts : tvYk yX8_attempts cX8_attempts 2 (some .int) 1 := ⟨tvgc (tvc_6 (List.mem_of_getElem? (i := 150) (by decide +kernel))) rfl, tvgc (tvc_1 (List.mem_of_getElem? (i := 1) (by decide +kernel))) rfl, by decide +kernel, by decide +kernel, plainFor_of_name (by decide +kernel)⟩
theorem yi_X8_attempts : tvYi yX8_attempts := ⟨tvgc (tvc_6 (List.mem_of_getElem? (i := 148) (by decide +kernel))) rfl, tvgc (tvc_6 (List.mem_of_getElem? (i := 149) (by decide +kernel))) rfl⟩
theorem yk_X8_boxByValue : tvYk yX8_boxByValue cX8_boxByValue 2 (some .int) 1 := ⟨tvgc (tvc_2 (List.mem_of_getElem? (i := 215) (by decide +kernel))) rfl, tvgc (tvc_1 (List.mem_of_getElem? (i := 1) (by decide +kernel))) rfl, by decide +kernel, by decide +kernel, plainFor_of_name (by decide +kernel)⟩
theorem yi_X8_boxByValue : tvYi yX8_boxByValue := ⟨tvgc (tvc_2 (List.mem_of_getElem? (i := 213) (by decide +kernel))) rfl, tvgc (tvc_2 (List.mem_of_getElem? (i := 214) (by decide +kernel))) rfl⟩
theorem yk_X8_boxes : tvYk yX8_boxes cX8_boxes 1 (some .int) 0 := ⟨tvgc (tvc_4 (List.mem_of_getElem? (i := 136) (by decide +kernel))) rfl, tvgc (tvc_1 (List.mem_of_getElem? (i := 1) (by decide +kernel))) rfl, by decide +kernel, by decide +kernel, plainFor_of_name (by decide +kernel)⟩
theorem yi_X8_boxes : tvYi yX8_boxes := ⟨tvgc (tvc_4 (List.mem_of_getElem? (i := 134) (by decide +kernel))) rfl, tvgc (tvc_4 (List.mem_of_getElem? (i := 135) (by decide +kernel))) rfl⟩
theorem yk_X8_boxesOf : tvYk yX8_boxesOf cX8_boxesOf 2 (some .int) 1 := ⟨tvgc (tvc_7 (List.mem_of_getElem? (i := 13) (by decide +kernel))) rfl, tvgc (tvc_1 (List.mem_of_getElem? (i := 1) (by decide +kernel))) rfl, by decide +kernel, by decide +kernel, plainFor_of_name (by decide +kernel)⟩
theorem yi_X8_boxesOf : tvYi yX8_boxesOf := ⟨tvgc (tvc_7 (List.mem_of_getElem? (i := 11) (by decide +kernel))) rfl, tvgc (tvc_7 (List.mem_of_getElem? (i := 12) (by decide +kernel))) rfl⟩
theorem yk_X8_changeCode : tvYk yX8_changeCode cX8_changeCode 4 (some .int) 3 := ⟨tvgc (tvc_4 (List.mem_of_getElem? (i := 143) (by decide +kernel))) rfl, tvgc (tvc_1 (List.mem_of_getElem? (i := 1) (by decide +kernel))) rfl, by decide +kernel, by decide +kernel, plainFor_of_name (by decide +kernel)⟩
theorem yi_X8_changeCode : tvYi yX8_changeCode := ⟨tvgc (tvc_4 (List.mem_of_getElem? (i := 141) (by decide +kernel))) rfl, tvgc (tvc_4 (List.mem_of_getElem? (i := 142) (by decide +kernel))) rfl⟩
theorem yk_X8_close : tvYk yX8_close cX8_close 2 (some .int) 1 := ⟨tvgc (tvc_2 (List.mem_of_getElem? (i := 123) (by decide +kernel))) rfl, tvgc (tvc_1 (List.mem_of_getElem? (i := 1) (by decide +kernel))) rfl, by decide +kernel, by decide +kernel, plainFor_of_name (by decide +kernel)⟩
theorem yi_X8_close : tvYi yX8_close := ⟨tvgc (tvc_2 (List.mem_of_getElem? (i := 121) (by decide +kernel))) rfl, tvgc (tvc_2 (List.mem_of_getElem? (i := 122) (by decide +kernel))) rfl⟩
theorem yk_X8_deposit : tvYk yX8_deposit cX8_deposit 3 (some .int) 2 := ⟨tvgc (tvc_4 (List.mem_of_getElem? (i := 162) (by decide +kernel))) rfl, tvgc (tvc_1 (List.mem_of_getElem? (i := 1) (by decide +kernel))) rfl, by decide +kernel, by decide +kernel, plainFor_of_name (by decide +kernel)⟩
theorem yi_X8_deposit : tvYi yX8_deposit := ⟨tvgc (tvc_4 (List.mem_of_getElem? (i := 160) (by decide +kernel))) rfl, tvgc (tvc_4 (List.mem_of_getElem? (i := 161) (by decide +kernel))) rfl⟩
theorem yk_X8_eventKind : tvYk yX8_eventKind cX8_eventKind 2 (some .char) 1 := ⟨tvgc (tvc_6 (List.mem_of_getElem? (i := 194) (by decide +kernel))) rfl, tvgc (tvc_1 (List.mem_of_getElem? (i := 1) (by decide +kernel))) rfl, by decide +kernel, by decide +kernel, plainFor_of_name (by decide +kernel)⟩
theorem yi_X8_eventKind : tvYi yX8_eventKind := ⟨tvgc (tvc_6 (List.mem_of_getElem? (i := 192) (by decide +kernel))) rfl, tvgc (tvc_6 (List.mem_of_getElem? (i := 193) (by decide +kernel))) rfl⟩
theorem yk_X8_eventNumber : tvYk yX8_eventNumber cX8_eventNumber 2 (some .int) 1 := ⟨tvgc (tvc_6 (List.mem_of_getElem? (i := 214) (by decide +kernel))) rfl, tvgc (tvc_1 (List.mem_of_getElem? (i := 1) (by decide +kernel))) rfl, by decide +kernel, by decide +kernel, plainFor_of_name (by decide +kernel)⟩
theorem yi_X8_eventNumber : tvYi yX8_eventNumber := ⟨tvgc (tvc_6 (List.mem_of_getElem? (i := 212) (by decide +kernel))) rfl, tvgc (tvc_6 (List.mem_of_getElem? (i := 213) (by decide +kernel))) rfl⟩
theorem yk_X8_eventTime : tvYk yX8_eventTime cX8_eventTime 2 (some .int) 1 := ⟨tvgc (tvc_6 (List.mem_of_getElem? (i := 206) (by decide +kernel))) rfl, tvgc (tvc_1 (List.mem_of_getElem? (i := 1) (by decide +kernel))) rfl, by decide +kernel, by decide +kernel, plainFor_of_name (by decide +kernel)⟩
theorem yi_X8_eventTime : tvYi yX8_eventTime := ⟨tvgc (tvc_6 (List.mem_of_getElem? (i := 204) (by decide +kernel))) rfl, tvgc (tvc_6 (List.mem_of_getElem? (i := 205) (by decide +kernel))) rfl⟩
theorem yk_X8_events : tvYk yX8_events cX8_events 1 (some .int) 0 := ⟨tvgc (tvc_6 (List.mem_of_getElem? (i := 137) (by decide +kernel))) rfl, tvgc (tvc_1 (List.mem_of_getElem? (i := 1) (by decide +kernel))) rfl, by decide +kernel, by decide +kernel, plainFor_of_name (by decide +kernel)⟩
theorem yi_X8_events : tvYi yX8_events := ⟨tvgc (tvc_6 (List.mem_of_getElem? (i := 135) (by decide +kernel))) rfl, tvgc (tvc_6 (List.mem_of_getElem? (i := 136) (by decide +kernel))) rfl⟩
theorem yk_X8_firstHolder : tvYk yX8_firstHolder cX8_firstHolder 2 (some .int) 1 := ⟨tvgc (tvc_6 (List.mem_of_getElem? (i := 172) (by decide +kernel))) rfl, tvgc (tvc_1 (List.mem_of_getElem? (i := 1) (by decide +kernel))) rfl, by decide +kernel, by decide +kernel, plainFor_of_name (by decide +kernel)⟩
theorem yi_X8_firstHolder : tvYi yX8_firstHolder := ⟨tvgc (tvc_6 (List.mem_of_getElem? (i := 170) (by decide +kernel))) rfl, tvgc (tvc_6 (List.mem_of_getElem? (i := 171) (by decide +kernel))) rfl⟩
theorem yk_X8_hearCode : tvYk yX8_hearCode cX8_hearCode 3 none 2 := ⟨tvgc (tvc_4 (List.mem_of_getElem? (i := 90) (by decide +kernel))) rfl, tvgc (tvc_1 (List.mem_of_getElem? (i := 1) (by decide +kernel))) rfl, by decide +kernel, by decide +kernel, plainFor_of_name (by decide +kernel)⟩
theorem yi_X8_hearCode : tvYi yX8_hearCode := ⟨tvgc (tvc_4 (List.mem_of_getElem? (i := 89) (by decide +kernel))) rfl, tvg 10 (by decide +kernel) rfl⟩
theorem yk_X8_holders : tvYk yX8_holders cX8_holders 1 (some .int) 0 := ⟨tvgc (tvc_6 (List.mem_of_getElem? (i := 133) (by decide +kernel))) rfl, tvgc (tvc_1 (List.mem_of_getElem? (i := 1) (by decide +kernel))) rfl, by decide +kernel, by decide +kernel, plainFor_of_name (by decide +kernel)⟩
theorem yi_X8_holders : tvYi yX8_holders := ⟨tvgc (tvc_6 (List.mem_of_getElem? (i := 131) (by decide +kernel))) rfl, tvgc (tvc_6 (List.mem_of_getElem? (i := 132) (by decide +kernel))) rfl⟩
theorem yk_X8_isLowTide : tvYk yX8_isLowTide cX8_isLowTide 1 (some .boolean) 0 := ⟨tvgc (tvc_6 (List.mem_of_getElem? (i := 145) (by decide +kernel))) rfl, tvgc (tvc_1 (List.mem_of_getElem? (i := 1) (by decide +kernel))) rfl, by decide +kernel, by decide +kernel, plainFor_of_name (by decide +kernel)⟩
theorem yi_X8_isLowTide : tvYi yX8_isLowTide := ⟨tvgc (tvc_6 (List.mem_of_getElem? (i := 143) (by decide +kernel))) rfl, tvgc (tvc_6 (List.mem_of_getElem? (i := 144) (by decide +kernel))) rfl⟩
theorem yk_X8_lowMinutes : tvYk yX8_lowMinutes cX8_lowMinutes 2 (some .int) 1 := ⟨tvgc (tvc_1 (List.mem_of_getElem? (i := 34) (by decide +kernel))) rfl, tvgc (tvc_1 (List.mem_of_getElem? (i := 1) (by decide +kernel))) rfl, by decide +kernel, by decide +kernel, plainFor_of_name (by decide +kernel)⟩
theorem yi_X8_lowMinutes : tvYi yX8_lowMinutes := ⟨tvgc (tvc_1 (List.mem_of_getElem? (i := 32) (by decide +kernel))) rfl, tvgc (tvc_1 (List.mem_of_getElem? (i := 33) (by decide +kernel))) rfl⟩
theorem yk_X8_lowMinutesByCounting : tvYk yX8_lowMinutesByCounting cX8_lowMinutesByCounting 2 (some .int) 1 := ⟨tvgc (tvc_7 (List.mem_of_getElem? (i := 30) (by decide +kernel))) rfl, tvgc (tvc_1 (List.mem_of_getElem? (i := 1) (by decide +kernel))) rfl, by decide +kernel, by decide +kernel, plainFor_of_name (by decide +kernel)⟩
theorem yi_X8_lowMinutesByCounting : tvYi yX8_lowMinutesByCounting := ⟨tvgc (tvc_7 (List.mem_of_getElem? (i := 28) (by decide +kernel))) rfl, tvgc (tvc_7 (List.mem_of_getElem? (i := 29) (by decide +kernel))) rfl⟩
theorem yk_X8_minutesLocked : tvYk yX8_minutesLocked cX8_minutesLocked 2 (some .int) 1 := ⟨tvgc (tvc_6 (List.mem_of_getElem? (i := 160) (by decide +kernel))) rfl, tvgc (tvc_1 (List.mem_of_getElem? (i := 1) (by decide +kernel))) rfl, by decide +kernel, by decide +kernel, plainFor_of_name (by decide +kernel)⟩
theorem yi_X8_minutesLocked : tvYi yX8_minutesLocked := ⟨tvgc (tvc_6 (List.mem_of_getElem? (i := 158) (by decide +kernel))) rfl, tvgc (tvc_6 (List.mem_of_getElem? (i := 159) (by decide +kernel))) rfl⟩
theorem yk_X8_minutesUntilOpen : tvYk yX8_minutesUntilOpen cX8_minutesUntilOpen 2 (some .int) 1 := ⟨tvgc (tvc_2 (List.mem_of_getElem? (i := 199) (by decide +kernel))) rfl, tvgc (tvc_1 (List.mem_of_getElem? (i := 1) (by decide +kernel))) rfl, by decide +kernel, by decide +kernel, plainFor_of_name (by decide +kernel)⟩
theorem yi_X8_minutesUntilOpen : tvYi yX8_minutesUntilOpen := ⟨tvgc (tvc_2 (List.mem_of_getElem? (i := 197) (by decide +kernel))) rfl, tvgc (tvc_2 (List.mem_of_getElem? (i := 198) (by decide +kernel))) rfl⟩
theorem yk_X8_minutesUntilOpenBySimulation : tvYk yX8_minutesUntilOpenBySimulation cX8_minutesUntilOpenBySimulation 2 (some .int) 1 := ⟨tvgc (tvc_6 (List.mem_of_getElem? (i := 227) (by decide +kernel))) rfl, tvgc (tvc_1 (List.mem_of_getElem? (i := 1) (by decide +kernel))) rfl, by decide +kernel, by decide +kernel, plainFor_of_name (by decide +kernel)⟩
theorem yi_X8_minutesUntilOpenBySimulation : tvYi yX8_minutesUntilOpenBySimulation := ⟨tvgc (tvc_6 (List.mem_of_getElem? (i := 225) (by decide +kernel))) rfl, tvgc (tvc_6 (List.mem_of_getElem? (i := 226) (by decide +kernel))) rfl⟩
theorem yk_X8_otherHolder : tvYk yX8_otherHolder cX8_otherHolder 3 (some .int) 2 := ⟨tvgc (tvc_7 (List.mem_of_getElem? (i := 0) (by decide +kernel))) rfl, tvgc (tvc_1 (List.mem_of_getElem? (i := 1) (by decide +kernel))) rfl, by decide +kernel, by decide +kernel, plainFor_of_name (by decide +kernel)⟩
theorem yi_X8_otherHolder : tvYi yX8_otherHolder := ⟨tvgc (tvc_6 (List.mem_of_getElem? (i := 238) (by decide +kernel))) rfl, tvgc (tvc_6 (List.mem_of_getElem? (i := 239) (by decide +kernel))) rfl⟩
theorem yk_X8_pass : tvYk yX8_pass cX8_pass 2 (some .int) 1 := ⟨tvgc (tvc_2 (List.mem_of_getElem? (i := 149) (by decide +kernel))) rfl, tvgc (tvc_1 (List.mem_of_getElem? (i := 1) (by decide +kernel))) rfl, by decide +kernel, by decide +kernel, plainFor_of_name (by decide +kernel)⟩
theorem yi_X8_pass : tvYi yX8_pass := ⟨tvgc (tvc_2 (List.mem_of_getElem? (i := 147) (by decide +kernel))) rfl, tvgc (tvc_2 (List.mem_of_getElem? (i := 148) (by decide +kernel))) rfl⟩
theorem yk_X8_pearl : tvYk yX8_pearl cX8_pearl 3 (some .int) 2 := ⟨tvgc (tvc_6 (List.mem_of_getElem? (i := 189) (by decide +kernel))) rfl, tvgc (tvc_1 (List.mem_of_getElem? (i := 1) (by decide +kernel))) rfl, by decide +kernel, by decide +kernel, plainFor_of_name (by decide +kernel)⟩
theorem yi_X8_pearl : tvYi yX8_pearl := ⟨tvgc (tvc_6 (List.mem_of_getElem? (i := 187) (by decide +kernel))) rfl, tvgc (tvc_6 (List.mem_of_getElem? (i := 188) (by decide +kernel))) rfl⟩
theorem yk_X8_pearls : tvYk yX8_pearls cX8_pearls 2 (some .int) 1 := ⟨tvgc (tvc_6 (List.mem_of_getElem? (i := 185) (by decide +kernel))) rfl, tvgc (tvc_1 (List.mem_of_getElem? (i := 1) (by decide +kernel))) rfl, by decide +kernel, by decide +kernel, plainFor_of_name (by decide +kernel)⟩
theorem yi_X8_pearls : tvYi yX8_pearls := ⟨tvgc (tvc_6 (List.mem_of_getElem? (i := 183) (by decide +kernel))) rfl, tvgc (tvc_6 (List.mem_of_getElem? (i := 184) (by decide +kernel))) rfl⟩
theorem yk_X8_refusalOfBoxNumber : tvYk yX8_refusalOfBoxNumber cX8_refusalOfBoxNumber 2 (some .int) 1 := ⟨tvgc (tvc_1 (List.mem_of_getElem? (i := 203) (by decide +kernel))) rfl, tvgc (tvc_1 (List.mem_of_getElem? (i := 1) (by decide +kernel))) rfl, by decide +kernel, by decide +kernel, plainFor_of_name (by decide +kernel)⟩
theorem yi_X8_refusalOfBoxNumber : tvYi yX8_refusalOfBoxNumber := ⟨tvgc (tvc_1 (List.mem_of_getElem? (i := 202) (by decide +kernel))) rfl, tvg 3 (by decide +kernel) rfl⟩
theorem yk_X8_refusalOfEvent : tvYk yX8_refusalOfEvent cX8_refusalOfEvent 2 (some .int) 1 := ⟨tvgc (tvc_6 (List.mem_of_getElem? (i := 198) (by decide +kernel))) rfl, tvgc (tvc_1 (List.mem_of_getElem? (i := 1) (by decide +kernel))) rfl, by decide +kernel, by decide +kernel, plainFor_of_name (by decide +kernel)⟩
theorem yi_X8_refusalOfEvent : tvYi yX8_refusalOfEvent := ⟨tvgc (tvc_6 (List.mem_of_getElem? (i := 197) (by decide +kernel))) rfl, tvg 25 (by decide +kernel) rfl⟩
theorem yk_X8_refusalOfHolderNumber : tvYk yX8_refusalOfHolderNumber cX8_refusalOfHolderNumber 2 (some .int) 1 := ⟨tvgc (tvc_6 (List.mem_of_getElem? (i := 154) (by decide +kernel))) rfl, tvgc (tvc_1 (List.mem_of_getElem? (i := 1) (by decide +kernel))) rfl, by decide +kernel, by decide +kernel, plainFor_of_name (by decide +kernel)⟩
theorem yi_X8_refusalOfHolderNumber : tvYi yX8_refusalOfHolderNumber := ⟨tvgc (tvc_6 (List.mem_of_getElem? (i := 153) (by decide +kernel))) rfl, tvg 24 (by decide +kernel) rfl⟩
theorem yk_X8_refusalOfLowMinutes : tvYk yX8_refusalOfLowMinutes cX8_refusalOfLowMinutes 2 (some .int) 1 := ⟨tvgc (tvc_1 (List.mem_of_getElem? (i := 39) (by decide +kernel))) rfl, tvgc (tvc_1 (List.mem_of_getElem? (i := 1) (by decide +kernel))) rfl, by decide +kernel, by decide +kernel, plainFor_of_name (by decide +kernel)⟩
theorem yi_X8_refusalOfLowMinutes : tvYi yX8_refusalOfLowMinutes := ⟨tvgc (tvc_1 (List.mem_of_getElem? (i := 37) (by decide +kernel))) rfl, tvg 0 (by decide +kernel) rfl⟩
theorem yk_X8_refusalUnless : tvYk yX8_refusalUnless cX8_refusalUnless 3 (some .int) 2 := ⟨tvgc (tvc_2 (List.mem_of_getElem? (i := 203) (by decide +kernel))) rfl, tvgc (tvc_1 (List.mem_of_getElem? (i := 1) (by decide +kernel))) rfl, by decide +kernel, by decide +kernel, plainFor_of_name (by decide +kernel)⟩
theorem yi_X8_refusalUnless : tvYi yX8_refusalUnless := ⟨tvgc (tvc_2 (List.mem_of_getElem? (i := 202) (by decide +kernel))) rfl, tvg 7 (by decide +kernel) rfl⟩
theorem yk_X8_remainingDelay : tvYk yX8_remainingDelay cX8_remainingDelay 2 (some .int) 1 := ⟨tvgc (tvc_6 (List.mem_of_getElem? (i := 180) (by decide +kernel))) rfl, tvgc (tvc_1 (List.mem_of_getElem? (i := 1) (by decide +kernel))) rfl, by decide +kernel, by decide +kernel, plainFor_of_name (by decide +kernel)⟩
theorem yi_X8_remainingDelay : tvYi yX8_remainingDelay := ⟨tvgc (tvc_6 (List.mem_of_getElem? (i := 178) (by decide +kernel))) rfl, tvgc (tvc_6 (List.mem_of_getElem? (i := 179) (by decide +kernel))) rfl⟩
theorem yk_X8_restore : tvYk yX8_restore cX8_restore 1 (some .int) 0 := ⟨tvgc (tvc_3 (List.mem_of_getElem? (i := 14) (by decide +kernel))) rfl, tvgc (tvc_1 (List.mem_of_getElem? (i := 1) (by decide +kernel))) rfl, by decide +kernel, by decide +kernel, plainFor_of_name (by decide +kernel)⟩
theorem yi_X8_restore : tvYi yX8_restore := ⟨tvgc (tvc_3 (List.mem_of_getElem? (i := 12) (by decide +kernel))) rfl, tvgc (tvc_3 (List.mem_of_getElem? (i := 13) (by decide +kernel))) rfl⟩
theorem yk_X8_save : tvYk yX8_save cX8_save 1 (some .int) 0 := ⟨tvgc (tvc_2 (List.mem_of_getElem? (i := 14) (by decide +kernel))) rfl, tvgc (tvc_1 (List.mem_of_getElem? (i := 1) (by decide +kernel))) rfl, by decide +kernel, by decide +kernel, plainFor_of_name (by decide +kernel)⟩
theorem yi_X8_save : tvYi yX8_save := ⟨tvgc (tvc_2 (List.mem_of_getElem? (i := 12) (by decide +kernel))) rfl, tvgc (tvc_2 (List.mem_of_getElem? (i := 13) (by decide +kernel))) rfl⟩
theorem yk_X8_setTide : tvYk yX8_setTide cX8_setTide 3 (some .int) 2 := ⟨tvgc (tvc_2 (List.mem_of_getElem? (i := 87) (by decide +kernel))) rfl, tvgc (tvc_1 (List.mem_of_getElem? (i := 1) (by decide +kernel))) rfl, by decide +kernel, by decide +kernel, plainFor_of_name (by decide +kernel)⟩
theorem yi_X8_setTide : tvYi yX8_setTide := ⟨tvgc (tvc_2 (List.mem_of_getElem? (i := 85) (by decide +kernel))) rfl, tvgc (tvc_2 (List.mem_of_getElem? (i := 86) (by decide +kernel))) rfl⟩
theorem yk_X8_status : tvYk yX8_status cX8_status 2 (some .char) 1 := ⟨tvgc (tvc_6 (List.mem_of_getElem? (i := 165) (by decide +kernel))) rfl, tvgc (tvc_1 (List.mem_of_getElem? (i := 1) (by decide +kernel))) rfl, by decide +kernel, by decide +kernel, plainFor_of_name (by decide +kernel)⟩
theorem yi_X8_status : tvYi yX8_status := ⟨tvgc (tvc_6 (List.mem_of_getElem? (i := 163) (by decide +kernel))) rfl, tvgc (tvc_6 (List.mem_of_getElem? (i := 164) (by decide +kernel))) rfl⟩
theorem yk_X8_time : tvYk yX8_time cX8_time 1 (some .int) 0 := ⟨tvgc (tvc_6 (List.mem_of_getElem? (i := 129) (by decide +kernel))) rfl, tvgc (tvc_1 (List.mem_of_getElem? (i := 1) (by decide +kernel))) rfl, by decide +kernel, by decide +kernel, plainFor_of_name (by decide +kernel)⟩
theorem yi_X8_time : tvYi yX8_time := ⟨tvgc (tvc_6 (List.mem_of_getElem? (i := 127) (by decide +kernel))) rfl, tvgc (tvc_6 (List.mem_of_getElem? (i := 128) (by decide +kernel))) rfl⟩
theorem yk_X8_totalValue : tvYk yX8_totalValue cX8_totalValue 1 (some .long) 0 := ⟨tvgc (tvc_7 (List.mem_of_getElem? (i := 22) (by decide +kernel))) rfl, tvgc (tvc_1 (List.mem_of_getElem? (i := 1) (by decide +kernel))) rfl, by decide +kernel, by decide +kernel, plainFor_of_name (by decide +kernel)⟩
theorem yi_X8_totalValue : tvYi yX8_totalValue := ⟨tvgc (tvc_7 (List.mem_of_getElem? (i := 20) (by decide +kernel))) rfl, tvgc (tvc_7 (List.mem_of_getElem? (i := 21) (by decide +kernel))) rfl⟩
theorem yk_X8_totalValueByLedger : tvYk yX8_totalValueByLedger cX8_totalValueByLedger 1 (some .long) 0 := ⟨tvgc (tvc_6 (List.mem_of_getElem? (i := 141) (by decide +kernel))) rfl, tvgc (tvc_1 (List.mem_of_getElem? (i := 1) (by decide +kernel))) rfl, by decide +kernel, by decide +kernel, plainFor_of_name (by decide +kernel)⟩
theorem yi_X8_totalValueByLedger : tvYi yX8_totalValueByLedger := ⟨tvgc (tvc_6 (List.mem_of_getElem? (i := 139) (by decide +kernel))) rfl, tvgc (tvc_6 (List.mem_of_getElem? (i := 140) (by decide +kernel))) rfl⟩
theorem yk_X8_turnKey : tvYk yX8_turnKey cX8_turnKey 4 (some .char) 3 := ⟨tvgc (tvc_4 (List.mem_of_getElem? (i := 54) (by decide +kernel))) rfl, tvgc (tvc_1 (List.mem_of_getElem? (i := 1) (by decide +kernel))) rfl, by decide +kernel, by decide +kernel, plainFor_of_name (by decide +kernel)⟩
theorem yi_X8_turnKey : tvYi yX8_turnKey := ⟨tvgc (tvc_4 (List.mem_of_getElem? (i := 52) (by decide +kernel))) rfl, tvgc (tvc_4 (List.mem_of_getElem? (i := 53) (by decide +kernel))) rfl⟩
theorem yk_X8_type : tvYk yX8_type cX8_type 2 (some .int) 1 := ⟨tvgc (tvc_5 (List.mem_of_getElem? (i := 233) (by decide +kernel))) rfl, tvgc (tvc_1 (List.mem_of_getElem? (i := 1) (by decide +kernel))) rfl, by decide +kernel, by decide +kernel, plainFor_of_name (by decide +kernel)⟩
theorem yi_X8_type : tvYi yX8_type := ⟨tvgc (tvc_5 (List.mem_of_getElem? (i := 231) (by decide +kernel))) rfl, tvgc (tvc_5 (List.mem_of_getElem? (i := 232) (by decide +kernel))) rfl⟩
theorem yk_X8_undo : tvYk yX8_undo cX8_undo 1 (some .int) 0 := ⟨tvgc (tvc_2 (List.mem_of_getElem? (i := 238) (by decide +kernel))) rfl, tvgc (tvc_1 (List.mem_of_getElem? (i := 1) (by decide +kernel))) rfl, by decide +kernel, by decide +kernel, plainFor_of_name (by decide +kernel)⟩
theorem yi_X8_undo : tvYi yX8_undo := ⟨tvgc (tvc_2 (List.mem_of_getElem? (i := 236) (by decide +kernel))) rfl, tvgc (tvc_2 (List.mem_of_getElem? (i := 237) (by decide +kernel))) rfl⟩
theorem yk_X8_withdraw : tvYk yX8_withdraw cX8_withdraw 2 (some .int) 1 := ⟨tvgc (tvc_4 (List.mem_of_getElem? (i := 189) (by decide +kernel))) rfl, tvgc (tvc_1 (List.mem_of_getElem? (i := 1) (by decide +kernel))) rfl, by decide +kernel, by decide +kernel, plainFor_of_name (by decide +kernel)⟩
theorem yi_X8_withdraw : tvYi yX8_withdraw := ⟨tvgc (tvc_4 (List.mem_of_getElem? (i := 187) (by decide +kernel))) rfl, tvgc (tvc_4 (List.mem_of_getElem? (i := 188) (by decide +kernel))) rfl⟩
def dl_X1_begin : List (Nat × Instr × Nat) := [(0, .aload_n 0, 1), (1, .getfield 13, 3), (4, .aload_n 0, 1), (5, .getfield 25, 3), (8, .bipush 9, 2), (10, .invokestatic 29, 3), (13, .aaload, 1), (14, .astore_n 2, 1), (15, .aload_n 2, 1), (16, .ifnull 8, 3), (19, .aload_n 2, 1), (20, .aload_n 1, 1), (21, .invokevirtual 35, 3), (24, .return_, 1)]
theorem dlk_X1_begin : tvDl cX1_begin dl_X1_begin = true := by decide +kernel
theorem dk_X1_begin_0 : tvD cX1_begin 0 (.aload_n 0) 1 1 := tvDl_get dlk_X1_begin 0 rfl rfl
theorem dk_X1_begin_1 : tvD cX1_begin 1 (.getfield 13) 3 4 := tvDl_get dlk_X1_begin 1 rfl rfl
theorem dk_X1_begin_4 : tvD cX1_begin 4 (.aload_n 0) 1 5 := tvDl_get dlk_X1_begin 2 rfl rfl
theorem dk_X1_begin_5 : tvD cX1_begin 5 (.getfield 25) 3 8 := tvDl_get dlk_X1_begin 3 rfl rfl
theorem dk_X1_begin_8 : tvD cX1_begin 8 (.bipush 9) 2 10 := tvDl_get dlk_X1_begin 4 rfl rfl
theorem dk_X1_begin_10 : tvD cX1_begin 10 (.invokestatic 29) 3 13 := tvDl_get dlk_X1_begin 5 rfl rfl
theorem dk_X1_begin_13 : tvD cX1_begin 13 (.aaload) 1 14 := tvDl_get dlk_X1_begin 6 rfl rfl
theorem dk_X1_begin_14 : tvD cX1_begin 14 (.astore_n 2) 1 15 := tvDl_get dlk_X1_begin 7 rfl rfl
theorem dk_X1_begin_15 : tvD cX1_begin 15 (.aload_n 2) 1 16 := tvDl_get dlk_X1_begin 8 rfl rfl
theorem dk_X1_begin_16 : tvJ cX1_begin 16 .ifnull 24 19 := tvJl_get dlk_X1_begin 9 rfl (by decide) rfl
theorem dk_X1_begin_19 : tvD cX1_begin 19 (.aload_n 2) 1 20 := tvDl_get dlk_X1_begin 10 rfl rfl
theorem dk_X1_begin_20 : tvD cX1_begin 20 (.aload_n 1) 1 21 := tvDl_get dlk_X1_begin 11 rfl rfl
theorem dk_X1_begin_21 : tvD cX1_begin 21 (.invokevirtual 35) 3 24 := tvDl_get dlk_X1_begin 12 rfl rfl
theorem dk_X1_begin_24 : tvD cX1_begin 24 (.return_) 1 25 := tvDl_get dlk_X1_begin 13 rfl rfl
def dl_X1_cancel : List (Nat × Instr × Nat) := [(0, .aload_n 0, 1), (1, .getfield 13, 3), (4, .aload_n 0, 1), (5, .getfield 25, 3), (8, .bipush 9, 2), (10, .invokestatic 29, 3), (13, .aaload, 1), (14, .astore_n 2, 1), (15, .aload_n 2, 1), (16, .ifnull 8, 3), (19, .aload_n 1, 1), (20, .aload_n 2, 1), (21, .invokevirtual 35, 3), (24, .return_, 1)]
theorem dlk_X1_cancel : tvDl cX1_cancel dl_X1_cancel = true := by decide +kernel
theorem dk_X1_cancel_0 : tvD cX1_cancel 0 (.aload_n 0) 1 1 := tvDl_get dlk_X1_cancel 0 rfl rfl
theorem dk_X1_cancel_1 : tvD cX1_cancel 1 (.getfield 13) 3 4 := tvDl_get dlk_X1_cancel 1 rfl rfl
theorem dk_X1_cancel_4 : tvD cX1_cancel 4 (.aload_n 0) 1 5 := tvDl_get dlk_X1_cancel 2 rfl rfl
theorem dk_X1_cancel_5 : tvD cX1_cancel 5 (.getfield 25) 3 8 := tvDl_get dlk_X1_cancel 3 rfl rfl
theorem dk_X1_cancel_8 : tvD cX1_cancel 8 (.bipush 9) 2 10 := tvDl_get dlk_X1_cancel 4 rfl rfl
theorem dk_X1_cancel_10 : tvD cX1_cancel 10 (.invokestatic 29) 3 13 := tvDl_get dlk_X1_cancel 5 rfl rfl
theorem dk_X1_cancel_13 : tvD cX1_cancel 13 (.aaload) 1 14 := tvDl_get dlk_X1_cancel 6 rfl rfl
theorem dk_X1_cancel_14 : tvD cX1_cancel 14 (.astore_n 2) 1 15 := tvDl_get dlk_X1_cancel 7 rfl rfl
theorem dk_X1_cancel_15 : tvD cX1_cancel 15 (.aload_n 2) 1 16 := tvDl_get dlk_X1_cancel 8 rfl rfl
theorem dk_X1_cancel_16 : tvJ cX1_cancel 16 .ifnull 24 19 := tvJl_get dlk_X1_cancel 9 rfl (by decide) rfl
theorem dk_X1_cancel_19 : tvD cX1_cancel 19 (.aload_n 1) 1 20 := tvDl_get dlk_X1_cancel 10 rfl rfl
theorem dk_X1_cancel_20 : tvD cX1_cancel 20 (.aload_n 2) 1 21 := tvDl_get dlk_X1_cancel 11 rfl rfl
theorem dk_X1_cancel_21 : tvD cX1_cancel 21 (.invokevirtual 35) 3 24 := tvDl_get dlk_X1_cancel 12 rfl rfl
theorem dk_X1_cancel_24 : tvD cX1_cancel 24 (.return_) 1 25 := tvDl_get dlk_X1_cancel 13 rfl rfl
def dl_X1_commit : List (Nat × Instr × Nat) := [(0, .aload_n 0, 1), (1, .aload_n 0, 1), (2, .getfield 25, 3), (5, .iconst 1, 1), (6, .iadd, 1), (7, .bipush 9, 2), (9, .invokestatic 29, 3), (12, .putfield 25, 3), (15, .aload_n 0, 1), (16, .aload_n 0, 1), (17, .getfield 38, 3), (20, .iconst 1, 1), (21, .iadd, 1), (22, .bipush 8, 2), (24, .invokestatic 41, 3), (27, .putfield 38, 3), (30, .return_, 1)]
theorem dlk_X1_commit : tvDl cX1_commit dl_X1_commit = true := by decide +kernel
theorem dk_X1_commit_0 : tvD cX1_commit 0 (.aload_n 0) 1 1 := tvDl_get dlk_X1_commit 0 rfl rfl
theorem dk_X1_commit_1 : tvD cX1_commit 1 (.aload_n 0) 1 2 := tvDl_get dlk_X1_commit 1 rfl rfl
theorem dk_X1_commit_2 : tvD cX1_commit 2 (.getfield 25) 3 5 := tvDl_get dlk_X1_commit 2 rfl rfl
theorem dk_X1_commit_5 : tvD cX1_commit 5 (.iconst 1) 1 6 := tvDl_get dlk_X1_commit 3 rfl rfl
theorem dk_X1_commit_6 : tvD cX1_commit 6 (.iadd) 1 7 := tvDl_get dlk_X1_commit 4 rfl rfl
theorem dk_X1_commit_7 : tvD cX1_commit 7 (.bipush 9) 2 9 := tvDl_get dlk_X1_commit 5 rfl rfl
theorem dk_X1_commit_9 : tvD cX1_commit 9 (.invokestatic 29) 3 12 := tvDl_get dlk_X1_commit 6 rfl rfl
theorem dk_X1_commit_12 : tvD cX1_commit 12 (.putfield 25) 3 15 := tvDl_get dlk_X1_commit 7 rfl rfl
theorem dk_X1_commit_15 : tvD cX1_commit 15 (.aload_n 0) 1 16 := tvDl_get dlk_X1_commit 8 rfl rfl
theorem dk_X1_commit_16 : tvD cX1_commit 16 (.aload_n 0) 1 17 := tvDl_get dlk_X1_commit 9 rfl rfl
theorem dk_X1_commit_17 : tvD cX1_commit 17 (.getfield 38) 3 20 := tvDl_get dlk_X1_commit 10 rfl rfl
theorem dk_X1_commit_20 : tvD cX1_commit 20 (.iconst 1) 1 21 := tvDl_get dlk_X1_commit 11 rfl rfl
theorem dk_X1_commit_21 : tvD cX1_commit 21 (.iadd) 1 22 := tvDl_get dlk_X1_commit 12 rfl rfl
theorem dk_X1_commit_22 : tvD cX1_commit 22 (.bipush 8) 2 24 := tvDl_get dlk_X1_commit 13 rfl rfl
theorem dk_X1_commit_24 : tvD cX1_commit 24 (.invokestatic 41) 3 27 := tvDl_get dlk_X1_commit 14 rfl rfl
theorem dk_X1_commit_27 : tvD cX1_commit 27 (.putfield 38) 3 30 := tvDl_get dlk_X1_commit 15 rfl rfl
theorem dk_X1_commit_30 : tvD cX1_commit 30 (.return_) 1 31 := tvDl_get dlk_X1_commit 16 rfl rfl
def dl_X1_forget : List (Nat × Instr × Nat) := [(0, .aload_n 0, 1), (1, .iconst 0, 1), (2, .putfield 38, 3), (5, .return_, 1)]
theorem dlk_X1_forget : tvDl cX1_forget dl_X1_forget = true := by decide +kernel
theorem dk_X1_forget_0 : tvD cX1_forget 0 (.aload_n 0) 1 1 := tvDl_get dlk_X1_forget 0 rfl rfl
theorem dk_X1_forget_1 : tvD cX1_forget 1 (.iconst 0) 1 2 := tvDl_get dlk_X1_forget 1 rfl rfl
theorem dk_X1_forget_2 : tvD cX1_forget 2 (.putfield 38) 3 5 := tvDl_get dlk_X1_forget 2 rfl rfl
theorem dk_X1_forget_5 : tvD cX1_forget 5 (.return_) 1 6 := tvDl_get dlk_X1_forget 3 rfl rfl
def dl_X1_keep : List (Nat × Instr × Nat) := [(0, .aload_n 0, 1), (1, .aload_n 1, 1), (2, .invokevirtual 18, 3), (5, .aload_n 0, 1), (6, .invokevirtual 22, 3), (9, .return_, 1)]
theorem dlk_X1_keep : tvDl cX1_keep dl_X1_keep = true := by decide +kernel
theorem dk_X1_keep_0 : tvD cX1_keep 0 (.aload_n 0) 1 1 := tvDl_get dlk_X1_keep 0 rfl rfl
theorem dk_X1_keep_1 : tvD cX1_keep 1 (.aload_n 1) 1 2 := tvDl_get dlk_X1_keep 1 rfl rfl
theorem dk_X1_keep_2 : tvD cX1_keep 2 (.invokevirtual 18) 3 5 := tvDl_get dlk_X1_keep 2 rfl rfl
theorem dk_X1_keep_5 : tvD cX1_keep 5 (.aload_n 0) 1 6 := tvDl_get dlk_X1_keep 3 rfl rfl
theorem dk_X1_keep_6 : tvD cX1_keep 6 (.invokevirtual 22) 3 9 := tvDl_get dlk_X1_keep 4 rfl rfl
theorem dk_X1_keep_9 : tvD cX1_keep 9 (.return_) 1 10 := tvDl_get dlk_X1_keep 5 rfl rfl
def dl_X1_stepBack : List (Nat × Instr × Nat) := [(0, .aload_n 0, 1), (1, .aload_n 0, 1), (2, .getfield 25, 3), (5, .iconst 1, 1), (6, .isub, 1), (7, .bipush 9, 2), (9, .invokestatic 29, 3), (12, .putfield 25, 3), (15, .aload_n 0, 1), (16, .aload_n 1, 1), (17, .invokevirtual 44, 3), (20, .aload_n 0, 1), (21, .dup, 1), (22, .getfield 38, 3), (25, .iconst 1, 1), (26, .isub, 1), (27, .putfield 38, 3), (30, .aload_n 0, 1), (31, .getfield 38, 3), (34, .ireturn, 1)]
theorem dlk_X1_stepBack : tvDl cX1_stepBack dl_X1_stepBack = true := by decide +kernel
theorem dk_X1_stepBack_0 : tvD cX1_stepBack 0 (.aload_n 0) 1 1 := tvDl_get dlk_X1_stepBack 0 rfl rfl
theorem dk_X1_stepBack_1 : tvD cX1_stepBack 1 (.aload_n 0) 1 2 := tvDl_get dlk_X1_stepBack 1 rfl rfl
theorem dk_X1_stepBack_2 : tvD cX1_stepBack 2 (.getfield 25) 3 5 := tvDl_get dlk_X1_stepBack 2 rfl rfl
theorem dk_X1_stepBack_5 : tvD cX1_stepBack 5 (.iconst 1) 1 6 := tvDl_get dlk_X1_stepBack 3 rfl rfl
theorem dk_X1_stepBack_6 : tvD cX1_stepBack 6 (.isub) 1 7 := tvDl_get dlk_X1_stepBack 4 rfl rfl
theorem dk_X1_stepBack_7 : tvD cX1_stepBack 7 (.bipush 9) 2 9 := tvDl_get dlk_X1_stepBack 5 rfl rfl
theorem dk_X1_stepBack_9 : tvD cX1_stepBack 9 (.invokestatic 29) 3 12 := tvDl_get dlk_X1_stepBack 6 rfl rfl
theorem dk_X1_stepBack_12 : tvD cX1_stepBack 12 (.putfield 25) 3 15 := tvDl_get dlk_X1_stepBack 7 rfl rfl
theorem dk_X1_stepBack_15 : tvD cX1_stepBack 15 (.aload_n 0) 1 16 := tvDl_get dlk_X1_stepBack 8 rfl rfl
theorem dk_X1_stepBack_16 : tvD cX1_stepBack 16 (.aload_n 1) 1 17 := tvDl_get dlk_X1_stepBack 9 rfl rfl
theorem dk_X1_stepBack_17 : tvD cX1_stepBack 17 (.invokevirtual 44) 3 20 := tvDl_get dlk_X1_stepBack 10 rfl rfl
theorem dk_X1_stepBack_20 : tvD cX1_stepBack 20 (.aload_n 0) 1 21 := tvDl_get dlk_X1_stepBack 11 rfl rfl
theorem dk_X1_stepBack_21 : tvD cX1_stepBack 21 (.dup) 1 22 := tvDl_get dlk_X1_stepBack 12 rfl rfl
theorem dk_X1_stepBack_22 : tvD cX1_stepBack 22 (.getfield 38) 3 25 := tvDl_get dlk_X1_stepBack 13 rfl rfl
theorem dk_X1_stepBack_25 : tvD cX1_stepBack 25 (.iconst 1) 1 26 := tvDl_get dlk_X1_stepBack 14 rfl rfl
theorem dk_X1_stepBack_26 : tvD cX1_stepBack 26 (.isub) 1 27 := tvDl_get dlk_X1_stepBack 15 rfl rfl
theorem dk_X1_stepBack_27 : tvD cX1_stepBack 27 (.putfield 38) 3 30 := tvDl_get dlk_X1_stepBack 16 rfl rfl
theorem dk_X1_stepBack_30 : tvD cX1_stepBack 30 (.aload_n 0) 1 31 := tvDl_get dlk_X1_stepBack 17 rfl rfl
theorem dk_X1_stepBack_31 : tvD cX1_stepBack 31 (.getfield 38) 3 34 := tvDl_get dlk_X1_stepBack 18 rfl rfl
theorem dk_X1_stepBack_34 : tvD cX1_stepBack 34 (.ireturn) 1 35 := tvDl_get dlk_X1_stepBack 19 rfl rfl
def dl_X3_add : List (Nat × Instr × Nat) := [(0, .aload_n 0, 1), (1, .getfield 15, 3), (4, .ifCond .lt 32, 3), (7, .aload_n 0, 1), (8, .getfield 15, 3), (11, .bipush 36, 2), (13, .if_icmp .ge 23, 3), (16, .aload_n 0, 1), (17, .getfield 11, 3), (20, .aload_n 0, 1), (21, .getfield 15, 3), (24, .iload_n 1, 1), (25, .castore, 1), (26, .aload_n 0, 1), (27, .dup, 1), (28, .getfield 15, 3), (31, .iconst 1, 1), (32, .iadd, 1), (33, .putfield 15, 3), (36, .return_, 1)]
theorem dlk_X3_add : tvDl cX3_add dl_X3_add = true := by decide +kernel
theorem dk_X3_add_0 : tvD cX3_add 0 (.aload_n 0) 1 1 := tvDl_get dlk_X3_add 0 rfl rfl
theorem dk_X3_add_1 : tvD cX3_add 1 (.getfield 15) 3 4 := tvDl_get dlk_X3_add 1 rfl rfl
theorem dk_X3_add_4 : tvJ cX3_add 4 (.ifCond .lt) 36 7 := tvJl_get dlk_X3_add 2 rfl (by decide) rfl
theorem dk_X3_add_7 : tvD cX3_add 7 (.aload_n 0) 1 8 := tvDl_get dlk_X3_add 3 rfl rfl
theorem dk_X3_add_8 : tvD cX3_add 8 (.getfield 15) 3 11 := tvDl_get dlk_X3_add 4 rfl rfl
theorem dk_X3_add_11 : tvD cX3_add 11 (.bipush 36) 2 13 := tvDl_get dlk_X3_add 5 rfl rfl
theorem dk_X3_add_13 : tvJ cX3_add 13 (.if_icmp .ge) 36 16 := tvJl_get dlk_X3_add 6 rfl (by decide) rfl
theorem dk_X3_add_16 : tvD cX3_add 16 (.aload_n 0) 1 17 := tvDl_get dlk_X3_add 7 rfl rfl
theorem dk_X3_add_17 : tvD cX3_add 17 (.getfield 11) 3 20 := tvDl_get dlk_X3_add 8 rfl rfl
theorem dk_X3_add_20 : tvD cX3_add 20 (.aload_n 0) 1 21 := tvDl_get dlk_X3_add 9 rfl rfl
theorem dk_X3_add_21 : tvD cX3_add 21 (.getfield 15) 3 24 := tvDl_get dlk_X3_add 10 rfl rfl
theorem dk_X3_add_24 : tvD cX3_add 24 (.iload_n 1) 1 25 := tvDl_get dlk_X3_add 11 rfl rfl
theorem dk_X3_add_25 : tvD cX3_add 25 (.castore) 1 26 := tvDl_get dlk_X3_add 12 rfl rfl
theorem dk_X3_add_26 : tvD cX3_add 26 (.aload_n 0) 1 27 := tvDl_get dlk_X3_add 13 rfl rfl
theorem dk_X3_add_27 : tvD cX3_add 27 (.dup) 1 28 := tvDl_get dlk_X3_add 14 rfl rfl
theorem dk_X3_add_28 : tvD cX3_add 28 (.getfield 15) 3 31 := tvDl_get dlk_X3_add 15 rfl rfl
theorem dk_X3_add_31 : tvD cX3_add 31 (.iconst 1) 1 32 := tvDl_get dlk_X3_add 16 rfl rfl
theorem dk_X3_add_32 : tvD cX3_add 32 (.iadd) 1 33 := tvDl_get dlk_X3_add 17 rfl rfl
theorem dk_X3_add_33 : tvD cX3_add 33 (.putfield 15) 3 36 := tvDl_get dlk_X3_add 18 rfl rfl
theorem dk_X3_add_36 : tvD cX3_add 36 (.return_) 1 37 := tvDl_get dlk_X3_add 19 rfl rfl
def dl_X3_addNumber : List (Nat × Instr × Nat) := [(0, .iload_n 1, 1), (1, .bipush 10, 2), (3, .if_icmp .lt 15, 3), (6, .aload_n 0, 1), (7, .bipush 48, 2), (9, .iload_n 1, 1), (10, .bipush 10, 2), (12, .idiv, 1), (13, .iadd, 1), (14, .i2c, 1), (15, .invokevirtual 19, 3), (18, .aload_n 0, 1), (19, .bipush 48, 2), (21, .iload_n 1, 1), (22, .bipush 10, 2), (24, .irem, 1), (25, .iadd, 1), (26, .i2c, 1), (27, .invokevirtual 19, 3), (30, .return_, 1)]
theorem dlk_X3_addNumber : tvDl cX3_addNumber dl_X3_addNumber = true := by decide +kernel
theorem dk_X3_addNumber_0 : tvD cX3_addNumber 0 (.iload_n 1) 1 1 := tvDl_get dlk_X3_addNumber 0 rfl rfl
theorem dk_X3_addNumber_1 : tvD cX3_addNumber 1 (.bipush 10) 2 3 := tvDl_get dlk_X3_addNumber 1 rfl rfl
theorem dk_X3_addNumber_3 : tvJ cX3_addNumber 3 (.if_icmp .lt) 18 6 := tvJl_get dlk_X3_addNumber 2 rfl (by decide) rfl
theorem dk_X3_addNumber_6 : tvD cX3_addNumber 6 (.aload_n 0) 1 7 := tvDl_get dlk_X3_addNumber 3 rfl rfl
theorem dk_X3_addNumber_7 : tvD cX3_addNumber 7 (.bipush 48) 2 9 := tvDl_get dlk_X3_addNumber 4 rfl rfl
theorem dk_X3_addNumber_9 : tvD cX3_addNumber 9 (.iload_n 1) 1 10 := tvDl_get dlk_X3_addNumber 5 rfl rfl
theorem dk_X3_addNumber_10 : tvD cX3_addNumber 10 (.bipush 10) 2 12 := tvDl_get dlk_X3_addNumber 6 rfl rfl
theorem dk_X3_addNumber_12 : tvD cX3_addNumber 12 (.idiv) 1 13 := tvDl_get dlk_X3_addNumber 7 rfl rfl
theorem dk_X3_addNumber_13 : tvD cX3_addNumber 13 (.iadd) 1 14 := tvDl_get dlk_X3_addNumber 8 rfl rfl
theorem dk_X3_addNumber_14 : tvD cX3_addNumber 14 (.i2c) 1 15 := tvDl_get dlk_X3_addNumber 9 rfl rfl
theorem dk_X3_addNumber_15 : tvD cX3_addNumber 15 (.invokevirtual 19) 3 18 := tvDl_get dlk_X3_addNumber 10 rfl rfl
theorem dk_X3_addNumber_18 : tvD cX3_addNumber 18 (.aload_n 0) 1 19 := tvDl_get dlk_X3_addNumber 11 rfl rfl
theorem dk_X3_addNumber_19 : tvD cX3_addNumber 19 (.bipush 48) 2 21 := tvDl_get dlk_X3_addNumber 12 rfl rfl
theorem dk_X3_addNumber_21 : tvD cX3_addNumber 21 (.iload_n 1) 1 22 := tvDl_get dlk_X3_addNumber 13 rfl rfl
theorem dk_X3_addNumber_22 : tvD cX3_addNumber 22 (.bipush 10) 2 24 := tvDl_get dlk_X3_addNumber 14 rfl rfl
theorem dk_X3_addNumber_24 : tvD cX3_addNumber 24 (.irem) 1 25 := tvDl_get dlk_X3_addNumber 15 rfl rfl
theorem dk_X3_addNumber_25 : tvD cX3_addNumber 25 (.iadd) 1 26 := tvDl_get dlk_X3_addNumber 16 rfl rfl
theorem dk_X3_addNumber_26 : tvD cX3_addNumber 26 (.i2c) 1 27 := tvDl_get dlk_X3_addNumber 17 rfl rfl
theorem dk_X3_addNumber_27 : tvD cX3_addNumber 27 (.invokevirtual 19) 3 30 := tvDl_get dlk_X3_addNumber 18 rfl rfl
theorem dk_X3_addNumber_30 : tvD cX3_addNumber 30 (.return_) 1 31 := tvDl_get dlk_X3_addNumber 19 rfl rfl
def dl_X3_empty : List (Nat × Instr × Nat) := [(0, .aload_n 0, 1), (1, .iconst 0, 1), (2, .putfield 15, 3), (5, .return_, 1)]
theorem dlk_X3_empty : tvDl cX3_empty dl_X3_empty = true := by decide +kernel
theorem dk_X3_empty_0 : tvD cX3_empty 0 (.aload_n 0) 1 1 := tvDl_get dlk_X3_empty 0 rfl rfl
theorem dk_X3_empty_1 : tvD cX3_empty 1 (.iconst 0) 1 2 := tvDl_get dlk_X3_empty 1 rfl rfl
theorem dk_X3_empty_2 : tvD cX3_empty 2 (.putfield 15) 3 5 := tvDl_get dlk_X3_empty 2 rfl rfl
theorem dk_X3_empty_5 : tvD cX3_empty 5 (.return_) 1 6 := tvDl_get dlk_X3_empty 3 rfl rfl
def dl_X5_append : List (Nat × Instr × Nat) := [(0, .aload_n 0, 1), (1, .getfield 22, 3), (4, .ifCond .lt 32, 3), (7, .aload_n 0, 1), (8, .getfield 22, 3), (11, .bipush 60, 2), (13, .if_icmp .ge 23, 3), (16, .aload_n 0, 1), (17, .getfield 9, 3), (20, .aload_n 0, 1), (21, .getfield 22, 3), (24, .iload_n 1, 1), (25, .castore, 1), (26, .aload_n 0, 1), (27, .dup, 1), (28, .getfield 22, 3), (31, .iconst 1, 1), (32, .iadd, 1), (33, .putfield 22, 3), (36, .aload_n 0, 1), (37, .getfield 22, 3), (40, .ireturn, 1)]
theorem dlk_X5_append : tvDl cX5_append dl_X5_append = true := by decide +kernel
theorem dk_X5_append_0 : tvD cX5_append 0 (.aload_n 0) 1 1 := tvDl_get dlk_X5_append 0 rfl rfl
theorem dk_X5_append_1 : tvD cX5_append 1 (.getfield 22) 3 4 := tvDl_get dlk_X5_append 1 rfl rfl
theorem dk_X5_append_4 : tvJ cX5_append 4 (.ifCond .lt) 36 7 := tvJl_get dlk_X5_append 2 rfl (by decide) rfl
theorem dk_X5_append_7 : tvD cX5_append 7 (.aload_n 0) 1 8 := tvDl_get dlk_X5_append 3 rfl rfl
theorem dk_X5_append_8 : tvD cX5_append 8 (.getfield 22) 3 11 := tvDl_get dlk_X5_append 4 rfl rfl
theorem dk_X5_append_11 : tvD cX5_append 11 (.bipush 60) 2 13 := tvDl_get dlk_X5_append 5 rfl rfl
theorem dk_X5_append_13 : tvJ cX5_append 13 (.if_icmp .ge) 36 16 := tvJl_get dlk_X5_append 6 rfl (by decide) rfl
theorem dk_X5_append_16 : tvD cX5_append 16 (.aload_n 0) 1 17 := tvDl_get dlk_X5_append 7 rfl rfl
theorem dk_X5_append_17 : tvD cX5_append 17 (.getfield 9) 3 20 := tvDl_get dlk_X5_append 8 rfl rfl
theorem dk_X5_append_20 : tvD cX5_append 20 (.aload_n 0) 1 21 := tvDl_get dlk_X5_append 9 rfl rfl
theorem dk_X5_append_21 : tvD cX5_append 21 (.getfield 22) 3 24 := tvDl_get dlk_X5_append 10 rfl rfl
theorem dk_X5_append_24 : tvD cX5_append 24 (.iload_n 1) 1 25 := tvDl_get dlk_X5_append 11 rfl rfl
theorem dk_X5_append_25 : tvD cX5_append 25 (.castore) 1 26 := tvDl_get dlk_X5_append 12 rfl rfl
theorem dk_X5_append_26 : tvD cX5_append 26 (.aload_n 0) 1 27 := tvDl_get dlk_X5_append 13 rfl rfl
theorem dk_X5_append_27 : tvD cX5_append 27 (.dup) 1 28 := tvDl_get dlk_X5_append 14 rfl rfl
theorem dk_X5_append_28 : tvD cX5_append 28 (.getfield 22) 3 31 := tvDl_get dlk_X5_append 15 rfl rfl
theorem dk_X5_append_31 : tvD cX5_append 31 (.iconst 1) 1 32 := tvDl_get dlk_X5_append 16 rfl rfl
theorem dk_X5_append_32 : tvD cX5_append 32 (.iadd) 1 33 := tvDl_get dlk_X5_append 17 rfl rfl
theorem dk_X5_append_33 : tvD cX5_append 33 (.putfield 22) 3 36 := tvDl_get dlk_X5_append 18 rfl rfl
theorem dk_X5_append_36 : tvD cX5_append 36 (.aload_n 0) 1 37 := tvDl_get dlk_X5_append 19 rfl rfl
theorem dk_X5_append_37 : tvD cX5_append 37 (.getfield 22) 3 40 := tvDl_get dlk_X5_append 20 rfl rfl
theorem dk_X5_append_40 : tvD cX5_append 40 (.ireturn) 1 41 := tvDl_get dlk_X5_append 21 rfl rfl
def dl_X5_argumentOf : List (Nat × Instr × Nat) := [(0, .iload_n 1, 1), (1, .ifCond .lt 22, 3), (4, .iload_n 1, 1), (5, .bipush 60, 2), (7, .if_icmp .ge 16, 3), (10, .iload_n 2, 1), (11, .ifCond .lt 12, 3), (14, .iload_n 2, 1), (15, .iconst 3, 1), (16, .if_icmp .ge 7, 3), (19, .iconst 1, 1), (20, .goto 4, 3), (23, .iconst 0, 1), (24, .istore_n 3, 1), (25, .iload_n 3, 1), (26, .ifCond .eq 16, 3), (29, .aload_n 0, 1), (30, .getfield 19, 3), (33, .iload_n 1, 1), (34, .iconst 3, 1), (35, .imul, 1), (36, .iload_n 2, 1), (37, .iadd, 1), (38, .iaload, 1), (39, .goto 4, 3), (42, .iconst 0, 1), (43, .ireturn, 1)]
theorem dlk_X5_argumentOf : tvDl cX5_argumentOf dl_X5_argumentOf = true := by decide +kernel
theorem dk_X5_argumentOf_0 : tvD cX5_argumentOf 0 (.iload_n 1) 1 1 := tvDl_get dlk_X5_argumentOf 0 rfl rfl
theorem dk_X5_argumentOf_1 : tvJ cX5_argumentOf 1 (.ifCond .lt) 23 4 := tvJl_get dlk_X5_argumentOf 1 rfl (by decide) rfl
theorem dk_X5_argumentOf_4 : tvD cX5_argumentOf 4 (.iload_n 1) 1 5 := tvDl_get dlk_X5_argumentOf 2 rfl rfl
theorem dk_X5_argumentOf_5 : tvD cX5_argumentOf 5 (.bipush 60) 2 7 := tvDl_get dlk_X5_argumentOf 3 rfl rfl
theorem dk_X5_argumentOf_7 : tvJ cX5_argumentOf 7 (.if_icmp .ge) 23 10 := tvJl_get dlk_X5_argumentOf 4 rfl (by decide) rfl
theorem dk_X5_argumentOf_10 : tvD cX5_argumentOf 10 (.iload_n 2) 1 11 := tvDl_get dlk_X5_argumentOf 5 rfl rfl
theorem dk_X5_argumentOf_11 : tvJ cX5_argumentOf 11 (.ifCond .lt) 23 14 := tvJl_get dlk_X5_argumentOf 6 rfl (by decide) rfl
theorem dk_X5_argumentOf_14 : tvD cX5_argumentOf 14 (.iload_n 2) 1 15 := tvDl_get dlk_X5_argumentOf 7 rfl rfl
theorem dk_X5_argumentOf_15 : tvD cX5_argumentOf 15 (.iconst 3) 1 16 := tvDl_get dlk_X5_argumentOf 8 rfl rfl
theorem dk_X5_argumentOf_16 : tvJ cX5_argumentOf 16 (.if_icmp .ge) 23 19 := tvJl_get dlk_X5_argumentOf 9 rfl (by decide) rfl
theorem dk_X5_argumentOf_19 : tvD cX5_argumentOf 19 (.iconst 1) 1 20 := tvDl_get dlk_X5_argumentOf 10 rfl rfl
theorem dk_X5_argumentOf_20 : tvJ cX5_argumentOf 20 .goto 24 23 := tvJl_get dlk_X5_argumentOf 11 rfl (by decide) rfl
theorem dk_X5_argumentOf_23 : tvD cX5_argumentOf 23 (.iconst 0) 1 24 := tvDl_get dlk_X5_argumentOf 12 rfl rfl
theorem dk_X5_argumentOf_24 : tvD cX5_argumentOf 24 (.istore_n 3) 1 25 := tvDl_get dlk_X5_argumentOf 13 rfl rfl
theorem dk_X5_argumentOf_25 : tvD cX5_argumentOf 25 (.iload_n 3) 1 26 := tvDl_get dlk_X5_argumentOf 14 rfl rfl
theorem dk_X5_argumentOf_26 : tvJ cX5_argumentOf 26 (.ifCond .eq) 42 29 := tvJl_get dlk_X5_argumentOf 15 rfl (by decide) rfl
theorem dk_X5_argumentOf_29 : tvD cX5_argumentOf 29 (.aload_n 0) 1 30 := tvDl_get dlk_X5_argumentOf 16 rfl rfl
theorem dk_X5_argumentOf_30 : tvD cX5_argumentOf 30 (.getfield 19) 3 33 := tvDl_get dlk_X5_argumentOf 17 rfl rfl
theorem dk_X5_argumentOf_33 : tvD cX5_argumentOf 33 (.iload_n 1) 1 34 := tvDl_get dlk_X5_argumentOf 18 rfl rfl
theorem dk_X5_argumentOf_34 : tvD cX5_argumentOf 34 (.iconst 3) 1 35 := tvDl_get dlk_X5_argumentOf 19 rfl rfl
theorem dk_X5_argumentOf_35 : tvD cX5_argumentOf 35 (.imul) 1 36 := tvDl_get dlk_X5_argumentOf 20 rfl rfl
theorem dk_X5_argumentOf_36 : tvD cX5_argumentOf 36 (.iload_n 2) 1 37 := tvDl_get dlk_X5_argumentOf 21 rfl rfl
theorem dk_X5_argumentOf_37 : tvD cX5_argumentOf 37 (.iadd) 1 38 := tvDl_get dlk_X5_argumentOf 22 rfl rfl
theorem dk_X5_argumentOf_38 : tvD cX5_argumentOf 38 (.iaload) 1 39 := tvDl_get dlk_X5_argumentOf 23 rfl rfl
theorem dk_X5_argumentOf_39 : tvJ cX5_argumentOf 39 .goto 43 42 := tvJl_get dlk_X5_argumentOf 24 rfl (by decide) rfl
theorem dk_X5_argumentOf_42 : tvD cX5_argumentOf 42 (.iconst 0) 1 43 := tvDl_get dlk_X5_argumentOf 25 rfl rfl
theorem dk_X5_argumentOf_43 : tvD cX5_argumentOf 43 (.ireturn) 1 44 := tvDl_get dlk_X5_argumentOf 26 rfl rfl
def dl_X5_empty : List (Nat × Instr × Nat) := [(0, .aload_n 0, 1), (1, .iconst 0, 1), (2, .putfield 22, 3), (5, .return_, 1)]
theorem dlk_X5_empty : tvDl cX5_empty dl_X5_empty = true := by decide +kernel
theorem dk_X5_empty_0 : tvD cX5_empty 0 (.aload_n 0) 1 1 := tvDl_get dlk_X5_empty 0 rfl rfl
theorem dk_X5_empty_1 : tvD cX5_empty 1 (.iconst 0) 1 2 := tvDl_get dlk_X5_empty 1 rfl rfl
theorem dk_X5_empty_2 : tvD cX5_empty 2 (.putfield 22) 3 5 := tvDl_get dlk_X5_empty 2 rfl rfl
theorem dk_X5_empty_5 : tvD cX5_empty 5 (.return_) 1 6 := tvDl_get dlk_X5_empty 3 rfl rfl
def dl_X5_formOf : List (Nat × Instr × Nat) := [(0, .iload_n 0, 1), (48, .ldc 111, 2), (50, .areturn, 1), (51, .ldc 113, 2), (53, .areturn, 1), (54, .ldc 115, 2), (56, .areturn, 1), (57, .ldc 117, 2), (59, .areturn, 1), (60, .ldc 119, 2), (62, .areturn, 1), (63, .ldc 121, 2), (65, .areturn, 1), (66, .ldc 123, 2), (68, .areturn, 1), (69, .ldc 123, 2), (71, .areturn, 1), (72, .ldc 125, 2), (74, .areturn, 1)]
theorem dlk_X5_formOf : tvDl cX5_formOf dl_X5_formOf = true := by decide +kernel
theorem dk_X5_formOf_0 : tvD cX5_formOf 0 (.iload_n 0) 1 1 := tvDl_get dlk_X5_formOf 0 rfl rfl
theorem dk_X5_formOf_48 : tvD cX5_formOf 48 (.ldc 111) 2 50 := tvDl_get dlk_X5_formOf 1 rfl rfl
theorem dk_X5_formOf_50 : tvD cX5_formOf 50 (.areturn) 1 51 := tvDl_get dlk_X5_formOf 2 rfl rfl
theorem dk_X5_formOf_51 : tvD cX5_formOf 51 (.ldc 113) 2 53 := tvDl_get dlk_X5_formOf 3 rfl rfl
theorem dk_X5_formOf_53 : tvD cX5_formOf 53 (.areturn) 1 54 := tvDl_get dlk_X5_formOf 4 rfl rfl
theorem dk_X5_formOf_54 : tvD cX5_formOf 54 (.ldc 115) 2 56 := tvDl_get dlk_X5_formOf 5 rfl rfl
theorem dk_X5_formOf_56 : tvD cX5_formOf 56 (.areturn) 1 57 := tvDl_get dlk_X5_formOf 6 rfl rfl
theorem dk_X5_formOf_57 : tvD cX5_formOf 57 (.ldc 117) 2 59 := tvDl_get dlk_X5_formOf 7 rfl rfl
theorem dk_X5_formOf_59 : tvD cX5_formOf 59 (.areturn) 1 60 := tvDl_get dlk_X5_formOf 8 rfl rfl
theorem dk_X5_formOf_60 : tvD cX5_formOf 60 (.ldc 119) 2 62 := tvDl_get dlk_X5_formOf 9 rfl rfl
theorem dk_X5_formOf_62 : tvD cX5_formOf 62 (.areturn) 1 63 := tvDl_get dlk_X5_formOf 10 rfl rfl
theorem dk_X5_formOf_63 : tvD cX5_formOf 63 (.ldc 121) 2 65 := tvDl_get dlk_X5_formOf 11 rfl rfl
theorem dk_X5_formOf_65 : tvD cX5_formOf 65 (.areturn) 1 66 := tvDl_get dlk_X5_formOf 12 rfl rfl
theorem dk_X5_formOf_66 : tvD cX5_formOf 66 (.ldc 123) 2 68 := tvDl_get dlk_X5_formOf 13 rfl rfl
theorem dk_X5_formOf_68 : tvD cX5_formOf 68 (.areturn) 1 69 := tvDl_get dlk_X5_formOf 14 rfl rfl
theorem dk_X5_formOf_69 : tvD cX5_formOf 69 (.ldc 123) 2 71 := tvDl_get dlk_X5_formOf 15 rfl rfl
theorem dk_X5_formOf_71 : tvD cX5_formOf 71 (.areturn) 1 72 := tvDl_get dlk_X5_formOf 16 rfl rfl
theorem dk_X5_formOf_72 : tvD cX5_formOf 72 (.ldc 125) 2 74 := tvDl_get dlk_X5_formOf 17 rfl rfl
theorem dk_X5_formOf_74 : tvD cX5_formOf 74 (.areturn) 1 75 := tvDl_get dlk_X5_formOf 18 rfl rfl
def dl_X5_isDigit : List (Nat × Instr × Nat) := [(0, .iload_n 0, 1), (1, .bipush 48, 2), (3, .if_icmp .lt 13, 3), (6, .iload_n 0, 1), (7, .bipush 57, 2), (9, .if_icmp .gt 7, 3), (12, .iconst 1, 1), (13, .goto 4, 3), (16, .iconst 0, 1), (17, .ireturn, 1)]
theorem dlk_X5_isDigit : tvDl cX5_isDigit dl_X5_isDigit = true := by decide +kernel
theorem dk_X5_isDigit_0 : tvD cX5_isDigit 0 (.iload_n 0) 1 1 := tvDl_get dlk_X5_isDigit 0 rfl rfl
theorem dk_X5_isDigit_1 : tvD cX5_isDigit 1 (.bipush 48) 2 3 := tvDl_get dlk_X5_isDigit 1 rfl rfl
theorem dk_X5_isDigit_3 : tvJ cX5_isDigit 3 (.if_icmp .lt) 16 6 := tvJl_get dlk_X5_isDigit 2 rfl (by decide) rfl
theorem dk_X5_isDigit_6 : tvD cX5_isDigit 6 (.iload_n 0) 1 7 := tvDl_get dlk_X5_isDigit 3 rfl rfl
theorem dk_X5_isDigit_7 : tvD cX5_isDigit 7 (.bipush 57) 2 9 := tvDl_get dlk_X5_isDigit 4 rfl rfl
theorem dk_X5_isDigit_9 : tvJ cX5_isDigit 9 (.if_icmp .gt) 16 12 := tvJl_get dlk_X5_isDigit 5 rfl (by decide) rfl
theorem dk_X5_isDigit_12 : tvD cX5_isDigit 12 (.iconst 1) 1 13 := tvDl_get dlk_X5_isDigit 6 rfl rfl
theorem dk_X5_isDigit_13 : tvJ cX5_isDigit 13 .goto 17 16 := tvJl_get dlk_X5_isDigit 7 rfl (by decide) rfl
theorem dk_X5_isDigit_16 : tvD cX5_isDigit 16 (.iconst 0) 1 17 := tvDl_get dlk_X5_isDigit 8 rfl rfl
theorem dk_X5_isDigit_17 : tvD cX5_isDigit 17 (.ireturn) 1 18 := tvDl_get dlk_X5_isDigit 9 rfl rfl
def dl_X5_isFull : List (Nat × Instr × Nat) := [(0, .aload_n 0, 1), (1, .getfield 22, 3), (4, .bipush 60, 2), (6, .if_icmp .lt 7, 3), (9, .iconst 1, 1), (10, .goto 4, 3), (13, .iconst 0, 1), (14, .ireturn, 1)]
theorem dlk_X5_isFull : tvDl cX5_isFull dl_X5_isFull = true := by decide +kernel
theorem dk_X5_isFull_0 : tvD cX5_isFull 0 (.aload_n 0) 1 1 := tvDl_get dlk_X5_isFull 0 rfl rfl
theorem dk_X5_isFull_1 : tvD cX5_isFull 1 (.getfield 22) 3 4 := tvDl_get dlk_X5_isFull 1 rfl rfl
theorem dk_X5_isFull_4 : tvD cX5_isFull 4 (.bipush 60) 2 6 := tvDl_get dlk_X5_isFull 2 rfl rfl
theorem dk_X5_isFull_6 : tvJ cX5_isFull 6 (.if_icmp .lt) 13 9 := tvJl_get dlk_X5_isFull 3 rfl (by decide) rfl
theorem dk_X5_isFull_9 : tvD cX5_isFull 9 (.iconst 1) 1 10 := tvDl_get dlk_X5_isFull 4 rfl rfl
theorem dk_X5_isFull_10 : tvJ cX5_isFull 10 .goto 14 13 := tvJl_get dlk_X5_isFull 5 rfl (by decide) rfl
theorem dk_X5_isFull_13 : tvD cX5_isFull 13 (.iconst 0) 1 14 := tvDl_get dlk_X5_isFull 6 rfl rfl
theorem dk_X5_isFull_14 : tvD cX5_isFull 14 (.ireturn) 1 15 := tvDl_get dlk_X5_isFull 7 rfl rfl
def dl_X5_readSign : List (Nat × Instr × Nat) := [(0, .aload_n 0, 1), (1, .getfield 26, 3), (4, .aload_n 0, 1), (5, .getfield 22, 3), (8, .if_icmp .ge 11, 3), (11, .aload_n 0, 1), (12, .invokevirtual 48, 3), (15, .iload_n 1, 1), (16, .if_icmp .eq 5, 3), (19, .iconst 0, 1), (20, .ireturn, 1), (21, .aload_n 0, 1), (22, .dup, 1), (23, .getfield 26, 3), (26, .iconst 1, 1), (27, .iadd, 1), (28, .putfield 26, 3), (31, .iconst 1, 1), (32, .ireturn, 1)]
theorem dlk_X5_readSign : tvDl cX5_readSign dl_X5_readSign = true := by decide +kernel
theorem dk_X5_readSign_0 : tvD cX5_readSign 0 (.aload_n 0) 1 1 := tvDl_get dlk_X5_readSign 0 rfl rfl
theorem dk_X5_readSign_1 : tvD cX5_readSign 1 (.getfield 26) 3 4 := tvDl_get dlk_X5_readSign 1 rfl rfl
theorem dk_X5_readSign_4 : tvD cX5_readSign 4 (.aload_n 0) 1 5 := tvDl_get dlk_X5_readSign 2 rfl rfl
theorem dk_X5_readSign_5 : tvD cX5_readSign 5 (.getfield 22) 3 8 := tvDl_get dlk_X5_readSign 3 rfl rfl
theorem dk_X5_readSign_8 : tvJ cX5_readSign 8 (.if_icmp .ge) 19 11 := tvJl_get dlk_X5_readSign 4 rfl (by decide) rfl
theorem dk_X5_readSign_11 : tvD cX5_readSign 11 (.aload_n 0) 1 12 := tvDl_get dlk_X5_readSign 5 rfl rfl
theorem dk_X5_readSign_12 : tvD cX5_readSign 12 (.invokevirtual 48) 3 15 := tvDl_get dlk_X5_readSign 6 rfl rfl
theorem dk_X5_readSign_15 : tvD cX5_readSign 15 (.iload_n 1) 1 16 := tvDl_get dlk_X5_readSign 7 rfl rfl
theorem dk_X5_readSign_16 : tvJ cX5_readSign 16 (.if_icmp .eq) 21 19 := tvJl_get dlk_X5_readSign 8 rfl (by decide) rfl
theorem dk_X5_readSign_19 : tvD cX5_readSign 19 (.iconst 0) 1 20 := tvDl_get dlk_X5_readSign 9 rfl rfl
theorem dk_X5_readSign_20 : tvD cX5_readSign 20 (.ireturn) 1 21 := tvDl_get dlk_X5_readSign 10 rfl rfl
theorem dk_X5_readSign_21 : tvD cX5_readSign 21 (.aload_n 0) 1 22 := tvDl_get dlk_X5_readSign 11 rfl rfl
theorem dk_X5_readSign_22 : tvD cX5_readSign 22 (.dup) 1 23 := tvDl_get dlk_X5_readSign 12 rfl rfl
theorem dk_X5_readSign_23 : tvD cX5_readSign 23 (.getfield 26) 3 26 := tvDl_get dlk_X5_readSign 13 rfl rfl
theorem dk_X5_readSign_26 : tvD cX5_readSign 26 (.iconst 1) 1 27 := tvDl_get dlk_X5_readSign 14 rfl rfl
theorem dk_X5_readSign_27 : tvD cX5_readSign 27 (.iadd) 1 28 := tvDl_get dlk_X5_readSign 15 rfl rfl
theorem dk_X5_readSign_28 : tvD cX5_readSign 28 (.putfield 26) 3 31 := tvDl_get dlk_X5_readSign 16 rfl rfl
theorem dk_X5_readSign_31 : tvD cX5_readSign 31 (.iconst 1) 1 32 := tvDl_get dlk_X5_readSign 17 rfl rfl
theorem dk_X5_readSign_32 : tvD cX5_readSign 32 (.ireturn) 1 33 := tvDl_get dlk_X5_readSign 18 rfl rfl
def dl_X5_setArgument : List (Nat × Instr × Nat) := [(0, .aload_n 0, 1), (1, .getfield 29, 3), (4, .ifCond .lt 25, 3), (7, .aload_n 0, 1), (8, .getfield 29, 3), (11, .bipush 60, 2), (13, .if_icmp .ge 16, 3), (16, .iload_n 1, 1), (17, .ifCond .lt 12, 3), (20, .iload_n 1, 1), (21, .iconst 3, 1), (22, .if_icmp .ge 7, 3), (25, .iconst 1, 1), (26, .goto 4, 3), (29, .iconst 0, 1), (30, .istore_n 3, 1), (31, .iload_n 3, 1), (32, .ifCond .eq 17, 3), (35, .aload_n 0, 1), (36, .getfield 19, 3), (39, .aload_n 0, 1), (40, .getfield 29, 3), (43, .iconst 3, 1), (44, .imul, 1), (45, .iload_n 1, 1), (46, .iadd, 1), (47, .iload_n 2, 1), (48, .iastore, 1), (49, .return_, 1)]
theorem dlk_X5_setArgument : tvDl cX5_setArgument dl_X5_setArgument = true := by decide +kernel
theorem dk_X5_setArgument_0 : tvD cX5_setArgument 0 (.aload_n 0) 1 1 := tvDl_get dlk_X5_setArgument 0 rfl rfl
theorem dk_X5_setArgument_1 : tvD cX5_setArgument 1 (.getfield 29) 3 4 := tvDl_get dlk_X5_setArgument 1 rfl rfl
theorem dk_X5_setArgument_4 : tvJ cX5_setArgument 4 (.ifCond .lt) 29 7 := tvJl_get dlk_X5_setArgument 2 rfl (by decide) rfl
theorem dk_X5_setArgument_7 : tvD cX5_setArgument 7 (.aload_n 0) 1 8 := tvDl_get dlk_X5_setArgument 3 rfl rfl
theorem dk_X5_setArgument_8 : tvD cX5_setArgument 8 (.getfield 29) 3 11 := tvDl_get dlk_X5_setArgument 4 rfl rfl
theorem dk_X5_setArgument_11 : tvD cX5_setArgument 11 (.bipush 60) 2 13 := tvDl_get dlk_X5_setArgument 5 rfl rfl
theorem dk_X5_setArgument_13 : tvJ cX5_setArgument 13 (.if_icmp .ge) 29 16 := tvJl_get dlk_X5_setArgument 6 rfl (by decide) rfl
theorem dk_X5_setArgument_16 : tvD cX5_setArgument 16 (.iload_n 1) 1 17 := tvDl_get dlk_X5_setArgument 7 rfl rfl
theorem dk_X5_setArgument_17 : tvJ cX5_setArgument 17 (.ifCond .lt) 29 20 := tvJl_get dlk_X5_setArgument 8 rfl (by decide) rfl
theorem dk_X5_setArgument_20 : tvD cX5_setArgument 20 (.iload_n 1) 1 21 := tvDl_get dlk_X5_setArgument 9 rfl rfl
theorem dk_X5_setArgument_21 : tvD cX5_setArgument 21 (.iconst 3) 1 22 := tvDl_get dlk_X5_setArgument 10 rfl rfl
theorem dk_X5_setArgument_22 : tvJ cX5_setArgument 22 (.if_icmp .ge) 29 25 := tvJl_get dlk_X5_setArgument 11 rfl (by decide) rfl
theorem dk_X5_setArgument_25 : tvD cX5_setArgument 25 (.iconst 1) 1 26 := tvDl_get dlk_X5_setArgument 12 rfl rfl
theorem dk_X5_setArgument_26 : tvJ cX5_setArgument 26 .goto 30 29 := tvJl_get dlk_X5_setArgument 13 rfl (by decide) rfl
theorem dk_X5_setArgument_29 : tvD cX5_setArgument 29 (.iconst 0) 1 30 := tvDl_get dlk_X5_setArgument 14 rfl rfl
theorem dk_X5_setArgument_30 : tvD cX5_setArgument 30 (.istore_n 3) 1 31 := tvDl_get dlk_X5_setArgument 15 rfl rfl
theorem dk_X5_setArgument_31 : tvD cX5_setArgument 31 (.iload_n 3) 1 32 := tvDl_get dlk_X5_setArgument 16 rfl rfl
theorem dk_X5_setArgument_32 : tvJ cX5_setArgument 32 (.ifCond .eq) 49 35 := tvJl_get dlk_X5_setArgument 17 rfl (by decide) rfl
theorem dk_X5_setArgument_35 : tvD cX5_setArgument 35 (.aload_n 0) 1 36 := tvDl_get dlk_X5_setArgument 18 rfl rfl
theorem dk_X5_setArgument_36 : tvD cX5_setArgument 36 (.getfield 19) 3 39 := tvDl_get dlk_X5_setArgument 19 rfl rfl
theorem dk_X5_setArgument_39 : tvD cX5_setArgument 39 (.aload_n 0) 1 40 := tvDl_get dlk_X5_setArgument 20 rfl rfl
theorem dk_X5_setArgument_40 : tvD cX5_setArgument 40 (.getfield 29) 3 43 := tvDl_get dlk_X5_setArgument 21 rfl rfl
theorem dk_X5_setArgument_43 : tvD cX5_setArgument 43 (.iconst 3) 1 44 := tvDl_get dlk_X5_setArgument 22 rfl rfl
theorem dk_X5_setArgument_44 : tvD cX5_setArgument 44 (.imul) 1 45 := tvDl_get dlk_X5_setArgument 23 rfl rfl
theorem dk_X5_setArgument_45 : tvD cX5_setArgument 45 (.iload_n 1) 1 46 := tvDl_get dlk_X5_setArgument 24 rfl rfl
theorem dk_X5_setArgument_46 : tvD cX5_setArgument 46 (.iadd) 1 47 := tvDl_get dlk_X5_setArgument 25 rfl rfl
theorem dk_X5_setArgument_47 : tvD cX5_setArgument 47 (.iload_n 2) 1 48 := tvDl_get dlk_X5_setArgument 26 rfl rfl
theorem dk_X5_setArgument_48 : tvD cX5_setArgument 48 (.iastore) 1 49 := tvDl_get dlk_X5_setArgument 27 rfl rfl
theorem dk_X5_setArgument_49 : tvD cX5_setArgument 49 (.return_) 1 50 := tvDl_get dlk_X5_setArgument 28 rfl rfl
def dl_X5_sign : List (Nat × Instr × Nat) := [(0, .aload_n 0, 1), (1, .aload_n 0, 1), (2, .getfield 26, 3), (5, .invokevirtual 79, 3), (8, .ireturn, 1)]
theorem dlk_X5_sign : tvDl cX5_sign dl_X5_sign = true := by decide +kernel
theorem dk_X5_sign_0 : tvD cX5_sign 0 (.aload_n 0) 1 1 := tvDl_get dlk_X5_sign 0 rfl rfl
theorem dk_X5_sign_1 : tvD cX5_sign 1 (.aload_n 0) 1 2 := tvDl_get dlk_X5_sign 1 rfl rfl
theorem dk_X5_sign_2 : tvD cX5_sign 2 (.getfield 26) 3 5 := tvDl_get dlk_X5_sign 2 rfl rfl
theorem dk_X5_sign_5 : tvD cX5_sign 5 (.invokevirtual 79) 3 8 := tvDl_get dlk_X5_sign 3 rfl rfl
theorem dk_X5_sign_8 : tvD cX5_sign 8 (.ireturn) 1 9 := tvDl_get dlk_X5_sign 4 rfl rfl
def dl_X5_signAt : List (Nat × Instr × Nat) := [(0, .iload_n 1, 1), (1, .ifCond .lt 21, 3), (4, .iload_n 1, 1), (5, .aload_n 0, 1), (6, .getfield 22, 3), (9, .if_icmp .ge 13, 3), (12, .iload_n 1, 1), (13, .bipush 60, 2), (15, .if_icmp .ge 7, 3), (18, .iconst 1, 1), (19, .goto 4, 3), (22, .iconst 0, 1), (23, .istore_n 2, 1), (24, .iload_n 2, 1), (25, .ifCond .eq 12, 3), (28, .aload_n 0, 1), (29, .getfield 9, 3), (32, .iload_n 1, 1), (33, .caload, 1), (34, .goto 4, 3), (37, .iconst 0, 1), (38, .ireturn, 1)]
theorem dlk_X5_signAt : tvDl cX5_signAt dl_X5_signAt = true := by decide +kernel
theorem dk_X5_signAt_0 : tvD cX5_signAt 0 (.iload_n 1) 1 1 := tvDl_get dlk_X5_signAt 0 rfl rfl
theorem dk_X5_signAt_1 : tvJ cX5_signAt 1 (.ifCond .lt) 22 4 := tvJl_get dlk_X5_signAt 1 rfl (by decide) rfl
theorem dk_X5_signAt_4 : tvD cX5_signAt 4 (.iload_n 1) 1 5 := tvDl_get dlk_X5_signAt 2 rfl rfl
theorem dk_X5_signAt_5 : tvD cX5_signAt 5 (.aload_n 0) 1 6 := tvDl_get dlk_X5_signAt 3 rfl rfl
theorem dk_X5_signAt_6 : tvD cX5_signAt 6 (.getfield 22) 3 9 := tvDl_get dlk_X5_signAt 4 rfl rfl
theorem dk_X5_signAt_9 : tvJ cX5_signAt 9 (.if_icmp .ge) 22 12 := tvJl_get dlk_X5_signAt 5 rfl (by decide) rfl
theorem dk_X5_signAt_12 : tvD cX5_signAt 12 (.iload_n 1) 1 13 := tvDl_get dlk_X5_signAt 6 rfl rfl
theorem dk_X5_signAt_13 : tvD cX5_signAt 13 (.bipush 60) 2 15 := tvDl_get dlk_X5_signAt 7 rfl rfl
theorem dk_X5_signAt_15 : tvJ cX5_signAt 15 (.if_icmp .ge) 22 18 := tvJl_get dlk_X5_signAt 8 rfl (by decide) rfl
theorem dk_X5_signAt_18 : tvD cX5_signAt 18 (.iconst 1) 1 19 := tvDl_get dlk_X5_signAt 9 rfl rfl
theorem dk_X5_signAt_19 : tvJ cX5_signAt 19 .goto 23 22 := tvJl_get dlk_X5_signAt 10 rfl (by decide) rfl
theorem dk_X5_signAt_22 : tvD cX5_signAt 22 (.iconst 0) 1 23 := tvDl_get dlk_X5_signAt 11 rfl rfl
theorem dk_X5_signAt_23 : tvD cX5_signAt 23 (.istore_n 2) 1 24 := tvDl_get dlk_X5_signAt 12 rfl rfl
theorem dk_X5_signAt_24 : tvD cX5_signAt 24 (.iload_n 2) 1 25 := tvDl_get dlk_X5_signAt 13 rfl rfl
theorem dk_X5_signAt_25 : tvJ cX5_signAt 25 (.ifCond .eq) 37 28 := tvJl_get dlk_X5_signAt 14 rfl (by decide) rfl
theorem dk_X5_signAt_28 : tvD cX5_signAt 28 (.aload_n 0) 1 29 := tvDl_get dlk_X5_signAt 15 rfl rfl
theorem dk_X5_signAt_29 : tvD cX5_signAt 29 (.getfield 9) 3 32 := tvDl_get dlk_X5_signAt 16 rfl rfl
theorem dk_X5_signAt_32 : tvD cX5_signAt 32 (.iload_n 1) 1 33 := tvDl_get dlk_X5_signAt 17 rfl rfl
theorem dk_X5_signAt_33 : tvD cX5_signAt 33 (.caload) 1 34 := tvDl_get dlk_X5_signAt 18 rfl rfl
theorem dk_X5_signAt_34 : tvJ cX5_signAt 34 .goto 38 37 := tvJl_get dlk_X5_signAt 19 rfl (by decide) rfl
theorem dk_X5_signAt_37 : tvD cX5_signAt 37 (.iconst 0) 1 38 := tvDl_get dlk_X5_signAt 20 rfl rfl
theorem dk_X5_signAt_38 : tvD cX5_signAt 38 (.ireturn) 1 39 := tvDl_get dlk_X5_signAt 21 rfl rfl
def dl_X5_verbOf : List (Nat × Instr × Nat) := [(0, .iload_n 1, 1), (1, .ifCond .lt 18, 3), (4, .iload_n 1, 1), (5, .bipush 60, 2), (7, .if_icmp .ge 12, 3), (10, .aload_n 0, 1), (11, .getfield 15, 3), (14, .iload_n 1, 1), (15, .iaload, 1), (16, .goto 5, 3), (19, .bipush 8, 2), (21, .ireturn, 1)]
theorem dlk_X5_verbOf : tvDl cX5_verbOf dl_X5_verbOf = true := by decide +kernel
theorem dk_X5_verbOf_0 : tvD cX5_verbOf 0 (.iload_n 1) 1 1 := tvDl_get dlk_X5_verbOf 0 rfl rfl
theorem dk_X5_verbOf_1 : tvJ cX5_verbOf 1 (.ifCond .lt) 19 4 := tvJl_get dlk_X5_verbOf 1 rfl (by decide) rfl
theorem dk_X5_verbOf_4 : tvD cX5_verbOf 4 (.iload_n 1) 1 5 := tvDl_get dlk_X5_verbOf 2 rfl rfl
theorem dk_X5_verbOf_5 : tvD cX5_verbOf 5 (.bipush 60) 2 7 := tvDl_get dlk_X5_verbOf 3 rfl rfl
theorem dk_X5_verbOf_7 : tvJ cX5_verbOf 7 (.if_icmp .ge) 19 10 := tvJl_get dlk_X5_verbOf 4 rfl (by decide) rfl
theorem dk_X5_verbOf_10 : tvD cX5_verbOf 10 (.aload_n 0) 1 11 := tvDl_get dlk_X5_verbOf 5 rfl rfl
theorem dk_X5_verbOf_11 : tvD cX5_verbOf 11 (.getfield 15) 3 14 := tvDl_get dlk_X5_verbOf 6 rfl rfl
theorem dk_X5_verbOf_14 : tvD cX5_verbOf 14 (.iload_n 1) 1 15 := tvDl_get dlk_X5_verbOf 7 rfl rfl
theorem dk_X5_verbOf_15 : tvD cX5_verbOf 15 (.iaload) 1 16 := tvDl_get dlk_X5_verbOf 8 rfl rfl
theorem dk_X5_verbOf_16 : tvJ cX5_verbOf 16 .goto 21 19 := tvJl_get dlk_X5_verbOf 9 rfl (by decide) rfl
theorem dk_X5_verbOf_19 : tvD cX5_verbOf 19 (.bipush 8) 2 21 := tvDl_get dlk_X5_verbOf 10 rfl rfl
theorem dk_X5_verbOf_21 : tvD cX5_verbOf 21 (.ireturn) 1 22 := tvDl_get dlk_X5_verbOf 11 rfl rfl
def dl_X5_wordOf : List (Nat × Instr × Nat) := [(0, .iload_n 0, 1), (48, .ldc 93, 2), (50, .areturn, 1), (51, .ldc 95, 2), (53, .areturn, 1), (54, .ldc 97, 2), (56, .areturn, 1), (57, .ldc 99, 2), (59, .areturn, 1), (60, .ldc 101, 2), (62, .areturn, 1), (63, .ldc 103, 2), (65, .areturn, 1), (66, .ldc 105, 2), (68, .areturn, 1), (69, .ldc 107, 2), (71, .areturn, 1), (72, .ldc 109, 2), (74, .areturn, 1)]
theorem dlk_X5_wordOf : tvDl cX5_wordOf dl_X5_wordOf = true := by decide +kernel
theorem dk_X5_wordOf_0 : tvD cX5_wordOf 0 (.iload_n 0) 1 1 := tvDl_get dlk_X5_wordOf 0 rfl rfl
theorem dk_X5_wordOf_48 : tvD cX5_wordOf 48 (.ldc 93) 2 50 := tvDl_get dlk_X5_wordOf 1 rfl rfl
theorem dk_X5_wordOf_50 : tvD cX5_wordOf 50 (.areturn) 1 51 := tvDl_get dlk_X5_wordOf 2 rfl rfl
theorem dk_X5_wordOf_51 : tvD cX5_wordOf 51 (.ldc 95) 2 53 := tvDl_get dlk_X5_wordOf 3 rfl rfl
theorem dk_X5_wordOf_53 : tvD cX5_wordOf 53 (.areturn) 1 54 := tvDl_get dlk_X5_wordOf 4 rfl rfl
theorem dk_X5_wordOf_54 : tvD cX5_wordOf 54 (.ldc 97) 2 56 := tvDl_get dlk_X5_wordOf 5 rfl rfl
theorem dk_X5_wordOf_56 : tvD cX5_wordOf 56 (.areturn) 1 57 := tvDl_get dlk_X5_wordOf 6 rfl rfl
theorem dk_X5_wordOf_57 : tvD cX5_wordOf 57 (.ldc 99) 2 59 := tvDl_get dlk_X5_wordOf 7 rfl rfl
theorem dk_X5_wordOf_59 : tvD cX5_wordOf 59 (.areturn) 1 60 := tvDl_get dlk_X5_wordOf 8 rfl rfl
theorem dk_X5_wordOf_60 : tvD cX5_wordOf 60 (.ldc 101) 2 62 := tvDl_get dlk_X5_wordOf 9 rfl rfl
theorem dk_X5_wordOf_62 : tvD cX5_wordOf 62 (.areturn) 1 63 := tvDl_get dlk_X5_wordOf 10 rfl rfl
theorem dk_X5_wordOf_63 : tvD cX5_wordOf 63 (.ldc 103) 2 65 := tvDl_get dlk_X5_wordOf 11 rfl rfl
theorem dk_X5_wordOf_65 : tvD cX5_wordOf 65 (.areturn) 1 66 := tvDl_get dlk_X5_wordOf 12 rfl rfl
theorem dk_X5_wordOf_66 : tvD cX5_wordOf 66 (.ldc 105) 2 68 := tvDl_get dlk_X5_wordOf 13 rfl rfl
theorem dk_X5_wordOf_68 : tvD cX5_wordOf 68 (.areturn) 1 69 := tvDl_get dlk_X5_wordOf 14 rfl rfl
theorem dk_X5_wordOf_69 : tvD cX5_wordOf 69 (.ldc 107) 2 71 := tvDl_get dlk_X5_wordOf 15 rfl rfl
theorem dk_X5_wordOf_71 : tvD cX5_wordOf 71 (.areturn) 1 72 := tvDl_get dlk_X5_wordOf 16 rfl rfl
theorem dk_X5_wordOf_72 : tvD cX5_wordOf 72 (.ldc 109) 2 74 := tvDl_get dlk_X5_wordOf 17 rfl rfl
theorem dk_X5_wordOf_74 : tvD cX5_wordOf 74 (.areturn) 1 75 := tvDl_get dlk_X5_wordOf 18 rfl rfl
def dl_X8_addBox : List (Nat × Instr × Nat) := [(0, .aload_n 0, 1), (1, .getfield 12, 3), (4, .iload_n 1, 1), (5, .iload_n 2, 1), (6, .iload_n 3, 1), (7, .invokevirtual 71, 3), (10, .invokestatic 54, 3), (13, .aload_n 0, 1), (14, .getfield 25, 3), (17, .aload_n 0, 1), (18, .getfield 12, 3), (21, .invokevirtual 58, 3), (24, .aload_n 0, 1), (25, .getfield 12, 3), (28, .getfield 75, 3), (31, .iload_n 1, 1), (32, .iload_n 2, 1), (33, .iload_n 3, 1), (34, .invokevirtual 79, 3), (37, .ireturn, 1)]
theorem dlk_X8_addBox : tvDl cX8_addBox dl_X8_addBox = true := by decide +kernel
theorem dk_X8_addBox_0 : tvD cX8_addBox 0 (.aload_n 0) 1 1 := tvDl_get dlk_X8_addBox 0 rfl rfl
theorem dk_X8_addBox_1 : tvD cX8_addBox 1 (.getfield 12) 3 4 := tvDl_get dlk_X8_addBox 1 rfl rfl
theorem dk_X8_addBox_4 : tvD cX8_addBox 4 (.iload_n 1) 1 5 := tvDl_get dlk_X8_addBox 2 rfl rfl
theorem dk_X8_addBox_5 : tvD cX8_addBox 5 (.iload_n 2) 1 6 := tvDl_get dlk_X8_addBox 3 rfl rfl
theorem dk_X8_addBox_6 : tvD cX8_addBox 6 (.iload_n 3) 1 7 := tvDl_get dlk_X8_addBox 4 rfl rfl
theorem dk_X8_addBox_7 : tvD cX8_addBox 7 (.invokevirtual 71) 3 10 := tvDl_get dlk_X8_addBox 5 rfl rfl
theorem dk_X8_addBox_10 : tvD cX8_addBox 10 (.invokestatic 54) 3 13 := tvDl_get dlk_X8_addBox 6 rfl rfl
theorem dk_X8_addBox_13 : tvD cX8_addBox 13 (.aload_n 0) 1 14 := tvDl_get dlk_X8_addBox 7 rfl rfl
theorem dk_X8_addBox_14 : tvD cX8_addBox 14 (.getfield 25) 3 17 := tvDl_get dlk_X8_addBox 8 rfl rfl
theorem dk_X8_addBox_17 : tvD cX8_addBox 17 (.aload_n 0) 1 18 := tvDl_get dlk_X8_addBox 9 rfl rfl
theorem dk_X8_addBox_18 : tvD cX8_addBox 18 (.getfield 12) 3 21 := tvDl_get dlk_X8_addBox 10 rfl rfl
theorem dk_X8_addBox_21 : tvD cX8_addBox 21 (.invokevirtual 58) 3 24 := tvDl_get dlk_X8_addBox 11 rfl rfl
theorem dk_X8_addBox_24 : tvD cX8_addBox 24 (.aload_n 0) 1 25 := tvDl_get dlk_X8_addBox 12 rfl rfl
theorem dk_X8_addBox_25 : tvD cX8_addBox 25 (.getfield 12) 3 28 := tvDl_get dlk_X8_addBox 13 rfl rfl
theorem dk_X8_addBox_28 : tvD cX8_addBox 28 (.getfield 75) 3 31 := tvDl_get dlk_X8_addBox 14 rfl rfl
theorem dk_X8_addBox_31 : tvD cX8_addBox 31 (.iload_n 1) 1 32 := tvDl_get dlk_X8_addBox 15 rfl rfl
theorem dk_X8_addBox_32 : tvD cX8_addBox 32 (.iload_n 2) 1 33 := tvDl_get dlk_X8_addBox 16 rfl rfl
theorem dk_X8_addBox_33 : tvD cX8_addBox 33 (.iload_n 3) 1 34 := tvDl_get dlk_X8_addBox 17 rfl rfl
theorem dk_X8_addBox_34 : tvD cX8_addBox 34 (.invokevirtual 79) 3 37 := tvDl_get dlk_X8_addBox 18 rfl rfl
theorem dk_X8_addBox_37 : tvD cX8_addBox 37 (.ireturn) 1 38 := tvDl_get dlk_X8_addBox 19 rfl rfl
def dl_X8_addHolder : List (Nat × Instr × Nat) := [(0, .aload_n 0, 1), (1, .getfield 12, 3), (4, .iload_n 1, 1), (5, .invokevirtual 50, 3), (8, .invokestatic 54, 3), (11, .aload_n 0, 1), (12, .getfield 25, 3), (15, .aload_n 0, 1), (16, .getfield 12, 3), (19, .invokevirtual 58, 3), (22, .aload_n 0, 1), (23, .getfield 12, 3), (26, .getfield 62, 3), (29, .iload_n 1, 1), (30, .invokevirtual 66, 3), (33, .ireturn, 1)]
theorem dlk_X8_addHolder : tvDl cX8_addHolder dl_X8_addHolder = true := by decide +kernel
theorem dk_X8_addHolder_0 : tvD cX8_addHolder 0 (.aload_n 0) 1 1 := tvDl_get dlk_X8_addHolder 0 rfl rfl
theorem dk_X8_addHolder_1 : tvD cX8_addHolder 1 (.getfield 12) 3 4 := tvDl_get dlk_X8_addHolder 1 rfl rfl
theorem dk_X8_addHolder_4 : tvD cX8_addHolder 4 (.iload_n 1) 1 5 := tvDl_get dlk_X8_addHolder 2 rfl rfl
theorem dk_X8_addHolder_5 : tvD cX8_addHolder 5 (.invokevirtual 50) 3 8 := tvDl_get dlk_X8_addHolder 3 rfl rfl
theorem dk_X8_addHolder_8 : tvD cX8_addHolder 8 (.invokestatic 54) 3 11 := tvDl_get dlk_X8_addHolder 4 rfl rfl
theorem dk_X8_addHolder_11 : tvD cX8_addHolder 11 (.aload_n 0) 1 12 := tvDl_get dlk_X8_addHolder 5 rfl rfl
theorem dk_X8_addHolder_12 : tvD cX8_addHolder 12 (.getfield 25) 3 15 := tvDl_get dlk_X8_addHolder 6 rfl rfl
theorem dk_X8_addHolder_15 : tvD cX8_addHolder 15 (.aload_n 0) 1 16 := tvDl_get dlk_X8_addHolder 7 rfl rfl
theorem dk_X8_addHolder_16 : tvD cX8_addHolder 16 (.getfield 12) 3 19 := tvDl_get dlk_X8_addHolder 8 rfl rfl
theorem dk_X8_addHolder_19 : tvD cX8_addHolder 19 (.invokevirtual 58) 3 22 := tvDl_get dlk_X8_addHolder 9 rfl rfl
theorem dk_X8_addHolder_22 : tvD cX8_addHolder 22 (.aload_n 0) 1 23 := tvDl_get dlk_X8_addHolder 10 rfl rfl
theorem dk_X8_addHolder_23 : tvD cX8_addHolder 23 (.getfield 12) 3 26 := tvDl_get dlk_X8_addHolder 11 rfl rfl
theorem dk_X8_addHolder_26 : tvD cX8_addHolder 26 (.getfield 62) 3 29 := tvDl_get dlk_X8_addHolder 12 rfl rfl
theorem dk_X8_addHolder_29 : tvD cX8_addHolder 29 (.iload_n 1) 1 30 := tvDl_get dlk_X8_addHolder 13 rfl rfl
theorem dk_X8_addHolder_30 : tvD cX8_addHolder 30 (.invokevirtual 66) 3 33 := tvDl_get dlk_X8_addHolder 14 rfl rfl
theorem dk_X8_addHolder_33 : tvD cX8_addHolder 33 (.ireturn) 1 34 := tvDl_get dlk_X8_addHolder 15 rfl rfl
def dl_X8_alarm : List (Nat × Instr × Nat) := [(0, .aload_n 0, 1), (1, .getfield 12, 3), (4, .getfield 153, 3), (7, .ireturn, 1)]
theorem dlk_X8_alarm : tvDl cX8_alarm dl_X8_alarm = true := by decide +kernel
theorem dk_X8_alarm_0 : tvD cX8_alarm 0 (.aload_n 0) 1 1 := tvDl_get dlk_X8_alarm 0 rfl rfl
theorem dk_X8_alarm_1 : tvD cX8_alarm 1 (.getfield 12) 3 4 := tvDl_get dlk_X8_alarm 1 rfl rfl
theorem dk_X8_alarm_4 : tvD cX8_alarm 4 (.getfield 153) 3 7 := tvDl_get dlk_X8_alarm 2 rfl rfl
theorem dk_X8_alarm_7 : tvD cX8_alarm 7 (.ireturn) 1 8 := tvDl_get dlk_X8_alarm 3 rfl rfl
def dl_X8_attempts : List (Nat × Instr × Nat) := [(0, .aload_n 0, 1), (1, .iload_n 1, 1), (2, .invokevirtual 159, 3), (5, .invokestatic 54, 3), (8, .aload_n 0, 1), (9, .getfield 12, 3), (12, .getfield 62, 3), (15, .iload_n 1, 1), (16, .invokevirtual 162, 3), (19, .ireturn, 1)]
theorem dlk_X8_attempts : tvDl cX8_attempts dl_X8_attempts = true := by decide +kernel
theorem dk_X8_attempts_0 : tvD cX8_attempts 0 (.aload_n 0) 1 1 := tvDl_get dlk_X8_attempts 0 rfl rfl
theorem dk_X8_attempts_1 : tvD cX8_attempts 1 (.iload_n 1) 1 2 := tvDl_get dlk_X8_attempts 1 rfl rfl
theorem dk_X8_attempts_2 : tvD cX8_attempts 2 (.invokevirtual 159) 3 5 := tvDl_get dlk_X8_attempts 2 rfl rfl
theorem dk_X8_attempts_5 : tvD cX8_attempts 5 (.invokestatic 54) 3 8 := tvDl_get dlk_X8_attempts 3 rfl rfl
theorem dk_X8_attempts_8 : tvD cX8_attempts 8 (.aload_n 0) 1 9 := tvDl_get dlk_X8_attempts 4 rfl rfl
theorem dk_X8_attempts_9 : tvD cX8_attempts 9 (.getfield 12) 3 12 := tvDl_get dlk_X8_attempts 5 rfl rfl
theorem dk_X8_attempts_12 : tvD cX8_attempts 12 (.getfield 62) 3 15 := tvDl_get dlk_X8_attempts 6 rfl rfl
theorem dk_X8_attempts_15 : tvD cX8_attempts 15 (.iload_n 1) 1 16 := tvDl_get dlk_X8_attempts 7 rfl rfl
theorem dk_X8_attempts_16 : tvD cX8_attempts 16 (.invokevirtual 162) 3 19 := tvDl_get dlk_X8_attempts 8 rfl rfl
theorem dk_X8_attempts_19 : tvD cX8_attempts 19 (.ireturn) 1 20 := tvDl_get dlk_X8_attempts 9 rfl rfl
def dl_X8_boxByValue : List (Nat × Instr × Nat) := [(0, .aload_n 0, 1), (1, .getfield 12, 3), (4, .getfield 75, 3), (7, .iload_n 1, 1), (8, .invokevirtual 223, 3), (11, .ifCond .ne 13, 3), (14, .new 215, 3), (17, .dup, 1), (18, .ldc 227, 2), (20, .invokespecial 219, 3), (23, .athrow, 1), (24, .aload_n 0, 1), (25, .getfield 12, 3), (28, .getfield 75, 3), (31, .iload_n 1, 1), (32, .invokevirtual 229, 3), (35, .ireturn, 1)]
theorem dlk_X8_boxByValue : tvDl cX8_boxByValue dl_X8_boxByValue = true := by decide +kernel
theorem dk_X8_boxByValue_0 : tvD cX8_boxByValue 0 (.aload_n 0) 1 1 := tvDl_get dlk_X8_boxByValue 0 rfl rfl
theorem dk_X8_boxByValue_1 : tvD cX8_boxByValue 1 (.getfield 12) 3 4 := tvDl_get dlk_X8_boxByValue 1 rfl rfl
theorem dk_X8_boxByValue_4 : tvD cX8_boxByValue 4 (.getfield 75) 3 7 := tvDl_get dlk_X8_boxByValue 2 rfl rfl
theorem dk_X8_boxByValue_7 : tvD cX8_boxByValue 7 (.iload_n 1) 1 8 := tvDl_get dlk_X8_boxByValue 3 rfl rfl
theorem dk_X8_boxByValue_8 : tvD cX8_boxByValue 8 (.invokevirtual 223) 3 11 := tvDl_get dlk_X8_boxByValue 4 rfl rfl
theorem dk_X8_boxByValue_11 : tvJ cX8_boxByValue 11 (.ifCond .ne) 24 14 := tvJl_get dlk_X8_boxByValue 5 rfl (by decide) rfl
theorem dk_X8_boxByValue_14 : tvD cX8_boxByValue 14 (.new 215) 3 17 := tvDl_get dlk_X8_boxByValue 6 rfl rfl
theorem dk_X8_boxByValue_17 : tvD cX8_boxByValue 17 (.dup) 1 18 := tvDl_get dlk_X8_boxByValue 7 rfl rfl
theorem dk_X8_boxByValue_18 : tvD cX8_boxByValue 18 (.ldc 227) 2 20 := tvDl_get dlk_X8_boxByValue 8 rfl rfl
theorem dk_X8_boxByValue_20 : tvD cX8_boxByValue 20 (.invokespecial 219) 3 23 := tvDl_get dlk_X8_boxByValue 9 rfl rfl
theorem dk_X8_boxByValue_23 : tvD cX8_boxByValue 23 (.athrow) 1 24 := tvDl_get dlk_X8_boxByValue 10 rfl rfl
theorem dk_X8_boxByValue_24 : tvD cX8_boxByValue 24 (.aload_n 0) 1 25 := tvDl_get dlk_X8_boxByValue 11 rfl rfl
theorem dk_X8_boxByValue_25 : tvD cX8_boxByValue 25 (.getfield 12) 3 28 := tvDl_get dlk_X8_boxByValue 12 rfl rfl
theorem dk_X8_boxByValue_28 : tvD cX8_boxByValue 28 (.getfield 75) 3 31 := tvDl_get dlk_X8_boxByValue 13 rfl rfl
theorem dk_X8_boxByValue_31 : tvD cX8_boxByValue 31 (.iload_n 1) 1 32 := tvDl_get dlk_X8_boxByValue 14 rfl rfl
theorem dk_X8_boxByValue_32 : tvD cX8_boxByValue 32 (.invokevirtual 229) 3 35 := tvDl_get dlk_X8_boxByValue 15 rfl rfl
theorem dk_X8_boxByValue_35 : tvD cX8_boxByValue 35 (.ireturn) 1 36 := tvDl_get dlk_X8_boxByValue 16 rfl rfl
def dl_X8_boxes : List (Nat × Instr × Nat) := [(0, .aload_n 0, 1), (1, .getfield 12, 3), (4, .getfield 75, 3), (7, .getfield 171, 3), (10, .ireturn, 1)]
theorem dlk_X8_boxes : tvDl cX8_boxes dl_X8_boxes = true := by decide +kernel
theorem dk_X8_boxes_0 : tvD cX8_boxes 0 (.aload_n 0) 1 1 := tvDl_get dlk_X8_boxes 0 rfl rfl
theorem dk_X8_boxes_1 : tvD cX8_boxes 1 (.getfield 12) 3 4 := tvDl_get dlk_X8_boxes 1 rfl rfl
theorem dk_X8_boxes_4 : tvD cX8_boxes 4 (.getfield 75) 3 7 := tvDl_get dlk_X8_boxes 2 rfl rfl
theorem dk_X8_boxes_7 : tvD cX8_boxes 7 (.getfield 171) 3 10 := tvDl_get dlk_X8_boxes 3 rfl rfl
theorem dk_X8_boxes_10 : tvD cX8_boxes 10 (.ireturn) 1 11 := tvDl_get dlk_X8_boxes 4 rfl rfl
def dl_X8_boxesOf : List (Nat × Instr × Nat) := [(0, .aload_n 0, 1), (1, .iload_n 1, 1), (2, .invokevirtual 159, 3), (5, .invokestatic 54, 3), (8, .aload_n 0, 1), (9, .getfield 12, 3), (12, .getfield 75, 3), (15, .iload_n 1, 1), (16, .invokevirtual 168, 3), (19, .ireturn, 1)]
theorem dlk_X8_boxesOf : tvDl cX8_boxesOf dl_X8_boxesOf = true := by decide +kernel
theorem dk_X8_boxesOf_0 : tvD cX8_boxesOf 0 (.aload_n 0) 1 1 := tvDl_get dlk_X8_boxesOf 0 rfl rfl
theorem dk_X8_boxesOf_1 : tvD cX8_boxesOf 1 (.iload_n 1) 1 2 := tvDl_get dlk_X8_boxesOf 1 rfl rfl
theorem dk_X8_boxesOf_2 : tvD cX8_boxesOf 2 (.invokevirtual 159) 3 5 := tvDl_get dlk_X8_boxesOf 2 rfl rfl
theorem dk_X8_boxesOf_5 : tvD cX8_boxesOf 5 (.invokestatic 54) 3 8 := tvDl_get dlk_X8_boxesOf 3 rfl rfl
theorem dk_X8_boxesOf_8 : tvD cX8_boxesOf 8 (.aload_n 0) 1 9 := tvDl_get dlk_X8_boxesOf 4 rfl rfl
theorem dk_X8_boxesOf_9 : tvD cX8_boxesOf 9 (.getfield 12) 3 12 := tvDl_get dlk_X8_boxesOf 5 rfl rfl
theorem dk_X8_boxesOf_12 : tvD cX8_boxesOf 12 (.getfield 75) 3 15 := tvDl_get dlk_X8_boxesOf 6 rfl rfl
theorem dk_X8_boxesOf_15 : tvD cX8_boxesOf 15 (.iload_n 1) 1 16 := tvDl_get dlk_X8_boxesOf 7 rfl rfl
theorem dk_X8_boxesOf_16 : tvD cX8_boxesOf 16 (.invokevirtual 168) 3 19 := tvDl_get dlk_X8_boxesOf 8 rfl rfl
theorem dk_X8_boxesOf_19 : tvD cX8_boxesOf 19 (.ireturn) 1 20 := tvDl_get dlk_X8_boxesOf 9 rfl rfl
def dl_X8_changeCode : List (Nat × Instr × Nat) := [(0, .aload_n 0, 1), (1, .aload_n 0, 1), (2, .getfield 12, 3), (5, .iload_n 1, 1), (6, .iload_n 2, 1), (7, .iload_n 3, 1), (8, .invokevirtual 107, 3), (11, .iload_n 1, 1), (12, .invokevirtual 99, 3), (15, .aload_n 0, 1), (16, .getfield 12, 3), (19, .iload_n 1, 1), (20, .iload_n 3, 1), (21, .invokevirtual 110, 3), (24, .ireturn, 1)]
theorem dlk_X8_changeCode : tvDl cX8_changeCode dl_X8_changeCode = true := by decide +kernel
theorem dk_X8_changeCode_0 : tvD cX8_changeCode 0 (.aload_n 0) 1 1 := tvDl_get dlk_X8_changeCode 0 rfl rfl
theorem dk_X8_changeCode_1 : tvD cX8_changeCode 1 (.aload_n 0) 1 2 := tvDl_get dlk_X8_changeCode 1 rfl rfl
theorem dk_X8_changeCode_2 : tvD cX8_changeCode 2 (.getfield 12) 3 5 := tvDl_get dlk_X8_changeCode 2 rfl rfl
theorem dk_X8_changeCode_5 : tvD cX8_changeCode 5 (.iload_n 1) 1 6 := tvDl_get dlk_X8_changeCode 3 rfl rfl
theorem dk_X8_changeCode_6 : tvD cX8_changeCode 6 (.iload_n 2) 1 7 := tvDl_get dlk_X8_changeCode 4 rfl rfl
theorem dk_X8_changeCode_7 : tvD cX8_changeCode 7 (.iload_n 3) 1 8 := tvDl_get dlk_X8_changeCode 5 rfl rfl
theorem dk_X8_changeCode_8 : tvD cX8_changeCode 8 (.invokevirtual 107) 3 11 := tvDl_get dlk_X8_changeCode 6 rfl rfl
theorem dk_X8_changeCode_11 : tvD cX8_changeCode 11 (.iload_n 1) 1 12 := tvDl_get dlk_X8_changeCode 7 rfl rfl
theorem dk_X8_changeCode_12 : tvD cX8_changeCode 12 (.invokevirtual 99) 3 15 := tvDl_get dlk_X8_changeCode 8 rfl rfl
theorem dk_X8_changeCode_15 : tvD cX8_changeCode 15 (.aload_n 0) 1 16 := tvDl_get dlk_X8_changeCode 9 rfl rfl
theorem dk_X8_changeCode_16 : tvD cX8_changeCode 16 (.getfield 12) 3 19 := tvDl_get dlk_X8_changeCode 10 rfl rfl
theorem dk_X8_changeCode_19 : tvD cX8_changeCode 19 (.iload_n 1) 1 20 := tvDl_get dlk_X8_changeCode 11 rfl rfl
theorem dk_X8_changeCode_20 : tvD cX8_changeCode 20 (.iload_n 3) 1 21 := tvDl_get dlk_X8_changeCode 12 rfl rfl
theorem dk_X8_changeCode_21 : tvD cX8_changeCode 21 (.invokevirtual 110) 3 24 := tvDl_get dlk_X8_changeCode 13 rfl rfl
theorem dk_X8_changeCode_24 : tvD cX8_changeCode 24 (.ireturn) 1 25 := tvDl_get dlk_X8_changeCode 14 rfl rfl
def dl_X8_close : List (Nat × Instr × Nat) := [(0, .aload_n 0, 1), (1, .getfield 12, 3), (4, .iload_n 1, 1), (5, .invokevirtual 125, 3), (8, .invokestatic 54, 3), (11, .aload_n 0, 1), (12, .getfield 25, 3), (15, .aload_n 0, 1), (16, .getfield 12, 3), (19, .invokevirtual 58, 3), (22, .aload_n 0, 1), (23, .getfield 12, 3), (26, .iload_n 1, 1), (27, .invokevirtual 128, 3), (30, .ireturn, 1)]
theorem dlk_X8_close : tvDl cX8_close dl_X8_close = true := by decide +kernel
theorem dk_X8_close_0 : tvD cX8_close 0 (.aload_n 0) 1 1 := tvDl_get dlk_X8_close 0 rfl rfl
theorem dk_X8_close_1 : tvD cX8_close 1 (.getfield 12) 3 4 := tvDl_get dlk_X8_close 1 rfl rfl
theorem dk_X8_close_4 : tvD cX8_close 4 (.iload_n 1) 1 5 := tvDl_get dlk_X8_close 2 rfl rfl
theorem dk_X8_close_5 : tvD cX8_close 5 (.invokevirtual 125) 3 8 := tvDl_get dlk_X8_close 3 rfl rfl
theorem dk_X8_close_8 : tvD cX8_close 8 (.invokestatic 54) 3 11 := tvDl_get dlk_X8_close 4 rfl rfl
theorem dk_X8_close_11 : tvD cX8_close 11 (.aload_n 0) 1 12 := tvDl_get dlk_X8_close 5 rfl rfl
theorem dk_X8_close_12 : tvD cX8_close 12 (.getfield 25) 3 15 := tvDl_get dlk_X8_close 6 rfl rfl
theorem dk_X8_close_15 : tvD cX8_close 15 (.aload_n 0) 1 16 := tvDl_get dlk_X8_close 7 rfl rfl
theorem dk_X8_close_16 : tvD cX8_close 16 (.getfield 12) 3 19 := tvDl_get dlk_X8_close 8 rfl rfl
theorem dk_X8_close_19 : tvD cX8_close 19 (.invokevirtual 58) 3 22 := tvDl_get dlk_X8_close 9 rfl rfl
theorem dk_X8_close_22 : tvD cX8_close 22 (.aload_n 0) 1 23 := tvDl_get dlk_X8_close 10 rfl rfl
theorem dk_X8_close_23 : tvD cX8_close 23 (.getfield 12) 3 26 := tvDl_get dlk_X8_close 11 rfl rfl
theorem dk_X8_close_26 : tvD cX8_close 26 (.iload_n 1) 1 27 := tvDl_get dlk_X8_close 12 rfl rfl
theorem dk_X8_close_27 : tvD cX8_close 27 (.invokevirtual 128) 3 30 := tvDl_get dlk_X8_close 13 rfl rfl
theorem dk_X8_close_30 : tvD cX8_close 30 (.ireturn) 1 31 := tvDl_get dlk_X8_close 14 rfl rfl
def dl_X8_deposit : List (Nat × Instr × Nat) := [(0, .aload_n 0, 1), (1, .getfield 12, 3), (4, .iload_n 1, 1), (5, .iload_n 2, 1), (6, .invokevirtual 113, 3), (9, .invokestatic 54, 3), (12, .aload_n 0, 1), (13, .getfield 25, 3), (16, .aload_n 0, 1), (17, .getfield 12, 3), (20, .invokevirtual 58, 3), (23, .aload_n 0, 1), (24, .getfield 12, 3), (27, .iload_n 1, 1), (28, .iload_n 2, 1), (29, .invokevirtual 116, 3), (32, .ireturn, 1)]
theorem dlk_X8_deposit : tvDl cX8_deposit dl_X8_deposit = true := by decide +kernel
theorem dk_X8_deposit_0 : tvD cX8_deposit 0 (.aload_n 0) 1 1 := tvDl_get dlk_X8_deposit 0 rfl rfl
theorem dk_X8_deposit_1 : tvD cX8_deposit 1 (.getfield 12) 3 4 := tvDl_get dlk_X8_deposit 1 rfl rfl
theorem dk_X8_deposit_4 : tvD cX8_deposit 4 (.iload_n 1) 1 5 := tvDl_get dlk_X8_deposit 2 rfl rfl
theorem dk_X8_deposit_5 : tvD cX8_deposit 5 (.iload_n 2) 1 6 := tvDl_get dlk_X8_deposit 3 rfl rfl
theorem dk_X8_deposit_6 : tvD cX8_deposit 6 (.invokevirtual 113) 3 9 := tvDl_get dlk_X8_deposit 4 rfl rfl
theorem dk_X8_deposit_9 : tvD cX8_deposit 9 (.invokestatic 54) 3 12 := tvDl_get dlk_X8_deposit 5 rfl rfl
theorem dk_X8_deposit_12 : tvD cX8_deposit 12 (.aload_n 0) 1 13 := tvDl_get dlk_X8_deposit 6 rfl rfl
theorem dk_X8_deposit_13 : tvD cX8_deposit 13 (.getfield 25) 3 16 := tvDl_get dlk_X8_deposit 7 rfl rfl
theorem dk_X8_deposit_16 : tvD cX8_deposit 16 (.aload_n 0) 1 17 := tvDl_get dlk_X8_deposit 8 rfl rfl
theorem dk_X8_deposit_17 : tvD cX8_deposit 17 (.getfield 12) 3 20 := tvDl_get dlk_X8_deposit 9 rfl rfl
theorem dk_X8_deposit_20 : tvD cX8_deposit 20 (.invokevirtual 58) 3 23 := tvDl_get dlk_X8_deposit 10 rfl rfl
theorem dk_X8_deposit_23 : tvD cX8_deposit 23 (.aload_n 0) 1 24 := tvDl_get dlk_X8_deposit 11 rfl rfl
theorem dk_X8_deposit_24 : tvD cX8_deposit 24 (.getfield 12) 3 27 := tvDl_get dlk_X8_deposit 12 rfl rfl
theorem dk_X8_deposit_27 : tvD cX8_deposit 27 (.iload_n 1) 1 28 := tvDl_get dlk_X8_deposit 13 rfl rfl
theorem dk_X8_deposit_28 : tvD cX8_deposit 28 (.iload_n 2) 1 29 := tvDl_get dlk_X8_deposit 14 rfl rfl
theorem dk_X8_deposit_29 : tvD cX8_deposit 29 (.invokevirtual 116) 3 32 := tvDl_get dlk_X8_deposit 15 rfl rfl
theorem dk_X8_deposit_32 : tvD cX8_deposit 32 (.ireturn) 1 33 := tvDl_get dlk_X8_deposit 16 rfl rfl
def dl_X8_eventKind : List (Nat × Instr × Nat) := [(0, .aload_n 0, 1), (1, .iload_n 1, 1), (2, .invokevirtual 264, 3), (5, .invokestatic 54, 3), (8, .aload_n 0, 1), (9, .getfield 12, 3), (12, .getfield 257, 3), (15, .iload_n 1, 1), (16, .invokevirtual 267, 3), (19, .ireturn, 1)]
theorem dlk_X8_eventKind : tvDl cX8_eventKind dl_X8_eventKind = true := by decide +kernel
theorem dk_X8_eventKind_0 : tvD cX8_eventKind 0 (.aload_n 0) 1 1 := tvDl_get dlk_X8_eventKind 0 rfl rfl
theorem dk_X8_eventKind_1 : tvD cX8_eventKind 1 (.iload_n 1) 1 2 := tvDl_get dlk_X8_eventKind 1 rfl rfl
theorem dk_X8_eventKind_2 : tvD cX8_eventKind 2 (.invokevirtual 264) 3 5 := tvDl_get dlk_X8_eventKind 2 rfl rfl
theorem dk_X8_eventKind_5 : tvD cX8_eventKind 5 (.invokestatic 54) 3 8 := tvDl_get dlk_X8_eventKind 3 rfl rfl
theorem dk_X8_eventKind_8 : tvD cX8_eventKind 8 (.aload_n 0) 1 9 := tvDl_get dlk_X8_eventKind 4 rfl rfl
theorem dk_X8_eventKind_9 : tvD cX8_eventKind 9 (.getfield 12) 3 12 := tvDl_get dlk_X8_eventKind 5 rfl rfl
theorem dk_X8_eventKind_12 : tvD cX8_eventKind 12 (.getfield 257) 3 15 := tvDl_get dlk_X8_eventKind 6 rfl rfl
theorem dk_X8_eventKind_15 : tvD cX8_eventKind 15 (.iload_n 1) 1 16 := tvDl_get dlk_X8_eventKind 7 rfl rfl
theorem dk_X8_eventKind_16 : tvD cX8_eventKind 16 (.invokevirtual 267) 3 19 := tvDl_get dlk_X8_eventKind 8 rfl rfl
theorem dk_X8_eventKind_19 : tvD cX8_eventKind 19 (.ireturn) 1 20 := tvDl_get dlk_X8_eventKind 9 rfl rfl
def dl_X8_eventNumber : List (Nat × Instr × Nat) := [(0, .aload_n 0, 1), (1, .iload_n 1, 1), (2, .invokevirtual 264, 3), (5, .invokestatic 54, 3), (8, .aload_n 0, 1), (9, .getfield 12, 3), (12, .getfield 257, 3), (15, .iload_n 1, 1), (16, .invokevirtual 273, 3), (19, .ireturn, 1)]
theorem dlk_X8_eventNumber : tvDl cX8_eventNumber dl_X8_eventNumber = true := by decide +kernel
theorem dk_X8_eventNumber_0 : tvD cX8_eventNumber 0 (.aload_n 0) 1 1 := tvDl_get dlk_X8_eventNumber 0 rfl rfl
theorem dk_X8_eventNumber_1 : tvD cX8_eventNumber 1 (.iload_n 1) 1 2 := tvDl_get dlk_X8_eventNumber 1 rfl rfl
theorem dk_X8_eventNumber_2 : tvD cX8_eventNumber 2 (.invokevirtual 264) 3 5 := tvDl_get dlk_X8_eventNumber 2 rfl rfl
theorem dk_X8_eventNumber_5 : tvD cX8_eventNumber 5 (.invokestatic 54) 3 8 := tvDl_get dlk_X8_eventNumber 3 rfl rfl
theorem dk_X8_eventNumber_8 : tvD cX8_eventNumber 8 (.aload_n 0) 1 9 := tvDl_get dlk_X8_eventNumber 4 rfl rfl
theorem dk_X8_eventNumber_9 : tvD cX8_eventNumber 9 (.getfield 12) 3 12 := tvDl_get dlk_X8_eventNumber 5 rfl rfl
theorem dk_X8_eventNumber_12 : tvD cX8_eventNumber 12 (.getfield 257) 3 15 := tvDl_get dlk_X8_eventNumber 6 rfl rfl
theorem dk_X8_eventNumber_15 : tvD cX8_eventNumber 15 (.iload_n 1) 1 16 := tvDl_get dlk_X8_eventNumber 7 rfl rfl
theorem dk_X8_eventNumber_16 : tvD cX8_eventNumber 16 (.invokevirtual 273) 3 19 := tvDl_get dlk_X8_eventNumber 8 rfl rfl
theorem dk_X8_eventNumber_19 : tvD cX8_eventNumber 19 (.ireturn) 1 20 := tvDl_get dlk_X8_eventNumber 9 rfl rfl
def dl_X8_eventTime : List (Nat × Instr × Nat) := [(0, .aload_n 0, 1), (1, .iload_n 1, 1), (2, .invokevirtual 264, 3), (5, .invokestatic 54, 3), (8, .aload_n 0, 1), (9, .getfield 12, 3), (12, .getfield 257, 3), (15, .iload_n 1, 1), (16, .invokevirtual 270, 3), (19, .ireturn, 1)]
theorem dlk_X8_eventTime : tvDl cX8_eventTime dl_X8_eventTime = true := by decide +kernel
theorem dk_X8_eventTime_0 : tvD cX8_eventTime 0 (.aload_n 0) 1 1 := tvDl_get dlk_X8_eventTime 0 rfl rfl
theorem dk_X8_eventTime_1 : tvD cX8_eventTime 1 (.iload_n 1) 1 2 := tvDl_get dlk_X8_eventTime 1 rfl rfl
theorem dk_X8_eventTime_2 : tvD cX8_eventTime 2 (.invokevirtual 264) 3 5 := tvDl_get dlk_X8_eventTime 2 rfl rfl
theorem dk_X8_eventTime_5 : tvD cX8_eventTime 5 (.invokestatic 54) 3 8 := tvDl_get dlk_X8_eventTime 3 rfl rfl
theorem dk_X8_eventTime_8 : tvD cX8_eventTime 8 (.aload_n 0) 1 9 := tvDl_get dlk_X8_eventTime 4 rfl rfl
theorem dk_X8_eventTime_9 : tvD cX8_eventTime 9 (.getfield 12) 3 12 := tvDl_get dlk_X8_eventTime 5 rfl rfl
theorem dk_X8_eventTime_12 : tvD cX8_eventTime 12 (.getfield 257) 3 15 := tvDl_get dlk_X8_eventTime 6 rfl rfl
theorem dk_X8_eventTime_15 : tvD cX8_eventTime 15 (.iload_n 1) 1 16 := tvDl_get dlk_X8_eventTime 7 rfl rfl
theorem dk_X8_eventTime_16 : tvD cX8_eventTime 16 (.invokevirtual 270) 3 19 := tvDl_get dlk_X8_eventTime 8 rfl rfl
theorem dk_X8_eventTime_19 : tvD cX8_eventTime 19 (.ireturn) 1 20 := tvDl_get dlk_X8_eventTime 9 rfl rfl
def dl_X8_events : List (Nat × Instr × Nat) := [(0, .aload_n 0, 1), (1, .getfield 12, 3), (4, .getfield 257, 3), (7, .getfield 261, 3), (10, .ireturn, 1)]
theorem dlk_X8_events : tvDl cX8_events dl_X8_events = true := by decide +kernel
theorem dk_X8_events_0 : tvD cX8_events 0 (.aload_n 0) 1 1 := tvDl_get dlk_X8_events 0 rfl rfl
theorem dk_X8_events_1 : tvD cX8_events 1 (.getfield 12) 3 4 := tvDl_get dlk_X8_events 1 rfl rfl
theorem dk_X8_events_4 : tvD cX8_events 4 (.getfield 257) 3 7 := tvDl_get dlk_X8_events 2 rfl rfl
theorem dk_X8_events_7 : tvD cX8_events 7 (.getfield 261) 3 10 := tvDl_get dlk_X8_events 3 rfl rfl
theorem dk_X8_events_10 : tvD cX8_events 10 (.ireturn) 1 11 := tvDl_get dlk_X8_events 4 rfl rfl
def dl_X8_firstHolder : List (Nat × Instr × Nat) := [(0, .aload_n 0, 1), (1, .bipush 104, 2), (3, .iload_n 1, 1), (4, .invokevirtual 193, 3), (7, .invokestatic 54, 3), (10, .aload_n 0, 1), (11, .getfield 12, 3), (14, .getfield 75, 3), (17, .iload_n 1, 1), (18, .invokevirtual 197, 3), (21, .ireturn, 1)]
theorem dlk_X8_firstHolder : tvDl cX8_firstHolder dl_X8_firstHolder = true := by decide +kernel
theorem dk_X8_firstHolder_0 : tvD cX8_firstHolder 0 (.aload_n 0) 1 1 := tvDl_get dlk_X8_firstHolder 0 rfl rfl
theorem dk_X8_firstHolder_1 : tvD cX8_firstHolder 1 (.bipush 104) 2 3 := tvDl_get dlk_X8_firstHolder 1 rfl rfl
theorem dk_X8_firstHolder_3 : tvD cX8_firstHolder 3 (.iload_n 1) 1 4 := tvDl_get dlk_X8_firstHolder 2 rfl rfl
theorem dk_X8_firstHolder_4 : tvD cX8_firstHolder 4 (.invokevirtual 193) 3 7 := tvDl_get dlk_X8_firstHolder 3 rfl rfl
theorem dk_X8_firstHolder_7 : tvD cX8_firstHolder 7 (.invokestatic 54) 3 10 := tvDl_get dlk_X8_firstHolder 4 rfl rfl
theorem dk_X8_firstHolder_10 : tvD cX8_firstHolder 10 (.aload_n 0) 1 11 := tvDl_get dlk_X8_firstHolder 5 rfl rfl
theorem dk_X8_firstHolder_11 : tvD cX8_firstHolder 11 (.getfield 12) 3 14 := tvDl_get dlk_X8_firstHolder 6 rfl rfl
theorem dk_X8_firstHolder_14 : tvD cX8_firstHolder 14 (.getfield 75) 3 17 := tvDl_get dlk_X8_firstHolder 7 rfl rfl
theorem dk_X8_firstHolder_17 : tvD cX8_firstHolder 17 (.iload_n 1) 1 18 := tvDl_get dlk_X8_firstHolder 8 rfl rfl
theorem dk_X8_firstHolder_18 : tvD cX8_firstHolder 18 (.invokevirtual 197) 3 21 := tvDl_get dlk_X8_firstHolder 9 rfl rfl
theorem dk_X8_firstHolder_21 : tvD cX8_firstHolder 21 (.ireturn) 1 22 := tvDl_get dlk_X8_firstHolder 10 rfl rfl
def dl_X8_hearCode : List (Nat × Instr × Nat) := [(0, .iload_n 1, 1), (1, .ifCond .eq 12, 3), (4, .iload_n 1, 1), (5, .iconst 4, 1), (6, .if_icmp .eq 7, 3), (9, .iload_n 1, 1), (10, .invokestatic 54, 3), (13, .aload_n 0, 1), (14, .getfield 25, 3), (17, .aload_n 0, 1), (18, .getfield 12, 3), (21, .invokevirtual 58, 3), (24, .iload_n 1, 1), (25, .iconst 4, 1), (26, .if_icmp .ne 15, 3), (29, .aload_n 0, 1), (30, .getfield 12, 3), (33, .iload_n 2, 1), (34, .invokevirtual 383, 3), (37, .iload_n 1, 1), (38, .invokestatic 54, 3), (41, .return_, 1)]
theorem dlk_X8_hearCode : tvDl cX8_hearCode dl_X8_hearCode = true := by decide +kernel
theorem dk_X8_hearCode_0 : tvD cX8_hearCode 0 (.iload_n 1) 1 1 := tvDl_get dlk_X8_hearCode 0 rfl rfl
theorem dk_X8_hearCode_1 : tvJ cX8_hearCode 1 (.ifCond .eq) 13 4 := tvJl_get dlk_X8_hearCode 1 rfl (by decide) rfl
theorem dk_X8_hearCode_4 : tvD cX8_hearCode 4 (.iload_n 1) 1 5 := tvDl_get dlk_X8_hearCode 2 rfl rfl
theorem dk_X8_hearCode_5 : tvD cX8_hearCode 5 (.iconst 4) 1 6 := tvDl_get dlk_X8_hearCode 3 rfl rfl
theorem dk_X8_hearCode_6 : tvJ cX8_hearCode 6 (.if_icmp .eq) 13 9 := tvJl_get dlk_X8_hearCode 4 rfl (by decide) rfl
theorem dk_X8_hearCode_9 : tvD cX8_hearCode 9 (.iload_n 1) 1 10 := tvDl_get dlk_X8_hearCode 5 rfl rfl
theorem dk_X8_hearCode_10 : tvD cX8_hearCode 10 (.invokestatic 54) 3 13 := tvDl_get dlk_X8_hearCode 6 rfl rfl
theorem dk_X8_hearCode_13 : tvD cX8_hearCode 13 (.aload_n 0) 1 14 := tvDl_get dlk_X8_hearCode 7 rfl rfl
theorem dk_X8_hearCode_14 : tvD cX8_hearCode 14 (.getfield 25) 3 17 := tvDl_get dlk_X8_hearCode 8 rfl rfl
theorem dk_X8_hearCode_17 : tvD cX8_hearCode 17 (.aload_n 0) 1 18 := tvDl_get dlk_X8_hearCode 9 rfl rfl
theorem dk_X8_hearCode_18 : tvD cX8_hearCode 18 (.getfield 12) 3 21 := tvDl_get dlk_X8_hearCode 10 rfl rfl
theorem dk_X8_hearCode_21 : tvD cX8_hearCode 21 (.invokevirtual 58) 3 24 := tvDl_get dlk_X8_hearCode 11 rfl rfl
theorem dk_X8_hearCode_24 : tvD cX8_hearCode 24 (.iload_n 1) 1 25 := tvDl_get dlk_X8_hearCode 12 rfl rfl
theorem dk_X8_hearCode_25 : tvD cX8_hearCode 25 (.iconst 4) 1 26 := tvDl_get dlk_X8_hearCode 13 rfl rfl
theorem dk_X8_hearCode_26 : tvJ cX8_hearCode 26 (.if_icmp .ne) 41 29 := tvJl_get dlk_X8_hearCode 14 rfl (by decide) rfl
theorem dk_X8_hearCode_29 : tvD cX8_hearCode 29 (.aload_n 0) 1 30 := tvDl_get dlk_X8_hearCode 15 rfl rfl
theorem dk_X8_hearCode_30 : tvD cX8_hearCode 30 (.getfield 12) 3 33 := tvDl_get dlk_X8_hearCode 16 rfl rfl
theorem dk_X8_hearCode_33 : tvD cX8_hearCode 33 (.iload_n 2) 1 34 := tvDl_get dlk_X8_hearCode 17 rfl rfl
theorem dk_X8_hearCode_34 : tvD cX8_hearCode 34 (.invokevirtual 383) 3 37 := tvDl_get dlk_X8_hearCode 18 rfl rfl
theorem dk_X8_hearCode_37 : tvD cX8_hearCode 37 (.iload_n 1) 1 38 := tvDl_get dlk_X8_hearCode 19 rfl rfl
theorem dk_X8_hearCode_38 : tvD cX8_hearCode 38 (.invokestatic 54) 3 41 := tvDl_get dlk_X8_hearCode 20 rfl rfl
theorem dk_X8_hearCode_41 : tvD cX8_hearCode 41 (.return_) 1 42 := tvDl_get dlk_X8_hearCode 21 rfl rfl
def dl_X8_holders : List (Nat × Instr × Nat) := [(0, .aload_n 0, 1), (1, .getfield 12, 3), (4, .getfield 62, 3), (7, .getfield 156, 3), (10, .ireturn, 1)]
theorem dlk_X8_holders : tvDl cX8_holders dl_X8_holders = true := by decide +kernel
theorem dk_X8_holders_0 : tvD cX8_holders 0 (.aload_n 0) 1 1 := tvDl_get dlk_X8_holders 0 rfl rfl
theorem dk_X8_holders_1 : tvD cX8_holders 1 (.getfield 12) 3 4 := tvDl_get dlk_X8_holders 1 rfl rfl
theorem dk_X8_holders_4 : tvD cX8_holders 4 (.getfield 62) 3 7 := tvDl_get dlk_X8_holders 2 rfl rfl
theorem dk_X8_holders_7 : tvD cX8_holders 7 (.getfield 156) 3 10 := tvDl_get dlk_X8_holders 3 rfl rfl
theorem dk_X8_holders_10 : tvD cX8_holders 10 (.ireturn) 1 11 := tvDl_get dlk_X8_holders 4 rfl rfl
def dl_X8_isLowTide : List (Nat × Instr × Nat) := [(0, .aload_n 0, 1), (1, .getfield 12, 3), (4, .invokevirtual 140, 3), (7, .ireturn, 1)]
theorem dlk_X8_isLowTide : tvDl cX8_isLowTide dl_X8_isLowTide = true := by decide +kernel
theorem dk_X8_isLowTide_0 : tvD cX8_isLowTide 0 (.aload_n 0) 1 1 := tvDl_get dlk_X8_isLowTide 0 rfl rfl
theorem dk_X8_isLowTide_1 : tvD cX8_isLowTide 1 (.getfield 12) 3 4 := tvDl_get dlk_X8_isLowTide 1 rfl rfl
theorem dk_X8_isLowTide_4 : tvD cX8_isLowTide 4 (.invokevirtual 140) 3 7 := tvDl_get dlk_X8_isLowTide 2 rfl rfl
theorem dk_X8_isLowTide_7 : tvD cX8_isLowTide 7 (.ireturn) 1 8 := tvDl_get dlk_X8_isLowTide 3 rfl rfl
def dl_X8_lowMinutes : List (Nat × Instr × Nat) := [(0, .aload_n 0, 1), (1, .iload_n 1, 1), (2, .invokevirtual 144, 3), (5, .invokestatic 54, 3), (8, .aload_n 0, 1), (9, .getfield 12, 3), (12, .getfield 87, 3), (15, .aload_n 0, 1), (16, .getfield 12, 3), (19, .getfield 137, 3), (22, .iload_n 1, 1), (23, .invokevirtual 147, 3), (26, .ireturn, 1)]
theorem dlk_X8_lowMinutes : tvDl cX8_lowMinutes dl_X8_lowMinutes = true := by decide +kernel
theorem dk_X8_lowMinutes_0 : tvD cX8_lowMinutes 0 (.aload_n 0) 1 1 := tvDl_get dlk_X8_lowMinutes 0 rfl rfl
theorem dk_X8_lowMinutes_1 : tvD cX8_lowMinutes 1 (.iload_n 1) 1 2 := tvDl_get dlk_X8_lowMinutes 1 rfl rfl
theorem dk_X8_lowMinutes_2 : tvD cX8_lowMinutes 2 (.invokevirtual 144) 3 5 := tvDl_get dlk_X8_lowMinutes 2 rfl rfl
theorem dk_X8_lowMinutes_5 : tvD cX8_lowMinutes 5 (.invokestatic 54) 3 8 := tvDl_get dlk_X8_lowMinutes 3 rfl rfl
theorem dk_X8_lowMinutes_8 : tvD cX8_lowMinutes 8 (.aload_n 0) 1 9 := tvDl_get dlk_X8_lowMinutes 4 rfl rfl
theorem dk_X8_lowMinutes_9 : tvD cX8_lowMinutes 9 (.getfield 12) 3 12 := tvDl_get dlk_X8_lowMinutes 5 rfl rfl
theorem dk_X8_lowMinutes_12 : tvD cX8_lowMinutes 12 (.getfield 87) 3 15 := tvDl_get dlk_X8_lowMinutes 6 rfl rfl
theorem dk_X8_lowMinutes_15 : tvD cX8_lowMinutes 15 (.aload_n 0) 1 16 := tvDl_get dlk_X8_lowMinutes 7 rfl rfl
theorem dk_X8_lowMinutes_16 : tvD cX8_lowMinutes 16 (.getfield 12) 3 19 := tvDl_get dlk_X8_lowMinutes 8 rfl rfl
theorem dk_X8_lowMinutes_19 : tvD cX8_lowMinutes 19 (.getfield 137) 3 22 := tvDl_get dlk_X8_lowMinutes 9 rfl rfl
theorem dk_X8_lowMinutes_22 : tvD cX8_lowMinutes 22 (.iload_n 1) 1 23 := tvDl_get dlk_X8_lowMinutes 10 rfl rfl
theorem dk_X8_lowMinutes_23 : tvD cX8_lowMinutes 23 (.invokevirtual 147) 3 26 := tvDl_get dlk_X8_lowMinutes 11 rfl rfl
theorem dk_X8_lowMinutes_26 : tvD cX8_lowMinutes 26 (.ireturn) 1 27 := tvDl_get dlk_X8_lowMinutes 12 rfl rfl
def dl_X8_lowMinutesByCounting : List (Nat × Instr × Nat) := [(0, .aload_n 0, 1), (1, .iload_n 1, 1), (2, .invokevirtual 144, 3), (5, .invokestatic 54, 3), (8, .aload_n 0, 1), (9, .getfield 12, 3), (12, .getfield 87, 3), (15, .aload_n 0, 1), (16, .getfield 12, 3), (19, .getfield 137, 3), (22, .iload_n 1, 1), (23, .invokevirtual 150, 3), (26, .ireturn, 1)]
theorem dlk_X8_lowMinutesByCounting : tvDl cX8_lowMinutesByCounting dl_X8_lowMinutesByCounting = true := by decide +kernel
theorem dk_X8_lowMinutesByCounting_0 : tvD cX8_lowMinutesByCounting 0 (.aload_n 0) 1 1 := tvDl_get dlk_X8_lowMinutesByCounting 0 rfl rfl
theorem dk_X8_lowMinutesByCounting_1 : tvD cX8_lowMinutesByCounting 1 (.iload_n 1) 1 2 := tvDl_get dlk_X8_lowMinutesByCounting 1 rfl rfl
theorem dk_X8_lowMinutesByCounting_2 : tvD cX8_lowMinutesByCounting 2 (.invokevirtual 144) 3 5 := tvDl_get dlk_X8_lowMinutesByCounting 2 rfl rfl
theorem dk_X8_lowMinutesByCounting_5 : tvD cX8_lowMinutesByCounting 5 (.invokestatic 54) 3 8 := tvDl_get dlk_X8_lowMinutesByCounting 3 rfl rfl
theorem dk_X8_lowMinutesByCounting_8 : tvD cX8_lowMinutesByCounting 8 (.aload_n 0) 1 9 := tvDl_get dlk_X8_lowMinutesByCounting 4 rfl rfl
theorem dk_X8_lowMinutesByCounting_9 : tvD cX8_lowMinutesByCounting 9 (.getfield 12) 3 12 := tvDl_get dlk_X8_lowMinutesByCounting 5 rfl rfl
theorem dk_X8_lowMinutesByCounting_12 : tvD cX8_lowMinutesByCounting 12 (.getfield 87) 3 15 := tvDl_get dlk_X8_lowMinutesByCounting 6 rfl rfl
theorem dk_X8_lowMinutesByCounting_15 : tvD cX8_lowMinutesByCounting 15 (.aload_n 0) 1 16 := tvDl_get dlk_X8_lowMinutesByCounting 7 rfl rfl
theorem dk_X8_lowMinutesByCounting_16 : tvD cX8_lowMinutesByCounting 16 (.getfield 12) 3 19 := tvDl_get dlk_X8_lowMinutesByCounting 8 rfl rfl
theorem dk_X8_lowMinutesByCounting_19 : tvD cX8_lowMinutesByCounting 19 (.getfield 137) 3 22 := tvDl_get dlk_X8_lowMinutesByCounting 9 rfl rfl
theorem dk_X8_lowMinutesByCounting_22 : tvD cX8_lowMinutesByCounting 22 (.iload_n 1) 1 23 := tvDl_get dlk_X8_lowMinutesByCounting 10 rfl rfl
theorem dk_X8_lowMinutesByCounting_23 : tvD cX8_lowMinutesByCounting 23 (.invokevirtual 150) 3 26 := tvDl_get dlk_X8_lowMinutesByCounting 11 rfl rfl
theorem dk_X8_lowMinutesByCounting_26 : tvD cX8_lowMinutesByCounting 26 (.ireturn) 1 27 := tvDl_get dlk_X8_lowMinutesByCounting 12 rfl rfl
def dl_X8_minutesLocked : List (Nat × Instr × Nat) := [(0, .aload_n 0, 1), (1, .iload_n 1, 1), (2, .invokevirtual 159, 3), (5, .invokestatic 54, 3), (8, .aload_n 0, 1), (9, .getfield 12, 3), (12, .getfield 62, 3), (15, .iload_n 1, 1), (16, .aload_n 0, 1), (17, .getfield 12, 3), (20, .getfield 137, 3), (23, .invokevirtual 165, 3), (26, .ireturn, 1)]
theorem dlk_X8_minutesLocked : tvDl cX8_minutesLocked dl_X8_minutesLocked = true := by decide +kernel
theorem dk_X8_minutesLocked_0 : tvD cX8_minutesLocked 0 (.aload_n 0) 1 1 := tvDl_get dlk_X8_minutesLocked 0 rfl rfl
theorem dk_X8_minutesLocked_1 : tvD cX8_minutesLocked 1 (.iload_n 1) 1 2 := tvDl_get dlk_X8_minutesLocked 1 rfl rfl
theorem dk_X8_minutesLocked_2 : tvD cX8_minutesLocked 2 (.invokevirtual 159) 3 5 := tvDl_get dlk_X8_minutesLocked 2 rfl rfl
theorem dk_X8_minutesLocked_5 : tvD cX8_minutesLocked 5 (.invokestatic 54) 3 8 := tvDl_get dlk_X8_minutesLocked 3 rfl rfl
theorem dk_X8_minutesLocked_8 : tvD cX8_minutesLocked 8 (.aload_n 0) 1 9 := tvDl_get dlk_X8_minutesLocked 4 rfl rfl
theorem dk_X8_minutesLocked_9 : tvD cX8_minutesLocked 9 (.getfield 12) 3 12 := tvDl_get dlk_X8_minutesLocked 5 rfl rfl
theorem dk_X8_minutesLocked_12 : tvD cX8_minutesLocked 12 (.getfield 62) 3 15 := tvDl_get dlk_X8_minutesLocked 6 rfl rfl
theorem dk_X8_minutesLocked_15 : tvD cX8_minutesLocked 15 (.iload_n 1) 1 16 := tvDl_get dlk_X8_minutesLocked 7 rfl rfl
theorem dk_X8_minutesLocked_16 : tvD cX8_minutesLocked 16 (.aload_n 0) 1 17 := tvDl_get dlk_X8_minutesLocked 8 rfl rfl
theorem dk_X8_minutesLocked_17 : tvD cX8_minutesLocked 17 (.getfield 12) 3 20 := tvDl_get dlk_X8_minutesLocked 9 rfl rfl
theorem dk_X8_minutesLocked_20 : tvD cX8_minutesLocked 20 (.getfield 137) 3 23 := tvDl_get dlk_X8_minutesLocked 10 rfl rfl
theorem dk_X8_minutesLocked_23 : tvD cX8_minutesLocked 23 (.invokevirtual 165) 3 26 := tvDl_get dlk_X8_minutesLocked 11 rfl rfl
theorem dk_X8_minutesLocked_26 : tvD cX8_minutesLocked 26 (.ireturn) 1 27 := tvDl_get dlk_X8_minutesLocked 12 rfl rfl
def dl_X8_minutesUntilOpen : List (Nat × Instr × Nat) := [(0, .aload_n 0, 1), (1, .bipush 112, 2), (3, .iload_n 1, 1), (4, .invokevirtual 193, 3), (7, .invokestatic 54, 3), (10, .aload_n 0, 1), (11, .getfield 12, 3), (14, .iload_n 1, 1), (15, .invokevirtual 203, 3), (18, .ireturn, 1)]
theorem dlk_X8_minutesUntilOpen : tvDl cX8_minutesUntilOpen dl_X8_minutesUntilOpen = true := by decide +kernel
theorem dk_X8_minutesUntilOpen_0 : tvD cX8_minutesUntilOpen 0 (.aload_n 0) 1 1 := tvDl_get dlk_X8_minutesUntilOpen 0 rfl rfl
theorem dk_X8_minutesUntilOpen_1 : tvD cX8_minutesUntilOpen 1 (.bipush 112) 2 3 := tvDl_get dlk_X8_minutesUntilOpen 1 rfl rfl
theorem dk_X8_minutesUntilOpen_3 : tvD cX8_minutesUntilOpen 3 (.iload_n 1) 1 4 := tvDl_get dlk_X8_minutesUntilOpen 2 rfl rfl
theorem dk_X8_minutesUntilOpen_4 : tvD cX8_minutesUntilOpen 4 (.invokevirtual 193) 3 7 := tvDl_get dlk_X8_minutesUntilOpen 3 rfl rfl
theorem dk_X8_minutesUntilOpen_7 : tvD cX8_minutesUntilOpen 7 (.invokestatic 54) 3 10 := tvDl_get dlk_X8_minutesUntilOpen 4 rfl rfl
theorem dk_X8_minutesUntilOpen_10 : tvD cX8_minutesUntilOpen 10 (.aload_n 0) 1 11 := tvDl_get dlk_X8_minutesUntilOpen 5 rfl rfl
theorem dk_X8_minutesUntilOpen_11 : tvD cX8_minutesUntilOpen 11 (.getfield 12) 3 14 := tvDl_get dlk_X8_minutesUntilOpen 6 rfl rfl
theorem dk_X8_minutesUntilOpen_14 : tvD cX8_minutesUntilOpen 14 (.iload_n 1) 1 15 := tvDl_get dlk_X8_minutesUntilOpen 7 rfl rfl
theorem dk_X8_minutesUntilOpen_15 : tvD cX8_minutesUntilOpen 15 (.invokevirtual 203) 3 18 := tvDl_get dlk_X8_minutesUntilOpen 8 rfl rfl
theorem dk_X8_minutesUntilOpen_18 : tvD cX8_minutesUntilOpen 18 (.ireturn) 1 19 := tvDl_get dlk_X8_minutesUntilOpen 9 rfl rfl
def dl_X8_minutesUntilOpenBySimulation : List (Nat × Instr × Nat) := [(0, .aload_n 0, 1), (1, .bipush 112, 2), (3, .iload_n 1, 1), (4, .invokevirtual 193, 3), (7, .invokestatic 54, 3), (10, .aload_n 0, 1), (11, .getfield 16, 3), (14, .aload_n 0, 1), (15, .getfield 12, 3), (18, .invokevirtual 206, 3), (21, .aload_n 0, 1), (22, .getfield 16, 3), (25, .iload_n 1, 1), (26, .invokevirtual 209, 3), (29, .ireturn, 1)]
theorem dlk_X8_minutesUntilOpenBySimulation : tvDl cX8_minutesUntilOpenBySimulation dl_X8_minutesUntilOpenBySimulation = true := by decide +kernel
theorem dk_X8_minutesUntilOpenBySimulation_0 : tvD cX8_minutesUntilOpenBySimulation 0 (.aload_n 0) 1 1 := tvDl_get dlk_X8_minutesUntilOpenBySimulation 0 rfl rfl
theorem dk_X8_minutesUntilOpenBySimulation_1 : tvD cX8_minutesUntilOpenBySimulation 1 (.bipush 112) 2 3 := tvDl_get dlk_X8_minutesUntilOpenBySimulation 1 rfl rfl
theorem dk_X8_minutesUntilOpenBySimulation_3 : tvD cX8_minutesUntilOpenBySimulation 3 (.iload_n 1) 1 4 := tvDl_get dlk_X8_minutesUntilOpenBySimulation 2 rfl rfl
theorem dk_X8_minutesUntilOpenBySimulation_4 : tvD cX8_minutesUntilOpenBySimulation 4 (.invokevirtual 193) 3 7 := tvDl_get dlk_X8_minutesUntilOpenBySimulation 3 rfl rfl
theorem dk_X8_minutesUntilOpenBySimulation_7 : tvD cX8_minutesUntilOpenBySimulation 7 (.invokestatic 54) 3 10 := tvDl_get dlk_X8_minutesUntilOpenBySimulation 4 rfl rfl
theorem dk_X8_minutesUntilOpenBySimulation_10 : tvD cX8_minutesUntilOpenBySimulation 10 (.aload_n 0) 1 11 := tvDl_get dlk_X8_minutesUntilOpenBySimulation 5 rfl rfl
theorem dk_X8_minutesUntilOpenBySimulation_11 : tvD cX8_minutesUntilOpenBySimulation 11 (.getfield 16) 3 14 := tvDl_get dlk_X8_minutesUntilOpenBySimulation 6 rfl rfl
theorem dk_X8_minutesUntilOpenBySimulation_14 : tvD cX8_minutesUntilOpenBySimulation 14 (.aload_n 0) 1 15 := tvDl_get dlk_X8_minutesUntilOpenBySimulation 7 rfl rfl
theorem dk_X8_minutesUntilOpenBySimulation_15 : tvD cX8_minutesUntilOpenBySimulation 15 (.getfield 12) 3 18 := tvDl_get dlk_X8_minutesUntilOpenBySimulation 8 rfl rfl
theorem dk_X8_minutesUntilOpenBySimulation_18 : tvD cX8_minutesUntilOpenBySimulation 18 (.invokevirtual 206) 3 21 := tvDl_get dlk_X8_minutesUntilOpenBySimulation 9 rfl rfl
theorem dk_X8_minutesUntilOpenBySimulation_21 : tvD cX8_minutesUntilOpenBySimulation 21 (.aload_n 0) 1 22 := tvDl_get dlk_X8_minutesUntilOpenBySimulation 10 rfl rfl
theorem dk_X8_minutesUntilOpenBySimulation_22 : tvD cX8_minutesUntilOpenBySimulation 22 (.getfield 16) 3 25 := tvDl_get dlk_X8_minutesUntilOpenBySimulation 11 rfl rfl
theorem dk_X8_minutesUntilOpenBySimulation_25 : tvD cX8_minutesUntilOpenBySimulation 25 (.iload_n 1) 1 26 := tvDl_get dlk_X8_minutesUntilOpenBySimulation 12 rfl rfl
theorem dk_X8_minutesUntilOpenBySimulation_26 : tvD cX8_minutesUntilOpenBySimulation 26 (.invokevirtual 209) 3 29 := tvDl_get dlk_X8_minutesUntilOpenBySimulation 13 rfl rfl
theorem dk_X8_minutesUntilOpenBySimulation_29 : tvD cX8_minutesUntilOpenBySimulation 29 (.ireturn) 1 30 := tvDl_get dlk_X8_minutesUntilOpenBySimulation 14 rfl rfl
def dl_X8_otherHolder : List (Nat × Instr × Nat) := [(0, .aload_n 0, 1), (1, .iload_n 1, 1), (2, .invokevirtual 172, 3), (5, .invokestatic 54, 3), (8, .aload_n 0, 1), (9, .getfield 12, 3), (12, .getfield 75, 3), (15, .iload_n 1, 1), (16, .iload_n 2, 1), (17, .invokevirtual 175, 3), (20, .ifCond .ne 13, 3), (23, .new 179, 3), (26, .dup, 1), (27, .ldc 181, 2), (29, .invokespecial 183, 3), (32, .athrow, 1), (33, .aload_n 0, 1), (34, .getfield 12, 3), (37, .getfield 75, 3), (40, .iload_n 1, 1), (41, .iload_n 2, 1), (42, .invokevirtual 186, 3), (45, .ireturn, 1)]
theorem dlk_X8_otherHolder : tvDl cX8_otherHolder dl_X8_otherHolder = true := by decide +kernel
theorem dk_X8_otherHolder_0 : tvD cX8_otherHolder 0 (.aload_n 0) 1 1 := tvDl_get dlk_X8_otherHolder 0 rfl rfl
theorem dk_X8_otherHolder_1 : tvD cX8_otherHolder 1 (.iload_n 1) 1 2 := tvDl_get dlk_X8_otherHolder 1 rfl rfl
theorem dk_X8_otherHolder_2 : tvD cX8_otherHolder 2 (.invokevirtual 172) 3 5 := tvDl_get dlk_X8_otherHolder 2 rfl rfl
theorem dk_X8_otherHolder_5 : tvD cX8_otherHolder 5 (.invokestatic 54) 3 8 := tvDl_get dlk_X8_otherHolder 3 rfl rfl
theorem dk_X8_otherHolder_8 : tvD cX8_otherHolder 8 (.aload_n 0) 1 9 := tvDl_get dlk_X8_otherHolder 4 rfl rfl
theorem dk_X8_otherHolder_9 : tvD cX8_otherHolder 9 (.getfield 12) 3 12 := tvDl_get dlk_X8_otherHolder 5 rfl rfl
theorem dk_X8_otherHolder_12 : tvD cX8_otherHolder 12 (.getfield 75) 3 15 := tvDl_get dlk_X8_otherHolder 6 rfl rfl
theorem dk_X8_otherHolder_15 : tvD cX8_otherHolder 15 (.iload_n 1) 1 16 := tvDl_get dlk_X8_otherHolder 7 rfl rfl
theorem dk_X8_otherHolder_16 : tvD cX8_otherHolder 16 (.iload_n 2) 1 17 := tvDl_get dlk_X8_otherHolder 8 rfl rfl
theorem dk_X8_otherHolder_17 : tvD cX8_otherHolder 17 (.invokevirtual 175) 3 20 := tvDl_get dlk_X8_otherHolder 9 rfl rfl
theorem dk_X8_otherHolder_20 : tvJ cX8_otherHolder 20 (.ifCond .ne) 33 23 := tvJl_get dlk_X8_otherHolder 10 rfl (by decide) rfl
theorem dk_X8_otherHolder_23 : tvD cX8_otherHolder 23 (.new 179) 3 26 := tvDl_get dlk_X8_otherHolder 11 rfl rfl
theorem dk_X8_otherHolder_26 : tvD cX8_otherHolder 26 (.dup) 1 27 := tvDl_get dlk_X8_otherHolder 12 rfl rfl
theorem dk_X8_otherHolder_27 : tvD cX8_otherHolder 27 (.ldc 181) 2 29 := tvDl_get dlk_X8_otherHolder 13 rfl rfl
theorem dk_X8_otherHolder_29 : tvD cX8_otherHolder 29 (.invokespecial 183) 3 32 := tvDl_get dlk_X8_otherHolder 14 rfl rfl
theorem dk_X8_otherHolder_32 : tvD cX8_otherHolder 32 (.athrow) 1 33 := tvDl_get dlk_X8_otherHolder 15 rfl rfl
theorem dk_X8_otherHolder_33 : tvD cX8_otherHolder 33 (.aload_n 0) 1 34 := tvDl_get dlk_X8_otherHolder 16 rfl rfl
theorem dk_X8_otherHolder_34 : tvD cX8_otherHolder 34 (.getfield 12) 3 37 := tvDl_get dlk_X8_otherHolder 17 rfl rfl
theorem dk_X8_otherHolder_37 : tvD cX8_otherHolder 37 (.getfield 75) 3 40 := tvDl_get dlk_X8_otherHolder 18 rfl rfl
theorem dk_X8_otherHolder_40 : tvD cX8_otherHolder 40 (.iload_n 1) 1 41 := tvDl_get dlk_X8_otherHolder 19 rfl rfl
theorem dk_X8_otherHolder_41 : tvD cX8_otherHolder 41 (.iload_n 2) 1 42 := tvDl_get dlk_X8_otherHolder 20 rfl rfl
theorem dk_X8_otherHolder_42 : tvD cX8_otherHolder 42 (.invokevirtual 186) 3 45 := tvDl_get dlk_X8_otherHolder 21 rfl rfl
theorem dk_X8_otherHolder_45 : tvD cX8_otherHolder 45 (.ireturn) 1 46 := tvDl_get dlk_X8_otherHolder 22 rfl rfl
def dl_X8_pass : List (Nat × Instr × Nat) := [(0, .aload_n 0, 1), (1, .getfield 12, 3), (4, .iload_n 1, 1), (5, .invokevirtual 131, 3), (8, .invokestatic 54, 3), (11, .aload_n 0, 1), (12, .getfield 25, 3), (15, .aload_n 0, 1), (16, .getfield 12, 3), (19, .invokevirtual 58, 3), (22, .aload_n 0, 1), (23, .getfield 12, 3), (26, .iload_n 1, 1), (27, .invokevirtual 134, 3), (30, .ireturn, 1)]
theorem dlk_X8_pass : tvDl cX8_pass dl_X8_pass = true := by decide +kernel
theorem dk_X8_pass_0 : tvD cX8_pass 0 (.aload_n 0) 1 1 := tvDl_get dlk_X8_pass 0 rfl rfl
theorem dk_X8_pass_1 : tvD cX8_pass 1 (.getfield 12) 3 4 := tvDl_get dlk_X8_pass 1 rfl rfl
theorem dk_X8_pass_4 : tvD cX8_pass 4 (.iload_n 1) 1 5 := tvDl_get dlk_X8_pass 2 rfl rfl
theorem dk_X8_pass_5 : tvD cX8_pass 5 (.invokevirtual 131) 3 8 := tvDl_get dlk_X8_pass 3 rfl rfl
theorem dk_X8_pass_8 : tvD cX8_pass 8 (.invokestatic 54) 3 11 := tvDl_get dlk_X8_pass 4 rfl rfl
theorem dk_X8_pass_11 : tvD cX8_pass 11 (.aload_n 0) 1 12 := tvDl_get dlk_X8_pass 5 rfl rfl
theorem dk_X8_pass_12 : tvD cX8_pass 12 (.getfield 25) 3 15 := tvDl_get dlk_X8_pass 6 rfl rfl
theorem dk_X8_pass_15 : tvD cX8_pass 15 (.aload_n 0) 1 16 := tvDl_get dlk_X8_pass 7 rfl rfl
theorem dk_X8_pass_16 : tvD cX8_pass 16 (.getfield 12) 3 19 := tvDl_get dlk_X8_pass 8 rfl rfl
theorem dk_X8_pass_19 : tvD cX8_pass 19 (.invokevirtual 58) 3 22 := tvDl_get dlk_X8_pass 9 rfl rfl
theorem dk_X8_pass_22 : tvD cX8_pass 22 (.aload_n 0) 1 23 := tvDl_get dlk_X8_pass 10 rfl rfl
theorem dk_X8_pass_23 : tvD cX8_pass 23 (.getfield 12) 3 26 := tvDl_get dlk_X8_pass 11 rfl rfl
theorem dk_X8_pass_26 : tvD cX8_pass 26 (.iload_n 1) 1 27 := tvDl_get dlk_X8_pass 12 rfl rfl
theorem dk_X8_pass_27 : tvD cX8_pass 27 (.invokevirtual 134) 3 30 := tvDl_get dlk_X8_pass 13 rfl rfl
theorem dk_X8_pass_30 : tvD cX8_pass 30 (.ireturn) 1 31 := tvDl_get dlk_X8_pass 14 rfl rfl
def dl_X8_pearl : List (Nat × Instr × Nat) := [(0, .aload_n 0, 1), (1, .iload_n 1, 1), (2, .invokevirtual 172, 3), (5, .invokestatic 54, 3), (8, .iload_n 2, 1), (9, .ifCond .lt 18, 3), (12, .iload_n 2, 1), (13, .aload_n 0, 1), (14, .getfield 12, 3), (17, .getfield 75, 3), (20, .iload_n 1, 1), (21, .invokevirtual 212, 3), (24, .if_icmp .lt 13, 3), (27, .new 215, 3), (30, .dup, 1), (31, .ldc 217, 2), (33, .invokespecial 219, 3), (36, .athrow, 1), (37, .aload_n 0, 1), (38, .getfield 12, 3), (41, .getfield 75, 3), (44, .iload_n 1, 1), (45, .iload_n 2, 1), (46, .invokevirtual 220, 3), (49, .ireturn, 1)]
theorem dlk_X8_pearl : tvDl cX8_pearl dl_X8_pearl = true := by decide +kernel
theorem dk_X8_pearl_0 : tvD cX8_pearl 0 (.aload_n 0) 1 1 := tvDl_get dlk_X8_pearl 0 rfl rfl
theorem dk_X8_pearl_1 : tvD cX8_pearl 1 (.iload_n 1) 1 2 := tvDl_get dlk_X8_pearl 1 rfl rfl
theorem dk_X8_pearl_2 : tvD cX8_pearl 2 (.invokevirtual 172) 3 5 := tvDl_get dlk_X8_pearl 2 rfl rfl
theorem dk_X8_pearl_5 : tvD cX8_pearl 5 (.invokestatic 54) 3 8 := tvDl_get dlk_X8_pearl 3 rfl rfl
theorem dk_X8_pearl_8 : tvD cX8_pearl 8 (.iload_n 2) 1 9 := tvDl_get dlk_X8_pearl 4 rfl rfl
theorem dk_X8_pearl_9 : tvJ cX8_pearl 9 (.ifCond .lt) 27 12 := tvJl_get dlk_X8_pearl 5 rfl (by decide) rfl
theorem dk_X8_pearl_12 : tvD cX8_pearl 12 (.iload_n 2) 1 13 := tvDl_get dlk_X8_pearl 6 rfl rfl
theorem dk_X8_pearl_13 : tvD cX8_pearl 13 (.aload_n 0) 1 14 := tvDl_get dlk_X8_pearl 7 rfl rfl
theorem dk_X8_pearl_14 : tvD cX8_pearl 14 (.getfield 12) 3 17 := tvDl_get dlk_X8_pearl 8 rfl rfl
theorem dk_X8_pearl_17 : tvD cX8_pearl 17 (.getfield 75) 3 20 := tvDl_get dlk_X8_pearl 9 rfl rfl
theorem dk_X8_pearl_20 : tvD cX8_pearl 20 (.iload_n 1) 1 21 := tvDl_get dlk_X8_pearl 10 rfl rfl
theorem dk_X8_pearl_21 : tvD cX8_pearl 21 (.invokevirtual 212) 3 24 := tvDl_get dlk_X8_pearl 11 rfl rfl
theorem dk_X8_pearl_24 : tvJ cX8_pearl 24 (.if_icmp .lt) 37 27 := tvJl_get dlk_X8_pearl 12 rfl (by decide) rfl
theorem dk_X8_pearl_27 : tvD cX8_pearl 27 (.new 215) 3 30 := tvDl_get dlk_X8_pearl 13 rfl rfl
theorem dk_X8_pearl_30 : tvD cX8_pearl 30 (.dup) 1 31 := tvDl_get dlk_X8_pearl 14 rfl rfl
theorem dk_X8_pearl_31 : tvD cX8_pearl 31 (.ldc 217) 2 33 := tvDl_get dlk_X8_pearl 15 rfl rfl
theorem dk_X8_pearl_33 : tvD cX8_pearl 33 (.invokespecial 219) 3 36 := tvDl_get dlk_X8_pearl 16 rfl rfl
theorem dk_X8_pearl_36 : tvD cX8_pearl 36 (.athrow) 1 37 := tvDl_get dlk_X8_pearl 17 rfl rfl
theorem dk_X8_pearl_37 : tvD cX8_pearl 37 (.aload_n 0) 1 38 := tvDl_get dlk_X8_pearl 18 rfl rfl
theorem dk_X8_pearl_38 : tvD cX8_pearl 38 (.getfield 12) 3 41 := tvDl_get dlk_X8_pearl 19 rfl rfl
theorem dk_X8_pearl_41 : tvD cX8_pearl 41 (.getfield 75) 3 44 := tvDl_get dlk_X8_pearl 20 rfl rfl
theorem dk_X8_pearl_44 : tvD cX8_pearl 44 (.iload_n 1) 1 45 := tvDl_get dlk_X8_pearl 21 rfl rfl
theorem dk_X8_pearl_45 : tvD cX8_pearl 45 (.iload_n 2) 1 46 := tvDl_get dlk_X8_pearl 22 rfl rfl
theorem dk_X8_pearl_46 : tvD cX8_pearl 46 (.invokevirtual 220) 3 49 := tvDl_get dlk_X8_pearl 23 rfl rfl
theorem dk_X8_pearl_49 : tvD cX8_pearl 49 (.ireturn) 1 50 := tvDl_get dlk_X8_pearl 24 rfl rfl
def dl_X8_pearls : List (Nat × Instr × Nat) := [(0, .aload_n 0, 1), (1, .iload_n 1, 1), (2, .invokevirtual 172, 3), (5, .invokestatic 54, 3), (8, .aload_n 0, 1), (9, .getfield 12, 3), (12, .getfield 75, 3), (15, .iload_n 1, 1), (16, .invokevirtual 212, 3), (19, .ireturn, 1)]
theorem dlk_X8_pearls : tvDl cX8_pearls dl_X8_pearls = true := by decide +kernel
theorem dk_X8_pearls_0 : tvD cX8_pearls 0 (.aload_n 0) 1 1 := tvDl_get dlk_X8_pearls 0 rfl rfl
theorem dk_X8_pearls_1 : tvD cX8_pearls 1 (.iload_n 1) 1 2 := tvDl_get dlk_X8_pearls 1 rfl rfl
theorem dk_X8_pearls_2 : tvD cX8_pearls 2 (.invokevirtual 172) 3 5 := tvDl_get dlk_X8_pearls 2 rfl rfl
theorem dk_X8_pearls_5 : tvD cX8_pearls 5 (.invokestatic 54) 3 8 := tvDl_get dlk_X8_pearls 3 rfl rfl
theorem dk_X8_pearls_8 : tvD cX8_pearls 8 (.aload_n 0) 1 9 := tvDl_get dlk_X8_pearls 4 rfl rfl
theorem dk_X8_pearls_9 : tvD cX8_pearls 9 (.getfield 12) 3 12 := tvDl_get dlk_X8_pearls 5 rfl rfl
theorem dk_X8_pearls_12 : tvD cX8_pearls 12 (.getfield 75) 3 15 := tvDl_get dlk_X8_pearls 6 rfl rfl
theorem dk_X8_pearls_15 : tvD cX8_pearls 15 (.iload_n 1) 1 16 := tvDl_get dlk_X8_pearls 7 rfl rfl
theorem dk_X8_pearls_16 : tvD cX8_pearls 16 (.invokevirtual 212) 3 19 := tvDl_get dlk_X8_pearls 8 rfl rfl
theorem dk_X8_pearls_19 : tvD cX8_pearls 19 (.ireturn) 1 20 := tvDl_get dlk_X8_pearls 9 rfl rfl
def dl_X8_refusalOfBoxNumber : List (Nat × Instr × Nat) := [(0, .aload_n 0, 1), (1, .getfield 12, 3), (4, .getfield 75, 3), (7, .iload_n 1, 1), (8, .invokevirtual 223, 3), (11, .ifCond .eq 7, 3), (14, .iconst 0, 1), (15, .goto 4, 3), (18, .iconst 1, 1), (19, .ireturn, 1)]
theorem dlk_X8_refusalOfBoxNumber : tvDl cX8_refusalOfBoxNumber dl_X8_refusalOfBoxNumber = true := by decide +kernel
theorem dk_X8_refusalOfBoxNumber_0 : tvD cX8_refusalOfBoxNumber 0 (.aload_n 0) 1 1 := tvDl_get dlk_X8_refusalOfBoxNumber 0 rfl rfl
theorem dk_X8_refusalOfBoxNumber_1 : tvD cX8_refusalOfBoxNumber 1 (.getfield 12) 3 4 := tvDl_get dlk_X8_refusalOfBoxNumber 1 rfl rfl
theorem dk_X8_refusalOfBoxNumber_4 : tvD cX8_refusalOfBoxNumber 4 (.getfield 75) 3 7 := tvDl_get dlk_X8_refusalOfBoxNumber 2 rfl rfl
theorem dk_X8_refusalOfBoxNumber_7 : tvD cX8_refusalOfBoxNumber 7 (.iload_n 1) 1 8 := tvDl_get dlk_X8_refusalOfBoxNumber 3 rfl rfl
theorem dk_X8_refusalOfBoxNumber_8 : tvD cX8_refusalOfBoxNumber 8 (.invokevirtual 223) 3 11 := tvDl_get dlk_X8_refusalOfBoxNumber 4 rfl rfl
theorem dk_X8_refusalOfBoxNumber_11 : tvJ cX8_refusalOfBoxNumber 11 (.ifCond .eq) 18 14 := tvJl_get dlk_X8_refusalOfBoxNumber 5 rfl (by decide) rfl
theorem dk_X8_refusalOfBoxNumber_14 : tvD cX8_refusalOfBoxNumber 14 (.iconst 0) 1 15 := tvDl_get dlk_X8_refusalOfBoxNumber 6 rfl rfl
theorem dk_X8_refusalOfBoxNumber_15 : tvJ cX8_refusalOfBoxNumber 15 .goto 19 18 := tvJl_get dlk_X8_refusalOfBoxNumber 7 rfl (by decide) rfl
theorem dk_X8_refusalOfBoxNumber_18 : tvD cX8_refusalOfBoxNumber 18 (.iconst 1) 1 19 := tvDl_get dlk_X8_refusalOfBoxNumber 8 rfl rfl
theorem dk_X8_refusalOfBoxNumber_19 : tvD cX8_refusalOfBoxNumber 19 (.ireturn) 1 20 := tvDl_get dlk_X8_refusalOfBoxNumber 9 rfl rfl
def dl_X8_refusalOfEvent : List (Nat × Instr × Nat) := [(0, .aload_n 0, 1), (1, .getfield 12, 3), (4, .getfield 257, 3), (7, .iload_n 1, 1), (8, .invokevirtual 396, 3), (11, .ifCond .eq 7, 3), (14, .iconst 0, 1), (15, .goto 4, 3), (18, .iconst 5, 1), (19, .ireturn, 1)]
theorem dlk_X8_refusalOfEvent : tvDl cX8_refusalOfEvent dl_X8_refusalOfEvent = true := by decide +kernel
theorem dk_X8_refusalOfEvent_0 : tvD cX8_refusalOfEvent 0 (.aload_n 0) 1 1 := tvDl_get dlk_X8_refusalOfEvent 0 rfl rfl
theorem dk_X8_refusalOfEvent_1 : tvD cX8_refusalOfEvent 1 (.getfield 12) 3 4 := tvDl_get dlk_X8_refusalOfEvent 1 rfl rfl
theorem dk_X8_refusalOfEvent_4 : tvD cX8_refusalOfEvent 4 (.getfield 257) 3 7 := tvDl_get dlk_X8_refusalOfEvent 2 rfl rfl
theorem dk_X8_refusalOfEvent_7 : tvD cX8_refusalOfEvent 7 (.iload_n 1) 1 8 := tvDl_get dlk_X8_refusalOfEvent 3 rfl rfl
theorem dk_X8_refusalOfEvent_8 : tvD cX8_refusalOfEvent 8 (.invokevirtual 396) 3 11 := tvDl_get dlk_X8_refusalOfEvent 4 rfl rfl
theorem dk_X8_refusalOfEvent_11 : tvJ cX8_refusalOfEvent 11 (.ifCond .eq) 18 14 := tvJl_get dlk_X8_refusalOfEvent 5 rfl (by decide) rfl
theorem dk_X8_refusalOfEvent_14 : tvD cX8_refusalOfEvent 14 (.iconst 0) 1 15 := tvDl_get dlk_X8_refusalOfEvent 6 rfl rfl
theorem dk_X8_refusalOfEvent_15 : tvJ cX8_refusalOfEvent 15 .goto 19 18 := tvJl_get dlk_X8_refusalOfEvent 7 rfl (by decide) rfl
theorem dk_X8_refusalOfEvent_18 : tvD cX8_refusalOfEvent 18 (.iconst 5) 1 19 := tvDl_get dlk_X8_refusalOfEvent 8 rfl rfl
theorem dk_X8_refusalOfEvent_19 : tvD cX8_refusalOfEvent 19 (.ireturn) 1 20 := tvDl_get dlk_X8_refusalOfEvent 9 rfl rfl
def dl_X8_refusalOfHolderNumber : List (Nat × Instr × Nat) := [(0, .aload_n 0, 1), (1, .getfield 12, 3), (4, .getfield 62, 3), (7, .iload_n 1, 1), (8, .invokevirtual 395, 3), (11, .ifCond .eq 7, 3), (14, .iconst 0, 1), (15, .goto 4, 3), (18, .iconst 1, 1), (19, .ireturn, 1)]
theorem dlk_X8_refusalOfHolderNumber : tvDl cX8_refusalOfHolderNumber dl_X8_refusalOfHolderNumber = true := by decide +kernel
theorem dk_X8_refusalOfHolderNumber_0 : tvD cX8_refusalOfHolderNumber 0 (.aload_n 0) 1 1 := tvDl_get dlk_X8_refusalOfHolderNumber 0 rfl rfl
theorem dk_X8_refusalOfHolderNumber_1 : tvD cX8_refusalOfHolderNumber 1 (.getfield 12) 3 4 := tvDl_get dlk_X8_refusalOfHolderNumber 1 rfl rfl
theorem dk_X8_refusalOfHolderNumber_4 : tvD cX8_refusalOfHolderNumber 4 (.getfield 62) 3 7 := tvDl_get dlk_X8_refusalOfHolderNumber 2 rfl rfl
theorem dk_X8_refusalOfHolderNumber_7 : tvD cX8_refusalOfHolderNumber 7 (.iload_n 1) 1 8 := tvDl_get dlk_X8_refusalOfHolderNumber 3 rfl rfl
theorem dk_X8_refusalOfHolderNumber_8 : tvD cX8_refusalOfHolderNumber 8 (.invokevirtual 395) 3 11 := tvDl_get dlk_X8_refusalOfHolderNumber 4 rfl rfl
theorem dk_X8_refusalOfHolderNumber_11 : tvJ cX8_refusalOfHolderNumber 11 (.ifCond .eq) 18 14 := tvJl_get dlk_X8_refusalOfHolderNumber 5 rfl (by decide) rfl
theorem dk_X8_refusalOfHolderNumber_14 : tvD cX8_refusalOfHolderNumber 14 (.iconst 0) 1 15 := tvDl_get dlk_X8_refusalOfHolderNumber 6 rfl rfl
theorem dk_X8_refusalOfHolderNumber_15 : tvJ cX8_refusalOfHolderNumber 15 .goto 19 18 := tvJl_get dlk_X8_refusalOfHolderNumber 7 rfl (by decide) rfl
theorem dk_X8_refusalOfHolderNumber_18 : tvD cX8_refusalOfHolderNumber 18 (.iconst 1) 1 19 := tvDl_get dlk_X8_refusalOfHolderNumber 8 rfl rfl
theorem dk_X8_refusalOfHolderNumber_19 : tvD cX8_refusalOfHolderNumber 19 (.ireturn) 1 20 := tvDl_get dlk_X8_refusalOfHolderNumber 9 rfl rfl
def dl_X8_refusalOfLowMinutes : List (Nat × Instr × Nat) := [(0, .iload_n 1, 1), (1, .ifCond .lt 10, 3), (4, .iload_n 1, 1), (5, .sipush 1000, 3), (8, .if_icmp .le 7, 3), (11, .iconst 2, 1), (12, .goto 4, 3), (15, .iconst 0, 1), (16, .ireturn, 1)]
theorem dlk_X8_refusalOfLowMinutes : tvDl cX8_refusalOfLowMinutes dl_X8_refusalOfLowMinutes = true := by decide +kernel
theorem dk_X8_refusalOfLowMinutes_0 : tvD cX8_refusalOfLowMinutes 0 (.iload_n 1) 1 1 := tvDl_get dlk_X8_refusalOfLowMinutes 0 rfl rfl
theorem dk_X8_refusalOfLowMinutes_1 : tvJ cX8_refusalOfLowMinutes 1 (.ifCond .lt) 11 4 := tvJl_get dlk_X8_refusalOfLowMinutes 1 rfl (by decide) rfl
theorem dk_X8_refusalOfLowMinutes_4 : tvD cX8_refusalOfLowMinutes 4 (.iload_n 1) 1 5 := tvDl_get dlk_X8_refusalOfLowMinutes 2 rfl rfl
theorem dk_X8_refusalOfLowMinutes_5 : tvD cX8_refusalOfLowMinutes 5 (.sipush 1000) 3 8 := tvDl_get dlk_X8_refusalOfLowMinutes 3 rfl rfl
theorem dk_X8_refusalOfLowMinutes_8 : tvJ cX8_refusalOfLowMinutes 8 (.if_icmp .le) 15 11 := tvJl_get dlk_X8_refusalOfLowMinutes 4 rfl (by decide) rfl
theorem dk_X8_refusalOfLowMinutes_11 : tvD cX8_refusalOfLowMinutes 11 (.iconst 2) 1 12 := tvDl_get dlk_X8_refusalOfLowMinutes 5 rfl rfl
theorem dk_X8_refusalOfLowMinutes_12 : tvJ cX8_refusalOfLowMinutes 12 .goto 16 15 := tvJl_get dlk_X8_refusalOfLowMinutes 6 rfl (by decide) rfl
theorem dk_X8_refusalOfLowMinutes_15 : tvD cX8_refusalOfLowMinutes 15 (.iconst 0) 1 16 := tvDl_get dlk_X8_refusalOfLowMinutes 7 rfl rfl
theorem dk_X8_refusalOfLowMinutes_16 : tvD cX8_refusalOfLowMinutes 16 (.ireturn) 1 17 := tvDl_get dlk_X8_refusalOfLowMinutes 8 rfl rfl
def dl_X8_refusalUnless : List (Nat × Instr × Nat) := [(0, .aload_n 0, 1), (1, .getfield 12, 3), (4, .getfield 75, 3), (7, .iload_n 2, 1), (8, .invokevirtual 223, 3), (11, .ifCond .ne 5, 3), (14, .iconst 1, 1), (15, .ireturn, 1), (16, .aload_n 0, 1), (17, .getfield 12, 3), (20, .getfield 75, 3), (23, .iload_n 2, 1), (24, .invokevirtual 189, 3), (27, .iload_n 1, 1), (28, .if_icmp .ne 7, 3), (31, .iconst 0, 1), (32, .goto 4, 3), (35, .iconst 5, 1), (36, .ireturn, 1)]
theorem dlk_X8_refusalUnless : tvDl cX8_refusalUnless dl_X8_refusalUnless = true := by decide +kernel
theorem dk_X8_refusalUnless_0 : tvD cX8_refusalUnless 0 (.aload_n 0) 1 1 := tvDl_get dlk_X8_refusalUnless 0 rfl rfl
theorem dk_X8_refusalUnless_1 : tvD cX8_refusalUnless 1 (.getfield 12) 3 4 := tvDl_get dlk_X8_refusalUnless 1 rfl rfl
theorem dk_X8_refusalUnless_4 : tvD cX8_refusalUnless 4 (.getfield 75) 3 7 := tvDl_get dlk_X8_refusalUnless 2 rfl rfl
theorem dk_X8_refusalUnless_7 : tvD cX8_refusalUnless 7 (.iload_n 2) 1 8 := tvDl_get dlk_X8_refusalUnless 3 rfl rfl
theorem dk_X8_refusalUnless_8 : tvD cX8_refusalUnless 8 (.invokevirtual 223) 3 11 := tvDl_get dlk_X8_refusalUnless 4 rfl rfl
theorem dk_X8_refusalUnless_11 : tvJ cX8_refusalUnless 11 (.ifCond .ne) 16 14 := tvJl_get dlk_X8_refusalUnless 5 rfl (by decide) rfl
theorem dk_X8_refusalUnless_14 : tvD cX8_refusalUnless 14 (.iconst 1) 1 15 := tvDl_get dlk_X8_refusalUnless 6 rfl rfl
theorem dk_X8_refusalUnless_15 : tvD cX8_refusalUnless 15 (.ireturn) 1 16 := tvDl_get dlk_X8_refusalUnless 7 rfl rfl
theorem dk_X8_refusalUnless_16 : tvD cX8_refusalUnless 16 (.aload_n 0) 1 17 := tvDl_get dlk_X8_refusalUnless 8 rfl rfl
theorem dk_X8_refusalUnless_17 : tvD cX8_refusalUnless 17 (.getfield 12) 3 20 := tvDl_get dlk_X8_refusalUnless 9 rfl rfl
theorem dk_X8_refusalUnless_20 : tvD cX8_refusalUnless 20 (.getfield 75) 3 23 := tvDl_get dlk_X8_refusalUnless 10 rfl rfl
theorem dk_X8_refusalUnless_23 : tvD cX8_refusalUnless 23 (.iload_n 2) 1 24 := tvDl_get dlk_X8_refusalUnless 11 rfl rfl
theorem dk_X8_refusalUnless_24 : tvD cX8_refusalUnless 24 (.invokevirtual 189) 3 27 := tvDl_get dlk_X8_refusalUnless 12 rfl rfl
theorem dk_X8_refusalUnless_27 : tvD cX8_refusalUnless 27 (.iload_n 1) 1 28 := tvDl_get dlk_X8_refusalUnless 13 rfl rfl
theorem dk_X8_refusalUnless_28 : tvJ cX8_refusalUnless 28 (.if_icmp .ne) 35 31 := tvJl_get dlk_X8_refusalUnless 14 rfl (by decide) rfl
theorem dk_X8_refusalUnless_31 : tvD cX8_refusalUnless 31 (.iconst 0) 1 32 := tvDl_get dlk_X8_refusalUnless 15 rfl rfl
theorem dk_X8_refusalUnless_32 : tvJ cX8_refusalUnless 32 .goto 36 35 := tvJl_get dlk_X8_refusalUnless 16 rfl (by decide) rfl
theorem dk_X8_refusalUnless_35 : tvD cX8_refusalUnless 35 (.iconst 5) 1 36 := tvDl_get dlk_X8_refusalUnless 17 rfl rfl
theorem dk_X8_refusalUnless_36 : tvD cX8_refusalUnless 36 (.ireturn) 1 37 := tvDl_get dlk_X8_refusalUnless 18 rfl rfl
def dl_X8_remainingDelay : List (Nat × Instr × Nat) := [(0, .aload_n 0, 1), (1, .bipush 112, 2), (3, .iload_n 1, 1), (4, .invokevirtual 193, 3), (7, .invokestatic 54, 3), (10, .aload_n 0, 1), (11, .getfield 12, 3), (14, .getfield 75, 3), (17, .iload_n 1, 1), (18, .invokevirtual 200, 3), (21, .ireturn, 1)]
theorem dlk_X8_remainingDelay : tvDl cX8_remainingDelay dl_X8_remainingDelay = true := by decide +kernel
theorem dk_X8_remainingDelay_0 : tvD cX8_remainingDelay 0 (.aload_n 0) 1 1 := tvDl_get dlk_X8_remainingDelay 0 rfl rfl
theorem dk_X8_remainingDelay_1 : tvD cX8_remainingDelay 1 (.bipush 112) 2 3 := tvDl_get dlk_X8_remainingDelay 1 rfl rfl
theorem dk_X8_remainingDelay_3 : tvD cX8_remainingDelay 3 (.iload_n 1) 1 4 := tvDl_get dlk_X8_remainingDelay 2 rfl rfl
theorem dk_X8_remainingDelay_4 : tvD cX8_remainingDelay 4 (.invokevirtual 193) 3 7 := tvDl_get dlk_X8_remainingDelay 3 rfl rfl
theorem dk_X8_remainingDelay_7 : tvD cX8_remainingDelay 7 (.invokestatic 54) 3 10 := tvDl_get dlk_X8_remainingDelay 4 rfl rfl
theorem dk_X8_remainingDelay_10 : tvD cX8_remainingDelay 10 (.aload_n 0) 1 11 := tvDl_get dlk_X8_remainingDelay 5 rfl rfl
theorem dk_X8_remainingDelay_11 : tvD cX8_remainingDelay 11 (.getfield 12) 3 14 := tvDl_get dlk_X8_remainingDelay 6 rfl rfl
theorem dk_X8_remainingDelay_14 : tvD cX8_remainingDelay 14 (.getfield 75) 3 17 := tvDl_get dlk_X8_remainingDelay 7 rfl rfl
theorem dk_X8_remainingDelay_17 : tvD cX8_remainingDelay 17 (.iload_n 1) 1 18 := tvDl_get dlk_X8_remainingDelay 8 rfl rfl
theorem dk_X8_remainingDelay_18 : tvD cX8_remainingDelay 18 (.invokevirtual 200) 3 21 := tvDl_get dlk_X8_remainingDelay 9 rfl rfl
theorem dk_X8_remainingDelay_21 : tvD cX8_remainingDelay 21 (.ireturn) 1 22 := tvDl_get dlk_X8_remainingDelay 10 rfl rfl
def dl_X8_restore : List (Nat × Instr × Nat) := [(0, .aload_n 0, 1), (1, .getfield 365, 3), (4, .ifCond .ne 14, 3), (7, .new 305, 3), (10, .dup, 1), (11, .ldc_w 368, 3), (14, .invokespecial 309, 3), (17, .athrow, 1), (18, .aload_n 0, 1), (19, .getfield 12, 3), (22, .aload_n 0, 1), (23, .getfield 19, 3), (26, .invokevirtual 206, 3), (29, .aload_n 0, 1), (30, .getfield 25, 3), (33, .invokevirtual 370, 3), (36, .aload_n 0, 1), (37, .getfield 12, 3), (40, .getfield 75, 3), (43, .getfield 171, 3), (46, .ireturn, 1)]
theorem dlk_X8_restore : tvDl cX8_restore dl_X8_restore = true := by decide +kernel
theorem dk_X8_restore_0 : tvD cX8_restore 0 (.aload_n 0) 1 1 := tvDl_get dlk_X8_restore 0 rfl rfl
theorem dk_X8_restore_1 : tvD cX8_restore 1 (.getfield 365) 3 4 := tvDl_get dlk_X8_restore 1 rfl rfl
theorem dk_X8_restore_4 : tvJ cX8_restore 4 (.ifCond .ne) 18 7 := tvJl_get dlk_X8_restore 2 rfl (by decide) rfl
theorem dk_X8_restore_7 : tvD cX8_restore 7 (.new 305) 3 10 := tvDl_get dlk_X8_restore 3 rfl rfl
theorem dk_X8_restore_10 : tvD cX8_restore 10 (.dup) 1 11 := tvDl_get dlk_X8_restore 4 rfl rfl
theorem dk_X8_restore_11 : tvD cX8_restore 11 (.ldc_w 368) 3 14 := tvDl_get dlk_X8_restore 5 rfl rfl
theorem dk_X8_restore_14 : tvD cX8_restore 14 (.invokespecial 309) 3 17 := tvDl_get dlk_X8_restore 6 rfl rfl
theorem dk_X8_restore_17 : tvD cX8_restore 17 (.athrow) 1 18 := tvDl_get dlk_X8_restore 7 rfl rfl
theorem dk_X8_restore_18 : tvD cX8_restore 18 (.aload_n 0) 1 19 := tvDl_get dlk_X8_restore 8 rfl rfl
theorem dk_X8_restore_19 : tvD cX8_restore 19 (.getfield 12) 3 22 := tvDl_get dlk_X8_restore 9 rfl rfl
theorem dk_X8_restore_22 : tvD cX8_restore 22 (.aload_n 0) 1 23 := tvDl_get dlk_X8_restore 10 rfl rfl
theorem dk_X8_restore_23 : tvD cX8_restore 23 (.getfield 19) 3 26 := tvDl_get dlk_X8_restore 11 rfl rfl
theorem dk_X8_restore_26 : tvD cX8_restore 26 (.invokevirtual 206) 3 29 := tvDl_get dlk_X8_restore 12 rfl rfl
theorem dk_X8_restore_29 : tvD cX8_restore 29 (.aload_n 0) 1 30 := tvDl_get dlk_X8_restore 13 rfl rfl
theorem dk_X8_restore_30 : tvD cX8_restore 30 (.getfield 25) 3 33 := tvDl_get dlk_X8_restore 14 rfl rfl
theorem dk_X8_restore_33 : tvD cX8_restore 33 (.invokevirtual 370) 3 36 := tvDl_get dlk_X8_restore 15 rfl rfl
theorem dk_X8_restore_36 : tvD cX8_restore 36 (.aload_n 0) 1 37 := tvDl_get dlk_X8_restore 16 rfl rfl
theorem dk_X8_restore_37 : tvD cX8_restore 37 (.getfield 12) 3 40 := tvDl_get dlk_X8_restore 17 rfl rfl
theorem dk_X8_restore_40 : tvD cX8_restore 40 (.getfield 75) 3 43 := tvDl_get dlk_X8_restore 18 rfl rfl
theorem dk_X8_restore_43 : tvD cX8_restore 43 (.getfield 171) 3 46 := tvDl_get dlk_X8_restore 19 rfl rfl
theorem dk_X8_restore_46 : tvD cX8_restore 46 (.ireturn) 1 47 := tvDl_get dlk_X8_restore 20 rfl rfl
def dl_X8_save : List (Nat × Instr × Nat) := [(0, .aload_n 0, 1), (1, .getfield 19, 3), (4, .aload_n 0, 1), (5, .getfield 12, 3), (8, .invokevirtual 206, 3), (11, .aload_n 0, 1), (12, .iconst 1, 1), (13, .putfield 365, 3), (16, .aload_n 0, 1), (17, .getfield 12, 3), (20, .getfield 75, 3), (23, .getfield 171, 3), (26, .ireturn, 1)]
theorem dlk_X8_save : tvDl cX8_save dl_X8_save = true := by decide +kernel
theorem dk_X8_save_0 : tvD cX8_save 0 (.aload_n 0) 1 1 := tvDl_get dlk_X8_save 0 rfl rfl
theorem dk_X8_save_1 : tvD cX8_save 1 (.getfield 19) 3 4 := tvDl_get dlk_X8_save 1 rfl rfl
theorem dk_X8_save_4 : tvD cX8_save 4 (.aload_n 0) 1 5 := tvDl_get dlk_X8_save 2 rfl rfl
theorem dk_X8_save_5 : tvD cX8_save 5 (.getfield 12) 3 8 := tvDl_get dlk_X8_save 3 rfl rfl
theorem dk_X8_save_8 : tvD cX8_save 8 (.invokevirtual 206) 3 11 := tvDl_get dlk_X8_save 4 rfl rfl
theorem dk_X8_save_11 : tvD cX8_save 11 (.aload_n 0) 1 12 := tvDl_get dlk_X8_save 5 rfl rfl
theorem dk_X8_save_12 : tvD cX8_save 12 (.iconst 1) 1 13 := tvDl_get dlk_X8_save 6 rfl rfl
theorem dk_X8_save_13 : tvD cX8_save 13 (.putfield 365) 3 16 := tvDl_get dlk_X8_save 7 rfl rfl
theorem dk_X8_save_16 : tvD cX8_save 16 (.aload_n 0) 1 17 := tvDl_get dlk_X8_save 8 rfl rfl
theorem dk_X8_save_17 : tvD cX8_save 17 (.getfield 12) 3 20 := tvDl_get dlk_X8_save 9 rfl rfl
theorem dk_X8_save_20 : tvD cX8_save 20 (.getfield 75) 3 23 := tvDl_get dlk_X8_save 10 rfl rfl
theorem dk_X8_save_23 : tvD cX8_save 23 (.getfield 171) 3 26 := tvDl_get dlk_X8_save 11 rfl rfl
theorem dk_X8_save_26 : tvD cX8_save 26 (.ireturn) 1 27 := tvDl_get dlk_X8_save 12 rfl rfl
def dl_X8_setTide : List (Nat × Instr × Nat) := [(0, .aload_n 0, 1), (1, .getfield 12, 3), (4, .iload_n 1, 1), (5, .iload_n 2, 1), (6, .invokevirtual 83, 3), (9, .invokestatic 54, 3), (12, .aload_n 0, 1), (13, .getfield 25, 3), (16, .aload_n 0, 1), (17, .getfield 12, 3), (20, .invokevirtual 58, 3), (23, .aload_n 0, 1), (24, .getfield 12, 3), (27, .getfield 87, 3), (30, .iload_n 1, 1), (31, .iload_n 2, 1), (32, .invokevirtual 91, 3), (35, .ireturn, 1)]
theorem dlk_X8_setTide : tvDl cX8_setTide dl_X8_setTide = true := by decide +kernel
theorem dk_X8_setTide_0 : tvD cX8_setTide 0 (.aload_n 0) 1 1 := tvDl_get dlk_X8_setTide 0 rfl rfl
theorem dk_X8_setTide_1 : tvD cX8_setTide 1 (.getfield 12) 3 4 := tvDl_get dlk_X8_setTide 1 rfl rfl
theorem dk_X8_setTide_4 : tvD cX8_setTide 4 (.iload_n 1) 1 5 := tvDl_get dlk_X8_setTide 2 rfl rfl
theorem dk_X8_setTide_5 : tvD cX8_setTide 5 (.iload_n 2) 1 6 := tvDl_get dlk_X8_setTide 3 rfl rfl
theorem dk_X8_setTide_6 : tvD cX8_setTide 6 (.invokevirtual 83) 3 9 := tvDl_get dlk_X8_setTide 4 rfl rfl
theorem dk_X8_setTide_9 : tvD cX8_setTide 9 (.invokestatic 54) 3 12 := tvDl_get dlk_X8_setTide 5 rfl rfl
theorem dk_X8_setTide_12 : tvD cX8_setTide 12 (.aload_n 0) 1 13 := tvDl_get dlk_X8_setTide 6 rfl rfl
theorem dk_X8_setTide_13 : tvD cX8_setTide 13 (.getfield 25) 3 16 := tvDl_get dlk_X8_setTide 7 rfl rfl
theorem dk_X8_setTide_16 : tvD cX8_setTide 16 (.aload_n 0) 1 17 := tvDl_get dlk_X8_setTide 8 rfl rfl
theorem dk_X8_setTide_17 : tvD cX8_setTide 17 (.getfield 12) 3 20 := tvDl_get dlk_X8_setTide 9 rfl rfl
theorem dk_X8_setTide_20 : tvD cX8_setTide 20 (.invokevirtual 58) 3 23 := tvDl_get dlk_X8_setTide 10 rfl rfl
theorem dk_X8_setTide_23 : tvD cX8_setTide 23 (.aload_n 0) 1 24 := tvDl_get dlk_X8_setTide 11 rfl rfl
theorem dk_X8_setTide_24 : tvD cX8_setTide 24 (.getfield 12) 3 27 := tvDl_get dlk_X8_setTide 12 rfl rfl
theorem dk_X8_setTide_27 : tvD cX8_setTide 27 (.getfield 87) 3 30 := tvDl_get dlk_X8_setTide 13 rfl rfl
theorem dk_X8_setTide_30 : tvD cX8_setTide 30 (.iload_n 1) 1 31 := tvDl_get dlk_X8_setTide 14 rfl rfl
theorem dk_X8_setTide_31 : tvD cX8_setTide 31 (.iload_n 2) 1 32 := tvDl_get dlk_X8_setTide 15 rfl rfl
theorem dk_X8_setTide_32 : tvD cX8_setTide 32 (.invokevirtual 91) 3 35 := tvDl_get dlk_X8_setTide 16 rfl rfl
theorem dk_X8_setTide_35 : tvD cX8_setTide 35 (.ireturn) 1 36 := tvDl_get dlk_X8_setTide 17 rfl rfl
def dl_X8_status : List (Nat × Instr × Nat) := [(0, .aload_n 0, 1), (1, .iload_n 1, 1), (2, .invokevirtual 172, 3), (5, .invokestatic 54, 3), (8, .aload_n 0, 1), (9, .getfield 12, 3), (12, .getfield 75, 3), (15, .iload_n 1, 1), (16, .invokevirtual 189, 3), (19, .ireturn, 1)]
theorem dlk_X8_status : tvDl cX8_status dl_X8_status = true := by decide +kernel
theorem dk_X8_status_0 : tvD cX8_status 0 (.aload_n 0) 1 1 := tvDl_get dlk_X8_status 0 rfl rfl
theorem dk_X8_status_1 : tvD cX8_status 1 (.iload_n 1) 1 2 := tvDl_get dlk_X8_status 1 rfl rfl
theorem dk_X8_status_2 : tvD cX8_status 2 (.invokevirtual 172) 3 5 := tvDl_get dlk_X8_status 2 rfl rfl
theorem dk_X8_status_5 : tvD cX8_status 5 (.invokestatic 54) 3 8 := tvDl_get dlk_X8_status 3 rfl rfl
theorem dk_X8_status_8 : tvD cX8_status 8 (.aload_n 0) 1 9 := tvDl_get dlk_X8_status 4 rfl rfl
theorem dk_X8_status_9 : tvD cX8_status 9 (.getfield 12) 3 12 := tvDl_get dlk_X8_status 5 rfl rfl
theorem dk_X8_status_12 : tvD cX8_status 12 (.getfield 75) 3 15 := tvDl_get dlk_X8_status 6 rfl rfl
theorem dk_X8_status_15 : tvD cX8_status 15 (.iload_n 1) 1 16 := tvDl_get dlk_X8_status 7 rfl rfl
theorem dk_X8_status_16 : tvD cX8_status 16 (.invokevirtual 189) 3 19 := tvDl_get dlk_X8_status 8 rfl rfl
theorem dk_X8_status_19 : tvD cX8_status 19 (.ireturn) 1 20 := tvDl_get dlk_X8_status 9 rfl rfl
def dl_X8_time : List (Nat × Instr × Nat) := [(0, .aload_n 0, 1), (1, .getfield 12, 3), (4, .getfield 137, 3), (7, .ireturn, 1)]
theorem dlk_X8_time : tvDl cX8_time dl_X8_time = true := by decide +kernel
theorem dk_X8_time_0 : tvD cX8_time 0 (.aload_n 0) 1 1 := tvDl_get dlk_X8_time 0 rfl rfl
theorem dk_X8_time_1 : tvD cX8_time 1 (.getfield 12) 3 4 := tvDl_get dlk_X8_time 1 rfl rfl
theorem dk_X8_time_4 : tvD cX8_time 4 (.getfield 137) 3 7 := tvDl_get dlk_X8_time 2 rfl rfl
theorem dk_X8_time_7 : tvD cX8_time 7 (.ireturn) 1 8 := tvDl_get dlk_X8_time 3 rfl rfl
def dl_X8_totalValue : List (Nat × Instr × Nat) := [(0, .aload_n 0, 1), (1, .getfield 12, 3), (4, .getfield 75, 3), (7, .invokevirtual 232, 3), (10, .lreturn, 1)]
theorem dlk_X8_totalValue : tvDl cX8_totalValue dl_X8_totalValue = true := by decide +kernel
theorem dk_X8_totalValue_0 : tvD cX8_totalValue 0 (.aload_n 0) 1 1 := tvDl_get dlk_X8_totalValue 0 rfl rfl
theorem dk_X8_totalValue_1 : tvD cX8_totalValue 1 (.getfield 12) 3 4 := tvDl_get dlk_X8_totalValue 1 rfl rfl
theorem dk_X8_totalValue_4 : tvD cX8_totalValue 4 (.getfield 75) 3 7 := tvDl_get dlk_X8_totalValue 2 rfl rfl
theorem dk_X8_totalValue_7 : tvD cX8_totalValue 7 (.invokevirtual 232) 3 10 := tvDl_get dlk_X8_totalValue 3 rfl rfl
theorem dk_X8_totalValue_10 : tvD cX8_totalValue 10 (.lreturn) 1 11 := tvDl_get dlk_X8_totalValue 4 rfl rfl
def dl_X8_totalValueByLedger : List (Nat × Instr × Nat) := [(0, .aload_n 0, 1), (1, .getfield 12, 3), (4, .getfield 236, 3), (7, .lreturn, 1)]
theorem dlk_X8_totalValueByLedger : tvDl cX8_totalValueByLedger dl_X8_totalValueByLedger = true := by decide +kernel
theorem dk_X8_totalValueByLedger_0 : tvD cX8_totalValueByLedger 0 (.aload_n 0) 1 1 := tvDl_get dlk_X8_totalValueByLedger 0 rfl rfl
theorem dk_X8_totalValueByLedger_1 : tvD cX8_totalValueByLedger 1 (.getfield 12) 3 4 := tvDl_get dlk_X8_totalValueByLedger 1 rfl rfl
theorem dk_X8_totalValueByLedger_4 : tvD cX8_totalValueByLedger 4 (.getfield 236) 3 7 := tvDl_get dlk_X8_totalValueByLedger 2 rfl rfl
theorem dk_X8_totalValueByLedger_7 : tvD cX8_totalValueByLedger 7 (.lreturn) 1 8 := tvDl_get dlk_X8_totalValueByLedger 3 rfl rfl
def dl_X8_turnKey : List (Nat × Instr × Nat) := [(0, .aload_n 0, 1), (1, .aload_n 0, 1), (2, .getfield 12, 3), (5, .iload_n 1, 1), (6, .iload_n 2, 1), (7, .iload_n 3, 1), (8, .invokevirtual 96, 3), (11, .iload_n 2, 1), (12, .invokevirtual 99, 3), (15, .aload_n 0, 1), (16, .getfield 12, 3), (19, .iload_n 1, 1), (20, .iload_n 2, 1), (21, .invokevirtual 103, 3), (24, .ireturn, 1)]
theorem dlk_X8_turnKey : tvDl cX8_turnKey dl_X8_turnKey = true := by decide +kernel
theorem dk_X8_turnKey_0 : tvD cX8_turnKey 0 (.aload_n 0) 1 1 := tvDl_get dlk_X8_turnKey 0 rfl rfl
theorem dk_X8_turnKey_1 : tvD cX8_turnKey 1 (.aload_n 0) 1 2 := tvDl_get dlk_X8_turnKey 1 rfl rfl
theorem dk_X8_turnKey_2 : tvD cX8_turnKey 2 (.getfield 12) 3 5 := tvDl_get dlk_X8_turnKey 2 rfl rfl
theorem dk_X8_turnKey_5 : tvD cX8_turnKey 5 (.iload_n 1) 1 6 := tvDl_get dlk_X8_turnKey 3 rfl rfl
theorem dk_X8_turnKey_6 : tvD cX8_turnKey 6 (.iload_n 2) 1 7 := tvDl_get dlk_X8_turnKey 4 rfl rfl
theorem dk_X8_turnKey_7 : tvD cX8_turnKey 7 (.iload_n 3) 1 8 := tvDl_get dlk_X8_turnKey 5 rfl rfl
theorem dk_X8_turnKey_8 : tvD cX8_turnKey 8 (.invokevirtual 96) 3 11 := tvDl_get dlk_X8_turnKey 6 rfl rfl
theorem dk_X8_turnKey_11 : tvD cX8_turnKey 11 (.iload_n 2) 1 12 := tvDl_get dlk_X8_turnKey 7 rfl rfl
theorem dk_X8_turnKey_12 : tvD cX8_turnKey 12 (.invokevirtual 99) 3 15 := tvDl_get dlk_X8_turnKey 8 rfl rfl
theorem dk_X8_turnKey_15 : tvD cX8_turnKey 15 (.aload_n 0) 1 16 := tvDl_get dlk_X8_turnKey 9 rfl rfl
theorem dk_X8_turnKey_16 : tvD cX8_turnKey 16 (.getfield 12) 3 19 := tvDl_get dlk_X8_turnKey 10 rfl rfl
theorem dk_X8_turnKey_19 : tvD cX8_turnKey 19 (.iload_n 1) 1 20 := tvDl_get dlk_X8_turnKey 11 rfl rfl
theorem dk_X8_turnKey_20 : tvD cX8_turnKey 20 (.iload_n 2) 1 21 := tvDl_get dlk_X8_turnKey 12 rfl rfl
theorem dk_X8_turnKey_21 : tvD cX8_turnKey 21 (.invokevirtual 103) 3 24 := tvDl_get dlk_X8_turnKey 13 rfl rfl
theorem dk_X8_turnKey_24 : tvD cX8_turnKey 24 (.ireturn) 1 25 := tvDl_get dlk_X8_turnKey 14 rfl rfl
def dl_X8_type : List (Nat × Instr × Nat) := [(0, .aload_n 0, 1), (1, .getfield 32, 3), (4, .invokevirtual 302, 3), (7, .ifCond .eq 14, 3), (10, .new 305, 3), (13, .dup, 1), (14, .ldc_w 307, 3), (17, .invokespecial 309, 3), (20, .athrow, 1), (21, .aload_n 0, 1), (22, .getfield 32, 3), (25, .iload_n 1, 1), (26, .invokevirtual 310, 3), (29, .ireturn, 1)]
theorem dlk_X8_type : tvDl cX8_type dl_X8_type = true := by decide +kernel
theorem dk_X8_type_0 : tvD cX8_type 0 (.aload_n 0) 1 1 := tvDl_get dlk_X8_type 0 rfl rfl
theorem dk_X8_type_1 : tvD cX8_type 1 (.getfield 32) 3 4 := tvDl_get dlk_X8_type 1 rfl rfl
theorem dk_X8_type_4 : tvD cX8_type 4 (.invokevirtual 302) 3 7 := tvDl_get dlk_X8_type 2 rfl rfl
theorem dk_X8_type_7 : tvJ cX8_type 7 (.ifCond .eq) 21 10 := tvJl_get dlk_X8_type 3 rfl (by decide) rfl
theorem dk_X8_type_10 : tvD cX8_type 10 (.new 305) 3 13 := tvDl_get dlk_X8_type 4 rfl rfl
theorem dk_X8_type_13 : tvD cX8_type 13 (.dup) 1 14 := tvDl_get dlk_X8_type 5 rfl rfl
theorem dk_X8_type_14 : tvD cX8_type 14 (.ldc_w 307) 3 17 := tvDl_get dlk_X8_type 6 rfl rfl
theorem dk_X8_type_17 : tvD cX8_type 17 (.invokespecial 309) 3 20 := tvDl_get dlk_X8_type 7 rfl rfl
theorem dk_X8_type_20 : tvD cX8_type 20 (.athrow) 1 21 := tvDl_get dlk_X8_type 8 rfl rfl
theorem dk_X8_type_21 : tvD cX8_type 21 (.aload_n 0) 1 22 := tvDl_get dlk_X8_type 9 rfl rfl
theorem dk_X8_type_22 : tvD cX8_type 22 (.getfield 32) 3 25 := tvDl_get dlk_X8_type 10 rfl rfl
theorem dk_X8_type_25 : tvD cX8_type 25 (.iload_n 1) 1 26 := tvDl_get dlk_X8_type 11 rfl rfl
theorem dk_X8_type_26 : tvD cX8_type 26 (.invokevirtual 310) 3 29 := tvDl_get dlk_X8_type 12 rfl rfl
theorem dk_X8_type_29 : tvD cX8_type 29 (.ireturn) 1 30 := tvDl_get dlk_X8_type 13 rfl rfl
def dl_X8_undo : List (Nat × Instr × Nat) := [(0, .aload_n 0, 1), (1, .getfield 25, 3), (4, .getfield 358, 3), (7, .ifCond .ne 14, 3), (10, .new 305, 3), (13, .dup, 1), (14, .ldc_w 359, 3), (17, .invokespecial 309, 3), (20, .athrow, 1), (21, .aload_n 0, 1), (22, .getfield 25, 3), (25, .aload_n 0, 1), (26, .getfield 12, 3), (29, .invokevirtual 361, 3), (32, .ireturn, 1)]
theorem dlk_X8_undo : tvDl cX8_undo dl_X8_undo = true := by decide +kernel
theorem dk_X8_undo_0 : tvD cX8_undo 0 (.aload_n 0) 1 1 := tvDl_get dlk_X8_undo 0 rfl rfl
theorem dk_X8_undo_1 : tvD cX8_undo 1 (.getfield 25) 3 4 := tvDl_get dlk_X8_undo 1 rfl rfl
theorem dk_X8_undo_4 : tvD cX8_undo 4 (.getfield 358) 3 7 := tvDl_get dlk_X8_undo 2 rfl rfl
theorem dk_X8_undo_7 : tvJ cX8_undo 7 (.ifCond .ne) 21 10 := tvJl_get dlk_X8_undo 3 rfl (by decide) rfl
theorem dk_X8_undo_10 : tvD cX8_undo 10 (.new 305) 3 13 := tvDl_get dlk_X8_undo 4 rfl rfl
theorem dk_X8_undo_13 : tvD cX8_undo 13 (.dup) 1 14 := tvDl_get dlk_X8_undo 5 rfl rfl
theorem dk_X8_undo_14 : tvD cX8_undo 14 (.ldc_w 359) 3 17 := tvDl_get dlk_X8_undo 6 rfl rfl
theorem dk_X8_undo_17 : tvD cX8_undo 17 (.invokespecial 309) 3 20 := tvDl_get dlk_X8_undo 7 rfl rfl
theorem dk_X8_undo_20 : tvD cX8_undo 20 (.athrow) 1 21 := tvDl_get dlk_X8_undo 8 rfl rfl
theorem dk_X8_undo_21 : tvD cX8_undo 21 (.aload_n 0) 1 22 := tvDl_get dlk_X8_undo 9 rfl rfl
theorem dk_X8_undo_22 : tvD cX8_undo 22 (.getfield 25) 3 25 := tvDl_get dlk_X8_undo 10 rfl rfl
theorem dk_X8_undo_25 : tvD cX8_undo 25 (.aload_n 0) 1 26 := tvDl_get dlk_X8_undo 11 rfl rfl
theorem dk_X8_undo_26 : tvD cX8_undo 26 (.getfield 12) 3 29 := tvDl_get dlk_X8_undo 12 rfl rfl
theorem dk_X8_undo_29 : tvD cX8_undo 29 (.invokevirtual 361) 3 32 := tvDl_get dlk_X8_undo 13 rfl rfl
theorem dk_X8_undo_32 : tvD cX8_undo 32 (.ireturn) 1 33 := tvDl_get dlk_X8_undo 14 rfl rfl
def dl_X8_withdraw : List (Nat × Instr × Nat) := [(0, .aload_n 0, 1), (1, .getfield 12, 3), (4, .iload_n 1, 1), (5, .invokevirtual 119, 3), (8, .invokestatic 54, 3), (11, .aload_n 0, 1), (12, .getfield 25, 3), (15, .aload_n 0, 1), (16, .getfield 12, 3), (19, .invokevirtual 58, 3), (22, .aload_n 0, 1), (23, .getfield 12, 3), (26, .iload_n 1, 1), (27, .invokevirtual 122, 3), (30, .ireturn, 1)]
theorem dlk_X8_withdraw : tvDl cX8_withdraw dl_X8_withdraw = true := by decide +kernel
theorem dk_X8_withdraw_0 : tvD cX8_withdraw 0 (.aload_n 0) 1 1 := tvDl_get dlk_X8_withdraw 0 rfl rfl
theorem dk_X8_withdraw_1 : tvD cX8_withdraw 1 (.getfield 12) 3 4 := tvDl_get dlk_X8_withdraw 1 rfl rfl
theorem dk_X8_withdraw_4 : tvD cX8_withdraw 4 (.iload_n 1) 1 5 := tvDl_get dlk_X8_withdraw 2 rfl rfl
theorem dk_X8_withdraw_5 : tvD cX8_withdraw 5 (.invokevirtual 119) 3 8 := tvDl_get dlk_X8_withdraw 3 rfl rfl
theorem dk_X8_withdraw_8 : tvD cX8_withdraw 8 (.invokestatic 54) 3 11 := tvDl_get dlk_X8_withdraw 4 rfl rfl
theorem dk_X8_withdraw_11 : tvD cX8_withdraw 11 (.aload_n 0) 1 12 := tvDl_get dlk_X8_withdraw 5 rfl rfl
theorem dk_X8_withdraw_12 : tvD cX8_withdraw 12 (.getfield 25) 3 15 := tvDl_get dlk_X8_withdraw 6 rfl rfl
theorem dk_X8_withdraw_15 : tvD cX8_withdraw 15 (.aload_n 0) 1 16 := tvDl_get dlk_X8_withdraw 7 rfl rfl
theorem dk_X8_withdraw_16 : tvD cX8_withdraw 16 (.getfield 12) 3 19 := tvDl_get dlk_X8_withdraw 8 rfl rfl
theorem dk_X8_withdraw_19 : tvD cX8_withdraw 19 (.invokevirtual 58) 3 22 := tvDl_get dlk_X8_withdraw 9 rfl rfl
theorem dk_X8_withdraw_22 : tvD cX8_withdraw 22 (.aload_n 0) 1 23 := tvDl_get dlk_X8_withdraw 10 rfl rfl
theorem dk_X8_withdraw_23 : tvD cX8_withdraw 23 (.getfield 12) 3 26 := tvDl_get dlk_X8_withdraw 11 rfl rfl
theorem dk_X8_withdraw_26 : tvD cX8_withdraw 26 (.iload_n 1) 1 27 := tvDl_get dlk_X8_withdraw 12 rfl rfl
theorem dk_X8_withdraw_27 : tvD cX8_withdraw 27 (.invokevirtual 122) 3 30 := tvDl_get dlk_X8_withdraw 13 rfl rfl
theorem dk_X8_withdraw_30 : tvD cX8_withdraw 30 (.ireturn) 1 31 := tvDl_get dlk_X8_withdraw 14 rfl rfl
