theorem fl_RX9_13 : tvFl RX9 13 9 1 := ⟨_, _, _, rfl, by decide, rfl, tvIn_9, rfl, Or.inl (tvgc (tvc_6 (List.mem_of_getElem? (i := 159) (by decide +kernel))) rfl)⟩
theorem fl_RX9_16 : tvFl RX9 16 9 2 := ⟨_, _, _, rfl, by decide, rfl, tvIn_9, rfl, Or.inl (tvgc (tvc_6 (List.mem_of_getElem? (i := 160) (by decide +kernel))) rfl)⟩
theorem fl_RX9_19 : tvFl RX9 19 9 3 := ⟨_, _, _, rfl, by decide, rfl, tvIn_9, rfl, Or.inl (tvgc (tvc_6 (List.mem_of_getElem? (i := 161) (by decide +kernel))) rfl)⟩
theorem fl_RX9_45 : tvFl RX9 45 9 4 := ⟨_, _, _, rfl, by decide, rfl, tvIn_9, rfl, Or.inl (tvgc (tvc_6 (List.mem_of_getElem? (i := 162) (by decide +kernel))) rfl)⟩
theorem fl_RX9_266 : tvFl RX9 266 9 8 := ⟨_, _, _, rfl, by decide, rfl, tvIn_9, rfl, Or.inl (tvgc (tvc_6 (List.mem_of_getElem? (i := 166) (by decide +kernel))) rfl)⟩
theorem fl_RX9_273 : tvFl RX9 273 9 9 := ⟨_, _, _, rfl, by decide, rfl, tvIn_9, rfl, Or.inl (tvgc (tvc_6 (List.mem_of_getElem? (i := 167) (by decide +kernel))) rfl)⟩
theorem fw_9_4 : tvFw 9 4 := ⟨_, _, _, rfl, tyX9_ok, nmX9, rfl⟩
theorem fw_9_6 : tvFw 9 6 := ⟨_, _, _, rfl, tyX9_ok, nmX9, rfl⟩
theorem fw_9_7 : tvFw 9 7 := ⟨_, _, _, rfl, tyX9_ok, nmX9, rfl⟩
theorem fw_9_8 : tvFw 9 8 := ⟨_, _, _, rfl, tyX9_ok, nmX9, rfl⟩
theorem fw_9_9 : tvFw 9 9 := ⟨_, _, _, rfl, tyX9_ok, nmX9, rfl⟩
theorem fw_9_10 : tvFw 9 10 := ⟨_, _, _, rfl, tyX9_ok, nmX9, rfl⟩
theorem ml_RX9_41 : Cond.methodLink RX9 41 yX9_copies ∈ tvGW := tvgc (tvc_6 (List.mem_of_getElem? (i := 225) (by decide +kernel))) rfl
theorem ml_RX9_48 : Cond.methodLink RX9 48 yX9_remembers ∈ tvGW := tvgc (tvc_7 (List.mem_of_getElem? (i := 7) (by decide +kernel))) rfl
theorem ml_RX9_70 : Cond.methodLink RX9 70 yX9_keeps ∈ tvGW := tvgc (tvc_6 (List.mem_of_getElem? (i := 221) (by decide +kernel))) rfl
theorem ml_RX9_77 : Cond.methodLink RX9 77 yX9_ends ∈ tvGW := tvgc (tvc_7 (List.mem_of_getElem? (i := 3) (by decide +kernel))) rfl
theorem ml_RX9_138 : Cond.methodLink RX9 138 yX9_endsTold ∈ tvGW := tvgc (tvc_7 (List.mem_of_getElem? (i := 92) (by decide +kernel))) rfl
theorem ml_RX9_190 : Cond.methodLink RX9 190 yX9_number ∈ tvGW := tvgc (tvc_8 (List.mem_of_getElem? (i := 40) (by decide +kernel))) rfl
theorem ml_RX9_193 : Cond.methodLink RX9 193 yX9_puts ∈ tvGW := tvgc (tvc_8 (List.mem_of_getElem? (i := 44) (by decide +kernel))) rfl
theorem ml_RX9_260 : Cond.methodLink RX9 260 yX9_isProgram ∈ tvGW := tvgc (tvc_8 (List.mem_of_getElem? (i := 64) (by decide +kernel))) rfl
theorem ml_RX9_263 : Cond.methodLink RX9 263 yX9_does ∈ tvGW := tvgc (tvc_8 (List.mem_of_getElem? (i := 120) (by decide +kernel))) rfl
theorem yk_X9_addBox : tvYk yX9_addBox cX9_addBox 4 (some .int) 3 := ⟨tvgc (tvc_7 (List.mem_of_getElem? (i := 14) (by decide +kernel))) rfl, tvgc (tvc_1 (List.mem_of_getElem? (i := 10) (by decide +kernel))) rfl, by decide +kernel, by decide +kernel, plainFor_of_name (by decide +kernel)⟩
theorem yi_X9_addBox : tvYi yX9_addBox := ⟨tvgc (tvc_7 (List.mem_of_getElem? (i := 12) (by decide +kernel))) rfl, tvgc (tvc_7 (List.mem_of_getElem? (i := 13) (by decide +kernel))) rfl⟩
theorem yk_X9_addHolder : tvYk yX9_addHolder cX9_addHolder 2 (some .int) 1 := ⟨tvgc (tvc_6 (List.mem_of_getElem? (i := 220) (by decide +kernel))) rfl, tvgc (tvc_1 (List.mem_of_getElem? (i := 10) (by decide +kernel))) rfl, by decide +kernel, by decide +kernel, plainFor_of_name (by decide +kernel)⟩
theorem yi_X9_addHolder : tvYi yX9_addHolder := ⟨tvgc (tvc_6 (List.mem_of_getElem? (i := 218) (by decide +kernel))) rfl, tvgc (tvc_6 (List.mem_of_getElem? (i := 219) (by decide +kernel))) rfl⟩
theorem yk_X9_changeCode : tvYk yX9_changeCode cX9_changeCode 4 (some .int) 3 := ⟨tvgc (tvc_7 (List.mem_of_getElem? (i := 99) (by decide +kernel))) rfl, tvgc (tvc_1 (List.mem_of_getElem? (i := 10) (by decide +kernel))) rfl, by decide +kernel, by decide +kernel, plainFor_of_name (by decide +kernel)⟩
theorem yi_X9_changeCode : tvYi yX9_changeCode := ⟨tvgc (tvc_7 (List.mem_of_getElem? (i := 97) (by decide +kernel))) rfl, tvgc (tvc_7 (List.mem_of_getElem? (i := 98) (by decide +kernel))) rfl⟩
theorem yk_X9_close : tvYk yX9_close cX9_close 2 (some .int) 1 := ⟨tvgc (tvc_7 (List.mem_of_getElem? (i := 123) (by decide +kernel))) rfl, tvgc (tvc_1 (List.mem_of_getElem? (i := 10) (by decide +kernel))) rfl, by decide +kernel, by decide +kernel, plainFor_of_name (by decide +kernel)⟩
theorem yi_X9_close : tvYi yX9_close := ⟨tvgc (tvc_7 (List.mem_of_getElem? (i := 121) (by decide +kernel))) rfl, tvgc (tvc_7 (List.mem_of_getElem? (i := 122) (by decide +kernel))) rfl⟩
theorem yk_X9_copies : tvYk yX9_copies cX9_copies 5 none 4 := ⟨tvgc (tvc_6 (List.mem_of_getElem? (i := 227) (by decide +kernel))) rfl, tvgc (tvc_1 (List.mem_of_getElem? (i := 10) (by decide +kernel))) rfl, by decide +kernel, by decide +kernel, plainFor_of_name (by decide +kernel)⟩
theorem yi_X9_copies : Cond.static yX9_copies ∈ tvGW := tvgc (tvc_6 (List.mem_of_getElem? (i := 226) (by decide +kernel))) rfl
theorem yk_X9_deposit : tvYk yX9_deposit cX9_deposit 3 (some .int) 2 := ⟨tvgc (tvc_7 (List.mem_of_getElem? (i := 107) (by decide +kernel))) rfl, tvgc (tvc_1 (List.mem_of_getElem? (i := 10) (by decide +kernel))) rfl, by decide +kernel, by decide +kernel, plainFor_of_name (by decide +kernel)⟩
theorem yi_X9_deposit : tvYi yX9_deposit := ⟨tvgc (tvc_7 (List.mem_of_getElem? (i := 105) (by decide +kernel))) rfl, tvgc (tvc_7 (List.mem_of_getElem? (i := 106) (by decide +kernel))) rfl⟩
theorem yk_X9_ends : tvYk yX9_ends cX9_ends 2 (some .int) 1 := ⟨tvgc (tvc_7 (List.mem_of_getElem? (i := 6) (by decide +kernel))) rfl, tvgc (tvc_1 (List.mem_of_getElem? (i := 10) (by decide +kernel))) rfl, by decide +kernel, by decide +kernel, plainFor_of_name (by decide +kernel)⟩
theorem yi_X9_ends : tvYi yX9_ends := ⟨tvgc (tvc_7 (List.mem_of_getElem? (i := 5) (by decide +kernel))) rfl, tvg 32 (by decide +kernel) rfl⟩
theorem yk_X9_endsTold : tvYk yX9_endsTold cX9_endsTold 2 (some .int) 1 := ⟨tvgc (tvc_7 (List.mem_of_getElem? (i := 95) (by decide +kernel))) rfl, tvgc (tvc_1 (List.mem_of_getElem? (i := 10) (by decide +kernel))) rfl, by decide +kernel, by decide +kernel, plainFor_of_name (by decide +kernel)⟩
theorem yi_X9_endsTold : tvYi yX9_endsTold := ⟨tvgc (tvc_7 (List.mem_of_getElem? (i := 94) (by decide +kernel))) rfl, tvg 50 (by decide +kernel) rfl⟩
theorem yk_X9_keeps : tvYk yX9_keeps cX9_keeps 1 none 0 := ⟨tvgc (tvc_6 (List.mem_of_getElem? (i := 224) (by decide +kernel))) rfl, tvgc (tvc_1 (List.mem_of_getElem? (i := 10) (by decide +kernel))) rfl, by decide +kernel, by decide +kernel, plainFor_of_name (by decide +kernel)⟩
theorem yi_X9_keeps : tvYi yX9_keeps := ⟨tvgc (tvc_6 (List.mem_of_getElem? (i := 223) (by decide +kernel))) rfl, tvg 28 (by decide +kernel) rfl⟩
theorem yk_X9_number : tvYk yX9_number cX9_number 2 none 1 := ⟨tvgc (tvc_8 (List.mem_of_getElem? (i := 43) (by decide +kernel))) rfl, tvgc (tvc_1 (List.mem_of_getElem? (i := 10) (by decide +kernel))) rfl, by decide +kernel, by decide +kernel, plainFor_of_name (by decide +kernel)⟩
theorem yi_X9_number : tvYi yX9_number := ⟨tvgc (tvc_8 (List.mem_of_getElem? (i := 42) (by decide +kernel))) rfl, tvg 62 (by decide +kernel) rfl⟩
theorem yk_X9_pass : tvYk yX9_pass cX9_pass 2 (some .int) 1 := ⟨tvgc (tvc_7 (List.mem_of_getElem? (i := 135) (by decide +kernel))) rfl, tvgc (tvc_1 (List.mem_of_getElem? (i := 10) (by decide +kernel))) rfl, by decide +kernel, by decide +kernel, plainFor_of_name (by decide +kernel)⟩
theorem yi_X9_pass : tvYi yX9_pass := ⟨tvgc (tvc_7 (List.mem_of_getElem? (i := 133) (by decide +kernel))) rfl, tvgc (tvc_7 (List.mem_of_getElem? (i := 134) (by decide +kernel))) rfl⟩
theorem yk_X9_remembers : tvYk yX9_remembers cX9_remembers 2 none 0 := ⟨tvgc (tvc_7 (List.mem_of_getElem? (i := 10) (by decide +kernel))) rfl, tvgc (tvc_1 (List.mem_of_getElem? (i := 10) (by decide +kernel))) rfl, by decide +kernel, by decide +kernel, plainFor_of_name (by decide +kernel)⟩
theorem yi_X9_remembers : tvYi yX9_remembers := ⟨tvgc (tvc_7 (List.mem_of_getElem? (i := 9) (by decide +kernel))) rfl, tvg 33 (by decide +kernel) rfl⟩
theorem yk_X9_restore : tvYk yX9_restore cX9_restore 1 (some .int) 0 := ⟨tvgc (tvc_8 (List.mem_of_getElem? (i := 147) (by decide +kernel))) rfl, tvgc (tvc_1 (List.mem_of_getElem? (i := 10) (by decide +kernel))) rfl, by decide +kernel, by decide +kernel, plainFor_of_name (by decide +kernel)⟩
theorem yi_X9_restore : tvYi yX9_restore := ⟨tvgc (tvc_8 (List.mem_of_getElem? (i := 145) (by decide +kernel))) rfl, tvgc (tvc_8 (List.mem_of_getElem? (i := 146) (by decide +kernel))) rfl⟩
theorem yk_X9_run : tvYk yX9_run cX9_run 3 (some .int) 0 := ⟨tvgc (tvc_8 (List.mem_of_getElem? (i := 63) (by decide +kernel))) rfl, tvgc (tvc_1 (List.mem_of_getElem? (i := 10) (by decide +kernel))) rfl, by decide +kernel, by decide +kernel, plainFor_of_name (by decide +kernel)⟩
theorem yi_X9_run : tvYi yX9_run := ⟨tvgc (tvc_8 (List.mem_of_getElem? (i := 61) (by decide +kernel))) rfl, tvgc (tvc_8 (List.mem_of_getElem? (i := 62) (by decide +kernel))) rfl⟩
theorem yk_X9_save : tvYk yX9_save cX9_save 1 (some .int) 0 := ⟨tvgc (tvc_8 (List.mem_of_getElem? (i := 143) (by decide +kernel))) rfl, tvgc (tvc_1 (List.mem_of_getElem? (i := 10) (by decide +kernel))) rfl, by decide +kernel, by decide +kernel, plainFor_of_name (by decide +kernel)⟩
theorem yi_X9_save : tvYi yX9_save := ⟨tvgc (tvc_8 (List.mem_of_getElem? (i := 141) (by decide +kernel))) rfl, tvgc (tvc_8 (List.mem_of_getElem? (i := 142) (by decide +kernel))) rfl⟩
theorem yk_X9_setTide : tvYk yX9_setTide cX9_setTide 3 (some .int) 2 := ⟨tvgc (tvc_7 (List.mem_of_getElem? (i := 30) (by decide +kernel))) rfl, tvgc (tvc_1 (List.mem_of_getElem? (i := 10) (by decide +kernel))) rfl, by decide +kernel, by decide +kernel, plainFor_of_name (by decide +kernel)⟩
theorem yi_X9_setTide : tvYi yX9_setTide := ⟨tvgc (tvc_7 (List.mem_of_getElem? (i := 28) (by decide +kernel))) rfl, tvgc (tvc_7 (List.mem_of_getElem? (i := 29) (by decide +kernel))) rfl⟩
theorem yk_X9_turnKey : tvYk yX9_turnKey cX9_turnKey 4 (some .char) 3 := ⟨tvgc (tvc_7 (List.mem_of_getElem? (i := 38) (by decide +kernel))) rfl, tvgc (tvc_1 (List.mem_of_getElem? (i := 10) (by decide +kernel))) rfl, by decide +kernel, by decide +kernel, plainFor_of_name (by decide +kernel)⟩
theorem yi_X9_turnKey : tvYi yX9_turnKey := ⟨tvgc (tvc_7 (List.mem_of_getElem? (i := 36) (by decide +kernel))) rfl, tvgc (tvc_7 (List.mem_of_getElem? (i := 37) (by decide +kernel))) rfl⟩
theorem yk_X9_undo : tvYk yX9_undo cX9_undo 1 (some .int) 0 := ⟨tvgc (tvc_8 (List.mem_of_getElem? (i := 139) (by decide +kernel))) rfl, tvgc (tvc_1 (List.mem_of_getElem? (i := 10) (by decide +kernel))) rfl, by decide +kernel, by decide +kernel, plainFor_of_name (by decide +kernel)⟩
theorem yi_X9_undo : tvYi yX9_undo := ⟨tvgc (tvc_8 (List.mem_of_getElem? (i := 137) (by decide +kernel))) rfl, tvgc (tvc_8 (List.mem_of_getElem? (i := 138) (by decide +kernel))) rfl⟩
theorem yk_X9_withdraw : tvYk yX9_withdraw cX9_withdraw 2 (some .int) 1 := ⟨tvgc (tvc_7 (List.mem_of_getElem? (i := 115) (by decide +kernel))) rfl, tvgc (tvc_1 (List.mem_of_getElem? (i := 10) (by decide +kernel))) rfl, by decide +kernel, by decide +kernel, plainFor_of_name (by decide +kernel)⟩
theorem yi_X9_withdraw : tvYi yX9_withdraw := ⟨tvgc (tvc_7 (List.mem_of_getElem? (i := 113) (by decide +kernel))) rfl, tvgc (tvc_7 (List.mem_of_getElem? (i := 114) (by decide +kernel))) rfl⟩
theorem yk_X9_writeBox : tvYk yX9_writeBox cX9_writeBox 3 (some .int) 1 := ⟨tvgc (tvc_8 (List.mem_of_getElem? (i := 39) (by decide +kernel))) rfl, tvgc (tvc_1 (List.mem_of_getElem? (i := 10) (by decide +kernel))) rfl, by decide +kernel, by decide +kernel, plainFor_of_name (by decide +kernel)⟩
theorem yi_X9_writeBox : tvYi yX9_writeBox := ⟨tvgc (tvc_8 (List.mem_of_getElem? (i := 37) (by decide +kernel))) rfl, tvgc (tvc_8 (List.mem_of_getElem? (i := 38) (by decide +kernel))) rfl⟩
theorem yk_X9_writeEvents : tvYk yX9_writeEvents cX9_writeEvents 2 (some .int) 0 := ⟨tvgc (tvc_8 (List.mem_of_getElem? (i := 51) (by decide +kernel))) rfl, tvgc (tvc_1 (List.mem_of_getElem? (i := 10) (by decide +kernel))) rfl, by decide +kernel, by decide +kernel, plainFor_of_name (by decide +kernel)⟩
theorem yi_X9_writeEvents : tvYi yX9_writeEvents := ⟨tvgc (tvc_8 (List.mem_of_getElem? (i := 49) (by decide +kernel))) rfl, tvgc (tvc_8 (List.mem_of_getElem? (i := 50) (by decide +kernel))) rfl⟩
def dl_X9_addBox : List (Nat × Instr × Nat) := [(0, .aload_n 0, 1), (1, .invokevirtual 70, 3), (4, .aload_n 0, 1), (5, .aload_n 0, 1), (6, .iload_n 1, 1), (7, .iload_n 2, 1), (8, .iload_n 3, 1), (9, .invokevirtual 87, 3), (12, .invokevirtual 77, 3), (15, .ireturn, 1)]
theorem dlk_X9_addBox : tvDl cX9_addBox dl_X9_addBox = true := by decide +kernel
theorem dk_X9_addBox_0 : tvD cX9_addBox 0 (.aload_n 0) 1 1 := tvDl_get dlk_X9_addBox 0 rfl rfl
theorem dk_X9_addBox_1 : tvD cX9_addBox 1 (.invokevirtual 70) 3 4 := tvDl_get dlk_X9_addBox 1 rfl rfl
theorem dk_X9_addBox_4 : tvD cX9_addBox 4 (.aload_n 0) 1 5 := tvDl_get dlk_X9_addBox 2 rfl rfl
theorem dk_X9_addBox_5 : tvD cX9_addBox 5 (.aload_n 0) 1 6 := tvDl_get dlk_X9_addBox 3 rfl rfl
theorem dk_X9_addBox_6 : tvD cX9_addBox 6 (.iload_n 1) 1 7 := tvDl_get dlk_X9_addBox 4 rfl rfl
theorem dk_X9_addBox_7 : tvD cX9_addBox 7 (.iload_n 2) 1 8 := tvDl_get dlk_X9_addBox 5 rfl rfl
theorem dk_X9_addBox_8 : tvD cX9_addBox 8 (.iload_n 3) 1 9 := tvDl_get dlk_X9_addBox 6 rfl rfl
theorem dk_X9_addBox_9 : tvD cX9_addBox 9 (.invokevirtual 87) 3 12 := tvDl_get dlk_X9_addBox 7 rfl rfl
theorem dk_X9_addBox_12 : tvD cX9_addBox 12 (.invokevirtual 77) 3 15 := tvDl_get dlk_X9_addBox 8 rfl rfl
theorem dk_X9_addBox_15 : tvD cX9_addBox 15 (.ireturn) 1 16 := tvDl_get dlk_X9_addBox 9 rfl rfl
def dl_X9_addHolder : List (Nat × Instr × Nat) := [(0, .aload_n 0, 1), (1, .invokevirtual 70, 3), (4, .aload_n 0, 1), (5, .aload_n 0, 1), (6, .iload_n 1, 1), (7, .invokevirtual 73, 3), (10, .invokevirtual 77, 3), (13, .ireturn, 1)]
theorem dlk_X9_addHolder : tvDl cX9_addHolder dl_X9_addHolder = true := by decide +kernel
theorem dk_X9_addHolder_0 : tvD cX9_addHolder 0 (.aload_n 0) 1 1 := tvDl_get dlk_X9_addHolder 0 rfl rfl
theorem dk_X9_addHolder_1 : tvD cX9_addHolder 1 (.invokevirtual 70) 3 4 := tvDl_get dlk_X9_addHolder 1 rfl rfl
theorem dk_X9_addHolder_4 : tvD cX9_addHolder 4 (.aload_n 0) 1 5 := tvDl_get dlk_X9_addHolder 2 rfl rfl
theorem dk_X9_addHolder_5 : tvD cX9_addHolder 5 (.aload_n 0) 1 6 := tvDl_get dlk_X9_addHolder 3 rfl rfl
theorem dk_X9_addHolder_6 : tvD cX9_addHolder 6 (.iload_n 1) 1 7 := tvDl_get dlk_X9_addHolder 4 rfl rfl
theorem dk_X9_addHolder_7 : tvD cX9_addHolder 7 (.invokevirtual 73) 3 10 := tvDl_get dlk_X9_addHolder 5 rfl rfl
theorem dk_X9_addHolder_10 : tvD cX9_addHolder 10 (.invokevirtual 77) 3 13 := tvDl_get dlk_X9_addHolder 6 rfl rfl
theorem dk_X9_addHolder_13 : tvD cX9_addHolder 13 (.ireturn) 1 14 := tvDl_get dlk_X9_addHolder 7 rfl rfl
def dl_X9_changeCode : List (Nat × Instr × Nat) := [(0, .aload_n 0, 1), (1, .invokevirtual 70, 3), (4, .aload_n 0, 1), (5, .aload_n 0, 1), (6, .iload_n 1, 1), (7, .iload_n 2, 1), (8, .iload_n 3, 1), (9, .invokevirtual 141, 3), (12, .invokevirtual 138, 3), (15, .ireturn, 1)]
theorem dlk_X9_changeCode : tvDl cX9_changeCode dl_X9_changeCode = true := by decide +kernel
theorem dk_X9_changeCode_0 : tvD cX9_changeCode 0 (.aload_n 0) 1 1 := tvDl_get dlk_X9_changeCode 0 rfl rfl
theorem dk_X9_changeCode_1 : tvD cX9_changeCode 1 (.invokevirtual 70) 3 4 := tvDl_get dlk_X9_changeCode 1 rfl rfl
theorem dk_X9_changeCode_4 : tvD cX9_changeCode 4 (.aload_n 0) 1 5 := tvDl_get dlk_X9_changeCode 2 rfl rfl
theorem dk_X9_changeCode_5 : tvD cX9_changeCode 5 (.aload_n 0) 1 6 := tvDl_get dlk_X9_changeCode 3 rfl rfl
theorem dk_X9_changeCode_6 : tvD cX9_changeCode 6 (.iload_n 1) 1 7 := tvDl_get dlk_X9_changeCode 4 rfl rfl
theorem dk_X9_changeCode_7 : tvD cX9_changeCode 7 (.iload_n 2) 1 8 := tvDl_get dlk_X9_changeCode 5 rfl rfl
theorem dk_X9_changeCode_8 : tvD cX9_changeCode 8 (.iload_n 3) 1 9 := tvDl_get dlk_X9_changeCode 6 rfl rfl
theorem dk_X9_changeCode_9 : tvD cX9_changeCode 9 (.invokevirtual 141) 3 12 := tvDl_get dlk_X9_changeCode 7 rfl rfl
theorem dk_X9_changeCode_12 : tvD cX9_changeCode 12 (.invokevirtual 138) 3 15 := tvDl_get dlk_X9_changeCode 8 rfl rfl
theorem dk_X9_changeCode_15 : tvD cX9_changeCode 15 (.ireturn) 1 16 := tvDl_get dlk_X9_changeCode 9 rfl rfl
def dl_X9_close : List (Nat × Instr × Nat) := [(0, .aload_n 0, 1), (1, .invokevirtual 70, 3), (4, .aload_n 0, 1), (5, .aload_n 0, 1), (6, .iload_n 1, 1), (7, .invokevirtual 153, 3), (10, .invokevirtual 77, 3), (13, .ireturn, 1)]
theorem dlk_X9_close : tvDl cX9_close dl_X9_close = true := by decide +kernel
theorem dk_X9_close_0 : tvD cX9_close 0 (.aload_n 0) 1 1 := tvDl_get dlk_X9_close 0 rfl rfl
theorem dk_X9_close_1 : tvD cX9_close 1 (.invokevirtual 70) 3 4 := tvDl_get dlk_X9_close 1 rfl rfl
theorem dk_X9_close_4 : tvD cX9_close 4 (.aload_n 0) 1 5 := tvDl_get dlk_X9_close 2 rfl rfl
theorem dk_X9_close_5 : tvD cX9_close 5 (.aload_n 0) 1 6 := tvDl_get dlk_X9_close 3 rfl rfl
theorem dk_X9_close_6 : tvD cX9_close 6 (.iload_n 1) 1 7 := tvDl_get dlk_X9_close 4 rfl rfl
theorem dk_X9_close_7 : tvD cX9_close 7 (.invokevirtual 153) 3 10 := tvDl_get dlk_X9_close 5 rfl rfl
theorem dk_X9_close_10 : tvD cX9_close 10 (.invokevirtual 77) 3 13 := tvDl_get dlk_X9_close 6 rfl rfl
theorem dk_X9_close_13 : tvD cX9_close 13 (.ireturn) 1 14 := tvDl_get dlk_X9_close 7 rfl rfl
def dl_X9_copies : List (Nat × Instr × Nat) := [(0, .iconst 0, 1), (1, .istore 4, 2), (3, .iload 4, 2), (5, .sipush 202, 3), (8, .if_icmp .ge 21, 3), (11, .aload_n 2, 1), (12, .iload_n 3, 1), (13, .iload 4, 2), (15, .iadd, 1), (16, .aload_n 0, 1), (17, .iload_n 1, 1), (18, .iload 4, 2), (20, .iadd, 1), (21, .iaload, 1), (22, .iastore, 1), (23, .iinc 4 1, 3), (26, .goto (-23), 3), (29, .return_, 1)]
theorem dlk_X9_copies : tvDl cX9_copies dl_X9_copies = true := by decide +kernel
theorem dk_X9_copies_0 : tvD cX9_copies 0 (.iconst 0) 1 1 := tvDl_get dlk_X9_copies 0 rfl rfl
theorem dk_X9_copies_1 : tvD cX9_copies 1 (.istore 4) 2 3 := tvDl_get dlk_X9_copies 1 rfl rfl
theorem dk_X9_copies_3 : tvD cX9_copies 3 (.iload 4) 2 5 := tvDl_get dlk_X9_copies 2 rfl rfl
theorem dk_X9_copies_5 : tvD cX9_copies 5 (.sipush 202) 3 8 := tvDl_get dlk_X9_copies 3 rfl rfl
theorem dk_X9_copies_8 : tvJ cX9_copies 8 (.if_icmp .ge) 29 11 := tvJl_get dlk_X9_copies 4 rfl (by decide) rfl
theorem dk_X9_copies_11 : tvD cX9_copies 11 (.aload_n 2) 1 12 := tvDl_get dlk_X9_copies 5 rfl rfl
theorem dk_X9_copies_12 : tvD cX9_copies 12 (.iload_n 3) 1 13 := tvDl_get dlk_X9_copies 6 rfl rfl
theorem dk_X9_copies_13 : tvD cX9_copies 13 (.iload 4) 2 15 := tvDl_get dlk_X9_copies 7 rfl rfl
theorem dk_X9_copies_15 : tvD cX9_copies 15 (.iadd) 1 16 := tvDl_get dlk_X9_copies 8 rfl rfl
theorem dk_X9_copies_16 : tvD cX9_copies 16 (.aload_n 0) 1 17 := tvDl_get dlk_X9_copies 9 rfl rfl
theorem dk_X9_copies_17 : tvD cX9_copies 17 (.iload_n 1) 1 18 := tvDl_get dlk_X9_copies 10 rfl rfl
theorem dk_X9_copies_18 : tvD cX9_copies 18 (.iload 4) 2 20 := tvDl_get dlk_X9_copies 11 rfl rfl
theorem dk_X9_copies_20 : tvD cX9_copies 20 (.iadd) 1 21 := tvDl_get dlk_X9_copies 12 rfl rfl
theorem dk_X9_copies_21 : tvD cX9_copies 21 (.iaload) 1 22 := tvDl_get dlk_X9_copies 13 rfl rfl
theorem dk_X9_copies_22 : tvD cX9_copies 22 (.iastore) 1 23 := tvDl_get dlk_X9_copies 14 rfl rfl
theorem dk_X9_copies_23 : tvD cX9_copies 23 (.iinc 4 1) 3 26 := tvDl_get dlk_X9_copies 15 rfl rfl
theorem dk_X9_copies_26 : tvJ cX9_copies 26 .goto 3 29 := tvJl_get dlk_X9_copies 16 rfl (by decide) rfl
theorem dk_X9_copies_29 : tvD cX9_copies 29 (.return_) 1 30 := tvDl_get dlk_X9_copies 17 rfl rfl
def dl_X9_deposit : List (Nat × Instr × Nat) := [(0, .aload_n 0, 1), (1, .invokevirtual 70, 3), (4, .aload_n 0, 1), (5, .aload_n 0, 1), (6, .iload_n 1, 1), (7, .iload_n 2, 1), (8, .invokevirtual 144, 3), (11, .invokevirtual 77, 3), (14, .ireturn, 1)]
theorem dlk_X9_deposit : tvDl cX9_deposit dl_X9_deposit = true := by decide +kernel
theorem dk_X9_deposit_0 : tvD cX9_deposit 0 (.aload_n 0) 1 1 := tvDl_get dlk_X9_deposit 0 rfl rfl
theorem dk_X9_deposit_1 : tvD cX9_deposit 1 (.invokevirtual 70) 3 4 := tvDl_get dlk_X9_deposit 1 rfl rfl
theorem dk_X9_deposit_4 : tvD cX9_deposit 4 (.aload_n 0) 1 5 := tvDl_get dlk_X9_deposit 2 rfl rfl
theorem dk_X9_deposit_5 : tvD cX9_deposit 5 (.aload_n 0) 1 6 := tvDl_get dlk_X9_deposit 3 rfl rfl
theorem dk_X9_deposit_6 : tvD cX9_deposit 6 (.iload_n 1) 1 7 := tvDl_get dlk_X9_deposit 4 rfl rfl
theorem dk_X9_deposit_7 : tvD cX9_deposit 7 (.iload_n 2) 1 8 := tvDl_get dlk_X9_deposit 5 rfl rfl
theorem dk_X9_deposit_8 : tvD cX9_deposit 8 (.invokevirtual 144) 3 11 := tvDl_get dlk_X9_deposit 6 rfl rfl
theorem dk_X9_deposit_11 : tvD cX9_deposit 11 (.invokevirtual 77) 3 14 := tvDl_get dlk_X9_deposit 7 rfl rfl
theorem dk_X9_deposit_14 : tvD cX9_deposit 14 (.ireturn) 1 15 := tvDl_get dlk_X9_deposit 8 rfl rfl
def dl_X9_ends : List (Nat × Instr × Nat) := [(0, .aload_n 0, 1), (1, .getfield 38, 3), (4, .ifCond .eq 5, 3), (7, .iconst 0, 1), (8, .ireturn, 1), (9, .aload_n 0, 1), (10, .invokevirtual 48, 3), (13, .iload_n 1, 1), (14, .ireturn, 1)]
theorem dlk_X9_ends : tvDl cX9_ends dl_X9_ends = true := by decide +kernel
theorem dk_X9_ends_0 : tvD cX9_ends 0 (.aload_n 0) 1 1 := tvDl_get dlk_X9_ends 0 rfl rfl
theorem dk_X9_ends_1 : tvD cX9_ends 1 (.getfield 38) 3 4 := tvDl_get dlk_X9_ends 1 rfl rfl
theorem dk_X9_ends_4 : tvJ cX9_ends 4 (.ifCond .eq) 9 7 := tvJl_get dlk_X9_ends 2 rfl (by decide) rfl
theorem dk_X9_ends_7 : tvD cX9_ends 7 (.iconst 0) 1 8 := tvDl_get dlk_X9_ends 3 rfl rfl
theorem dk_X9_ends_8 : tvD cX9_ends 8 (.ireturn) 1 9 := tvDl_get dlk_X9_ends 4 rfl rfl
theorem dk_X9_ends_9 : tvD cX9_ends 9 (.aload_n 0) 1 10 := tvDl_get dlk_X9_ends 5 rfl rfl
theorem dk_X9_ends_10 : tvD cX9_ends 10 (.invokevirtual 48) 3 13 := tvDl_get dlk_X9_ends 6 rfl rfl
theorem dk_X9_ends_13 : tvD cX9_ends 13 (.iload_n 1) 1 14 := tvDl_get dlk_X9_ends 7 rfl rfl
theorem dk_X9_ends_14 : tvD cX9_ends 14 (.ireturn) 1 15 := tvDl_get dlk_X9_ends 8 rfl rfl
def dl_X9_endsTold : List (Nat × Instr × Nat) := [(0, .aload_n 0, 1), (1, .getfield 38, 3), (4, .ifCond .eq 11, 3), (7, .aload_n 0, 1), (8, .getfield 38, 3), (11, .iconst 4, 1), (12, .if_icmp .ne 7, 3), (15, .aload_n 0, 1), (16, .invokevirtual 48, 3), (19, .aload_n 0, 1), (20, .getfield 38, 3), (23, .ifCond .ne 7, 3), (26, .iload_n 1, 1), (27, .goto 4, 3), (30, .iconst 0, 1), (31, .ireturn, 1)]
theorem dlk_X9_endsTold : tvDl cX9_endsTold dl_X9_endsTold = true := by decide +kernel
theorem dk_X9_endsTold_0 : tvD cX9_endsTold 0 (.aload_n 0) 1 1 := tvDl_get dlk_X9_endsTold 0 rfl rfl
theorem dk_X9_endsTold_1 : tvD cX9_endsTold 1 (.getfield 38) 3 4 := tvDl_get dlk_X9_endsTold 1 rfl rfl
theorem dk_X9_endsTold_4 : tvJ cX9_endsTold 4 (.ifCond .eq) 15 7 := tvJl_get dlk_X9_endsTold 2 rfl (by decide) rfl
theorem dk_X9_endsTold_7 : tvD cX9_endsTold 7 (.aload_n 0) 1 8 := tvDl_get dlk_X9_endsTold 3 rfl rfl
theorem dk_X9_endsTold_8 : tvD cX9_endsTold 8 (.getfield 38) 3 11 := tvDl_get dlk_X9_endsTold 4 rfl rfl
theorem dk_X9_endsTold_11 : tvD cX9_endsTold 11 (.iconst 4) 1 12 := tvDl_get dlk_X9_endsTold 5 rfl rfl
theorem dk_X9_endsTold_12 : tvJ cX9_endsTold 12 (.if_icmp .ne) 19 15 := tvJl_get dlk_X9_endsTold 6 rfl (by decide) rfl
theorem dk_X9_endsTold_15 : tvD cX9_endsTold 15 (.aload_n 0) 1 16 := tvDl_get dlk_X9_endsTold 7 rfl rfl
theorem dk_X9_endsTold_16 : tvD cX9_endsTold 16 (.invokevirtual 48) 3 19 := tvDl_get dlk_X9_endsTold 8 rfl rfl
theorem dk_X9_endsTold_19 : tvD cX9_endsTold 19 (.aload_n 0) 1 20 := tvDl_get dlk_X9_endsTold 9 rfl rfl
theorem dk_X9_endsTold_20 : tvD cX9_endsTold 20 (.getfield 38) 3 23 := tvDl_get dlk_X9_endsTold 10 rfl rfl
theorem dk_X9_endsTold_23 : tvJ cX9_endsTold 23 (.ifCond .ne) 30 26 := tvJl_get dlk_X9_endsTold 11 rfl (by decide) rfl
theorem dk_X9_endsTold_26 : tvD cX9_endsTold 26 (.iload_n 1) 1 27 := tvDl_get dlk_X9_endsTold 12 rfl rfl
theorem dk_X9_endsTold_27 : tvJ cX9_endsTold 27 .goto 31 30 := tvJl_get dlk_X9_endsTold 13 rfl (by decide) rfl
theorem dk_X9_endsTold_30 : tvD cX9_endsTold 30 (.iconst 0) 1 31 := tvDl_get dlk_X9_endsTold 14 rfl rfl
theorem dk_X9_endsTold_31 : tvD cX9_endsTold 31 (.ireturn) 1 32 := tvDl_get dlk_X9_endsTold 15 rfl rfl
def dl_X9_keeps : List (Nat × Instr × Nat) := [(0, .aload_n 0, 1), (1, .getfield 9, 3), (4, .iconst 0, 1), (5, .aload_n 0, 1), (6, .getfield 13, 3), (9, .iconst 0, 1), (10, .invokestatic 41, 3), (13, .aload_n 0, 1), (14, .iconst 0, 1), (15, .putfield 38, 3), (18, .return_, 1)]
theorem dlk_X9_keeps : tvDl cX9_keeps dl_X9_keeps = true := by decide +kernel
theorem dk_X9_keeps_0 : tvD cX9_keeps 0 (.aload_n 0) 1 1 := tvDl_get dlk_X9_keeps 0 rfl rfl
theorem dk_X9_keeps_1 : tvD cX9_keeps 1 (.getfield 9) 3 4 := tvDl_get dlk_X9_keeps 1 rfl rfl
theorem dk_X9_keeps_4 : tvD cX9_keeps 4 (.iconst 0) 1 5 := tvDl_get dlk_X9_keeps 2 rfl rfl
theorem dk_X9_keeps_5 : tvD cX9_keeps 5 (.aload_n 0) 1 6 := tvDl_get dlk_X9_keeps 3 rfl rfl
theorem dk_X9_keeps_6 : tvD cX9_keeps 6 (.getfield 13) 3 9 := tvDl_get dlk_X9_keeps 4 rfl rfl
theorem dk_X9_keeps_9 : tvD cX9_keeps 9 (.iconst 0) 1 10 := tvDl_get dlk_X9_keeps 5 rfl rfl
theorem dk_X9_keeps_10 : tvD cX9_keeps 10 (.invokestatic 41) 3 13 := tvDl_get dlk_X9_keeps 6 rfl rfl
theorem dk_X9_keeps_13 : tvD cX9_keeps 13 (.aload_n 0) 1 14 := tvDl_get dlk_X9_keeps 7 rfl rfl
theorem dk_X9_keeps_14 : tvD cX9_keeps 14 (.iconst 0) 1 15 := tvDl_get dlk_X9_keeps 8 rfl rfl
theorem dk_X9_keeps_15 : tvD cX9_keeps 15 (.putfield 38) 3 18 := tvDl_get dlk_X9_keeps 9 rfl rfl
theorem dk_X9_keeps_18 : tvD cX9_keeps 18 (.return_) 1 19 := tvDl_get dlk_X9_keeps 10 rfl rfl
def dl_X9_number : List (Nat × Instr × Nat) := [(0, .iload_n 1, 1), (1, .bipush 10, 2), (3, .if_icmp .lt 11, 3), (6, .aload_n 0, 1), (7, .iload_n 1, 1), (8, .bipush 10, 2), (10, .idiv, 1), (11, .invokevirtual 190, 3), (14, .aload_n 0, 1), (15, .bipush 48, 2), (17, .iload_n 1, 1), (18, .bipush 10, 2), (20, .irem, 1), (21, .iadd, 1), (22, .invokevirtual 193, 3), (25, .return_, 1)]
theorem dlk_X9_number : tvDl cX9_number dl_X9_number = true := by decide +kernel
theorem dk_X9_number_0 : tvD cX9_number 0 (.iload_n 1) 1 1 := tvDl_get dlk_X9_number 0 rfl rfl
theorem dk_X9_number_1 : tvD cX9_number 1 (.bipush 10) 2 3 := tvDl_get dlk_X9_number 1 rfl rfl
theorem dk_X9_number_3 : tvJ cX9_number 3 (.if_icmp .lt) 14 6 := tvJl_get dlk_X9_number 2 rfl (by decide) rfl
theorem dk_X9_number_6 : tvD cX9_number 6 (.aload_n 0) 1 7 := tvDl_get dlk_X9_number 3 rfl rfl
theorem dk_X9_number_7 : tvD cX9_number 7 (.iload_n 1) 1 8 := tvDl_get dlk_X9_number 4 rfl rfl
theorem dk_X9_number_8 : tvD cX9_number 8 (.bipush 10) 2 10 := tvDl_get dlk_X9_number 5 rfl rfl
theorem dk_X9_number_10 : tvD cX9_number 10 (.idiv) 1 11 := tvDl_get dlk_X9_number 6 rfl rfl
theorem dk_X9_number_11 : tvD cX9_number 11 (.invokevirtual 190) 3 14 := tvDl_get dlk_X9_number 7 rfl rfl
theorem dk_X9_number_14 : tvD cX9_number 14 (.aload_n 0) 1 15 := tvDl_get dlk_X9_number 8 rfl rfl
theorem dk_X9_number_15 : tvD cX9_number 15 (.bipush 48) 2 17 := tvDl_get dlk_X9_number 9 rfl rfl
theorem dk_X9_number_17 : tvD cX9_number 17 (.iload_n 1) 1 18 := tvDl_get dlk_X9_number 10 rfl rfl
theorem dk_X9_number_18 : tvD cX9_number 18 (.bipush 10) 2 20 := tvDl_get dlk_X9_number 11 rfl rfl
theorem dk_X9_number_20 : tvD cX9_number 20 (.irem) 1 21 := tvDl_get dlk_X9_number 12 rfl rfl
theorem dk_X9_number_21 : tvD cX9_number 21 (.iadd) 1 22 := tvDl_get dlk_X9_number 13 rfl rfl
theorem dk_X9_number_22 : tvD cX9_number 22 (.invokevirtual 193) 3 25 := tvDl_get dlk_X9_number 14 rfl rfl
theorem dk_X9_number_25 : tvD cX9_number 25 (.return_) 1 26 := tvDl_get dlk_X9_number 15 rfl rfl
def dl_X9_pass : List (Nat × Instr × Nat) := [(0, .aload_n 0, 1), (1, .invokevirtual 70, 3), (4, .aload_n 0, 1), (5, .aload_n 0, 1), (6, .iload_n 1, 1), (7, .invokevirtual 162, 3), (10, .invokevirtual 77, 3), (13, .ireturn, 1)]
theorem dlk_X9_pass : tvDl cX9_pass dl_X9_pass = true := by decide +kernel
theorem dk_X9_pass_0 : tvD cX9_pass 0 (.aload_n 0) 1 1 := tvDl_get dlk_X9_pass 0 rfl rfl
theorem dk_X9_pass_1 : tvD cX9_pass 1 (.invokevirtual 70) 3 4 := tvDl_get dlk_X9_pass 1 rfl rfl
theorem dk_X9_pass_4 : tvD cX9_pass 4 (.aload_n 0) 1 5 := tvDl_get dlk_X9_pass 2 rfl rfl
theorem dk_X9_pass_5 : tvD cX9_pass 5 (.aload_n 0) 1 6 := tvDl_get dlk_X9_pass 3 rfl rfl
theorem dk_X9_pass_6 : tvD cX9_pass 6 (.iload_n 1) 1 7 := tvDl_get dlk_X9_pass 4 rfl rfl
theorem dk_X9_pass_7 : tvD cX9_pass 7 (.invokevirtual 162) 3 10 := tvDl_get dlk_X9_pass 5 rfl rfl
theorem dk_X9_pass_10 : tvD cX9_pass 10 (.invokevirtual 77) 3 13 := tvDl_get dlk_X9_pass 6 rfl rfl
theorem dk_X9_pass_13 : tvD cX9_pass 13 (.ireturn) 1 14 := tvDl_get dlk_X9_pass 7 rfl rfl
def dl_X9_remembers : List (Nat × Instr × Nat) := [(0, .aload_n 0, 1), (1, .getfield 45, 3), (4, .bipush 8, 2), (6, .if_icmp .ne 50, 3), (9, .iconst 1, 1), (10, .istore_n 1, 1), (11, .iload_n 1, 1), (12, .bipush 8, 2), (14, .if_icmp .ge 32, 3), (17, .aload_n 0, 1), (18, .getfield 19, 3), (21, .sipush 202, 3), (24, .iload_n 1, 1), (25, .imul, 1), (26, .aload_n 0, 1), (27, .getfield 19, 3), (30, .sipush 202, 3), (33, .iload_n 1, 1), (34, .iconst 1, 1), (35, .isub, 1), (36, .imul, 1), (37, .invokestatic 41, 3), (40, .iinc 1 1, 3), (43, .goto (-32), 3), (46, .aload_n 0, 1), (47, .dup, 1), (48, .getfield 45, 3), (51, .iconst 1, 1), (52, .isub, 1), (53, .putfield 45, 3), (56, .aload_n 0, 1), (57, .getfield 13, 3), (60, .iconst 0, 1), (61, .aload_n 0, 1), (62, .getfield 19, 3), (65, .sipush 202, 3), (68, .aload_n 0, 1), (69, .getfield 45, 3), (72, .imul, 1), (73, .invokestatic 41, 3), (76, .aload_n 0, 1), (77, .dup, 1), (78, .getfield 45, 3), (81, .iconst 1, 1), (82, .iadd, 1), (83, .putfield 45, 3), (86, .return_, 1)]
theorem dlk_X9_remembers : tvDl cX9_remembers dl_X9_remembers = true := by decide +kernel
theorem dk_X9_remembers_0 : tvD cX9_remembers 0 (.aload_n 0) 1 1 := tvDl_get dlk_X9_remembers 0 rfl rfl
theorem dk_X9_remembers_1 : tvD cX9_remembers 1 (.getfield 45) 3 4 := tvDl_get dlk_X9_remembers 1 rfl rfl
theorem dk_X9_remembers_4 : tvD cX9_remembers 4 (.bipush 8) 2 6 := tvDl_get dlk_X9_remembers 2 rfl rfl
theorem dk_X9_remembers_6 : tvJ cX9_remembers 6 (.if_icmp .ne) 56 9 := tvJl_get dlk_X9_remembers 3 rfl (by decide) rfl
theorem dk_X9_remembers_9 : tvD cX9_remembers 9 (.iconst 1) 1 10 := tvDl_get dlk_X9_remembers 4 rfl rfl
theorem dk_X9_remembers_10 : tvD cX9_remembers 10 (.istore_n 1) 1 11 := tvDl_get dlk_X9_remembers 5 rfl rfl
theorem dk_X9_remembers_11 : tvD cX9_remembers 11 (.iload_n 1) 1 12 := tvDl_get dlk_X9_remembers 6 rfl rfl
theorem dk_X9_remembers_12 : tvD cX9_remembers 12 (.bipush 8) 2 14 := tvDl_get dlk_X9_remembers 7 rfl rfl
theorem dk_X9_remembers_14 : tvJ cX9_remembers 14 (.if_icmp .ge) 46 17 := tvJl_get dlk_X9_remembers 8 rfl (by decide) rfl
theorem dk_X9_remembers_17 : tvD cX9_remembers 17 (.aload_n 0) 1 18 := tvDl_get dlk_X9_remembers 9 rfl rfl
theorem dk_X9_remembers_18 : tvD cX9_remembers 18 (.getfield 19) 3 21 := tvDl_get dlk_X9_remembers 10 rfl rfl
theorem dk_X9_remembers_21 : tvD cX9_remembers 21 (.sipush 202) 3 24 := tvDl_get dlk_X9_remembers 11 rfl rfl
theorem dk_X9_remembers_24 : tvD cX9_remembers 24 (.iload_n 1) 1 25 := tvDl_get dlk_X9_remembers 12 rfl rfl
theorem dk_X9_remembers_25 : tvD cX9_remembers 25 (.imul) 1 26 := tvDl_get dlk_X9_remembers 13 rfl rfl
theorem dk_X9_remembers_26 : tvD cX9_remembers 26 (.aload_n 0) 1 27 := tvDl_get dlk_X9_remembers 14 rfl rfl
theorem dk_X9_remembers_27 : tvD cX9_remembers 27 (.getfield 19) 3 30 := tvDl_get dlk_X9_remembers 15 rfl rfl
theorem dk_X9_remembers_30 : tvD cX9_remembers 30 (.sipush 202) 3 33 := tvDl_get dlk_X9_remembers 16 rfl rfl
theorem dk_X9_remembers_33 : tvD cX9_remembers 33 (.iload_n 1) 1 34 := tvDl_get dlk_X9_remembers 17 rfl rfl
theorem dk_X9_remembers_34 : tvD cX9_remembers 34 (.iconst 1) 1 35 := tvDl_get dlk_X9_remembers 18 rfl rfl
theorem dk_X9_remembers_35 : tvD cX9_remembers 35 (.isub) 1 36 := tvDl_get dlk_X9_remembers 19 rfl rfl
theorem dk_X9_remembers_36 : tvD cX9_remembers 36 (.imul) 1 37 := tvDl_get dlk_X9_remembers 20 rfl rfl
theorem dk_X9_remembers_37 : tvD cX9_remembers 37 (.invokestatic 41) 3 40 := tvDl_get dlk_X9_remembers 21 rfl rfl
theorem dk_X9_remembers_40 : tvD cX9_remembers 40 (.iinc 1 1) 3 43 := tvDl_get dlk_X9_remembers 22 rfl rfl
theorem dk_X9_remembers_43 : tvJ cX9_remembers 43 .goto 11 46 := tvJl_get dlk_X9_remembers 23 rfl (by decide) rfl
theorem dk_X9_remembers_46 : tvD cX9_remembers 46 (.aload_n 0) 1 47 := tvDl_get dlk_X9_remembers 24 rfl rfl
theorem dk_X9_remembers_47 : tvD cX9_remembers 47 (.dup) 1 48 := tvDl_get dlk_X9_remembers 25 rfl rfl
theorem dk_X9_remembers_48 : tvD cX9_remembers 48 (.getfield 45) 3 51 := tvDl_get dlk_X9_remembers 26 rfl rfl
theorem dk_X9_remembers_51 : tvD cX9_remembers 51 (.iconst 1) 1 52 := tvDl_get dlk_X9_remembers 27 rfl rfl
theorem dk_X9_remembers_52 : tvD cX9_remembers 52 (.isub) 1 53 := tvDl_get dlk_X9_remembers 28 rfl rfl
theorem dk_X9_remembers_53 : tvD cX9_remembers 53 (.putfield 45) 3 56 := tvDl_get dlk_X9_remembers 29 rfl rfl
theorem dk_X9_remembers_56 : tvD cX9_remembers 56 (.aload_n 0) 1 57 := tvDl_get dlk_X9_remembers 30 rfl rfl
theorem dk_X9_remembers_57 : tvD cX9_remembers 57 (.getfield 13) 3 60 := tvDl_get dlk_X9_remembers 31 rfl rfl
theorem dk_X9_remembers_60 : tvD cX9_remembers 60 (.iconst 0) 1 61 := tvDl_get dlk_X9_remembers 32 rfl rfl
theorem dk_X9_remembers_61 : tvD cX9_remembers 61 (.aload_n 0) 1 62 := tvDl_get dlk_X9_remembers 33 rfl rfl
theorem dk_X9_remembers_62 : tvD cX9_remembers 62 (.getfield 19) 3 65 := tvDl_get dlk_X9_remembers 34 rfl rfl
theorem dk_X9_remembers_65 : tvD cX9_remembers 65 (.sipush 202) 3 68 := tvDl_get dlk_X9_remembers 35 rfl rfl
theorem dk_X9_remembers_68 : tvD cX9_remembers 68 (.aload_n 0) 1 69 := tvDl_get dlk_X9_remembers 36 rfl rfl
theorem dk_X9_remembers_69 : tvD cX9_remembers 69 (.getfield 45) 3 72 := tvDl_get dlk_X9_remembers 37 rfl rfl
theorem dk_X9_remembers_72 : tvD cX9_remembers 72 (.imul) 1 73 := tvDl_get dlk_X9_remembers 38 rfl rfl
theorem dk_X9_remembers_73 : tvD cX9_remembers 73 (.invokestatic 41) 3 76 := tvDl_get dlk_X9_remembers 39 rfl rfl
theorem dk_X9_remembers_76 : tvD cX9_remembers 76 (.aload_n 0) 1 77 := tvDl_get dlk_X9_remembers 40 rfl rfl
theorem dk_X9_remembers_77 : tvD cX9_remembers 77 (.dup) 1 78 := tvDl_get dlk_X9_remembers 41 rfl rfl
theorem dk_X9_remembers_78 : tvD cX9_remembers 78 (.getfield 45) 3 81 := tvDl_get dlk_X9_remembers 42 rfl rfl
theorem dk_X9_remembers_81 : tvD cX9_remembers 81 (.iconst 1) 1 82 := tvDl_get dlk_X9_remembers 43 rfl rfl
theorem dk_X9_remembers_82 : tvD cX9_remembers 82 (.iadd) 1 83 := tvDl_get dlk_X9_remembers 44 rfl rfl
theorem dk_X9_remembers_83 : tvD cX9_remembers 83 (.putfield 45) 3 86 := tvDl_get dlk_X9_remembers 45 rfl rfl
theorem dk_X9_remembers_86 : tvD cX9_remembers 86 (.return_) 1 87 := tvDl_get dlk_X9_remembers 46 rfl rfl
def dl_X9_restore : List (Nat × Instr × Nat) := [(0, .aload_n 0, 1), (1, .aload_n 0, 1), (2, .getfield 273, 3), (5, .ifCond .ne 7, 3), (8, .iconst 1, 1), (9, .goto 4, 3), (12, .iconst 0, 1), (13, .iconst 1, 1), (14, .invokevirtual 62, 3), (17, .ifCond .eq 5, 3), (20, .iconst 0, 1), (21, .ireturn, 1), (22, .aload_n 0, 1), (23, .getfield 16, 3), (26, .iconst 0, 1), (27, .aload_n 0, 1), (28, .getfield 9, 3), (31, .iconst 0, 1), (32, .invokestatic 41, 3), (35, .aload_n 0, 1), (36, .iconst 0, 1), (37, .putfield 45, 3), (40, .aload_n 0, 1), (41, .getfield 9, 3), (44, .bipush 10, 2), (46, .iaload, 1), (47, .ireturn, 1)]
theorem dlk_X9_restore : tvDl cX9_restore dl_X9_restore = true := by decide +kernel
theorem dk_X9_restore_0 : tvD cX9_restore 0 (.aload_n 0) 1 1 := tvDl_get dlk_X9_restore 0 rfl rfl
theorem dk_X9_restore_1 : tvD cX9_restore 1 (.aload_n 0) 1 2 := tvDl_get dlk_X9_restore 1 rfl rfl
theorem dk_X9_restore_2 : tvD cX9_restore 2 (.getfield 273) 3 5 := tvDl_get dlk_X9_restore 2 rfl rfl
theorem dk_X9_restore_5 : tvJ cX9_restore 5 (.ifCond .ne) 12 8 := tvJl_get dlk_X9_restore 3 rfl (by decide) rfl
theorem dk_X9_restore_8 : tvD cX9_restore 8 (.iconst 1) 1 9 := tvDl_get dlk_X9_restore 4 rfl rfl
theorem dk_X9_restore_9 : tvJ cX9_restore 9 .goto 13 12 := tvJl_get dlk_X9_restore 5 rfl (by decide) rfl
theorem dk_X9_restore_12 : tvD cX9_restore 12 (.iconst 0) 1 13 := tvDl_get dlk_X9_restore 6 rfl rfl
theorem dk_X9_restore_13 : tvD cX9_restore 13 (.iconst 1) 1 14 := tvDl_get dlk_X9_restore 7 rfl rfl
theorem dk_X9_restore_14 : tvD cX9_restore 14 (.invokevirtual 62) 3 17 := tvDl_get dlk_X9_restore 8 rfl rfl
theorem dk_X9_restore_17 : tvJ cX9_restore 17 (.ifCond .eq) 22 20 := tvJl_get dlk_X9_restore 9 rfl (by decide) rfl
theorem dk_X9_restore_20 : tvD cX9_restore 20 (.iconst 0) 1 21 := tvDl_get dlk_X9_restore 10 rfl rfl
theorem dk_X9_restore_21 : tvD cX9_restore 21 (.ireturn) 1 22 := tvDl_get dlk_X9_restore 11 rfl rfl
theorem dk_X9_restore_22 : tvD cX9_restore 22 (.aload_n 0) 1 23 := tvDl_get dlk_X9_restore 12 rfl rfl
theorem dk_X9_restore_23 : tvD cX9_restore 23 (.getfield 16) 3 26 := tvDl_get dlk_X9_restore 13 rfl rfl
theorem dk_X9_restore_26 : tvD cX9_restore 26 (.iconst 0) 1 27 := tvDl_get dlk_X9_restore 14 rfl rfl
theorem dk_X9_restore_27 : tvD cX9_restore 27 (.aload_n 0) 1 28 := tvDl_get dlk_X9_restore 15 rfl rfl
theorem dk_X9_restore_28 : tvD cX9_restore 28 (.getfield 9) 3 31 := tvDl_get dlk_X9_restore 16 rfl rfl
theorem dk_X9_restore_31 : tvD cX9_restore 31 (.iconst 0) 1 32 := tvDl_get dlk_X9_restore 17 rfl rfl
theorem dk_X9_restore_32 : tvD cX9_restore 32 (.invokestatic 41) 3 35 := tvDl_get dlk_X9_restore 18 rfl rfl
theorem dk_X9_restore_35 : tvD cX9_restore 35 (.aload_n 0) 1 36 := tvDl_get dlk_X9_restore 19 rfl rfl
theorem dk_X9_restore_36 : tvD cX9_restore 36 (.iconst 0) 1 37 := tvDl_get dlk_X9_restore 20 rfl rfl
theorem dk_X9_restore_37 : tvD cX9_restore 37 (.putfield 45) 3 40 := tvDl_get dlk_X9_restore 21 rfl rfl
theorem dk_X9_restore_40 : tvD cX9_restore 40 (.aload_n 0) 1 41 := tvDl_get dlk_X9_restore 22 rfl rfl
theorem dk_X9_restore_41 : tvD cX9_restore 41 (.getfield 9) 3 44 := tvDl_get dlk_X9_restore 23 rfl rfl
theorem dk_X9_restore_44 : tvD cX9_restore 44 (.bipush 10) 2 46 := tvDl_get dlk_X9_restore 24 rfl rfl
theorem dk_X9_restore_46 : tvD cX9_restore 46 (.iaload) 1 47 := tvDl_get dlk_X9_restore 25 rfl rfl
theorem dk_X9_restore_47 : tvD cX9_restore 47 (.ireturn) 1 48 := tvDl_get dlk_X9_restore 26 rfl rfl
def dl_X9_run : List (Nat × Instr × Nat) := [(0, .aload_n 0, 1), (1, .invokevirtual 260, 3), (4, .istore_n 1, 1), (5, .aload_n 0, 1), (6, .iconst 0, 1), (7, .putfield 196, 3), (10, .aload_n 0, 1), (11, .iload_n 1, 1), (12, .ifCond .ne 7, 3), (15, .iconst 1, 1), (16, .goto 4, 3), (19, .iconst 0, 1), (20, .iconst 1, 1), (21, .invokevirtual 62, 3), (24, .ifCond .eq 13, 3), (27, .aload_n 0, 1), (28, .aload_n 0, 1), (29, .getfield 199, 3), (32, .putfield 22, 3), (35, .iconst 0, 1), (36, .ireturn, 1), (37, .aload_n 0, 1), (38, .invokevirtual 70, 3), (41, .iconst 0, 1), (42, .istore_n 2, 1), (43, .iload_n 2, 1), (44, .aload_n 0, 1), (45, .getfield 247, 3), (48, .if_icmp .ge 74, 3), (51, .aload_n 0, 1), (52, .iconst 0, 1), (53, .putfield 38, 3), (56, .aload_n 0, 1), (57, .aload_n 0, 1), (58, .iconst 4, 1), (59, .iload_n 2, 1), (60, .imul, 1), (61, .invokevirtual 263, 3), (64, .putfield 266, 3), (67, .aload_n 0, 1), (68, .getfield 38, 3), (71, .ifCond .eq 45, 3), (74, .aload_n 0, 1), (75, .getfield 13, 3), (78, .iconst 0, 1), (79, .aload_n 0, 1), (80, .getfield 9, 3), (83, .iconst 0, 1), (84, .invokestatic 41, 3), (87, .aload_n 0, 1), (88, .iload_n 2, 1), (89, .putfield 26, 3), (92, .aload_n 0, 1), (93, .aload_n 0, 1), (94, .getfield 38, 3), (97, .iconst 4, 1), (98, .if_icmp .ne 7, 3), (101, .iconst 1, 1), (102, .goto 4, 3), (105, .iconst 0, 1)]
theorem dlk_X9_run : tvDl cX9_run dl_X9_run = true := by decide +kernel
theorem dk_X9_run_0 : tvD cX9_run 0 (.aload_n 0) 1 1 := tvDl_get dlk_X9_run 0 rfl rfl
theorem dk_X9_run_1 : tvD cX9_run 1 (.invokevirtual 260) 3 4 := tvDl_get dlk_X9_run 1 rfl rfl
theorem dk_X9_run_4 : tvD cX9_run 4 (.istore_n 1) 1 5 := tvDl_get dlk_X9_run 2 rfl rfl
theorem dk_X9_run_5 : tvD cX9_run 5 (.aload_n 0) 1 6 := tvDl_get dlk_X9_run 3 rfl rfl
theorem dk_X9_run_6 : tvD cX9_run 6 (.iconst 0) 1 7 := tvDl_get dlk_X9_run 4 rfl rfl
theorem dk_X9_run_7 : tvD cX9_run 7 (.putfield 196) 3 10 := tvDl_get dlk_X9_run 5 rfl rfl
theorem dk_X9_run_10 : tvD cX9_run 10 (.aload_n 0) 1 11 := tvDl_get dlk_X9_run 6 rfl rfl
theorem dk_X9_run_11 : tvD cX9_run 11 (.iload_n 1) 1 12 := tvDl_get dlk_X9_run 7 rfl rfl
theorem dk_X9_run_12 : tvJ cX9_run 12 (.ifCond .ne) 19 15 := tvJl_get dlk_X9_run 8 rfl (by decide) rfl
theorem dk_X9_run_15 : tvD cX9_run 15 (.iconst 1) 1 16 := tvDl_get dlk_X9_run 9 rfl rfl
theorem dk_X9_run_16 : tvJ cX9_run 16 .goto 20 19 := tvJl_get dlk_X9_run 10 rfl (by decide) rfl
theorem dk_X9_run_19 : tvD cX9_run 19 (.iconst 0) 1 20 := tvDl_get dlk_X9_run 11 rfl rfl
theorem dk_X9_run_20 : tvD cX9_run 20 (.iconst 1) 1 21 := tvDl_get dlk_X9_run 12 rfl rfl
theorem dk_X9_run_21 : tvD cX9_run 21 (.invokevirtual 62) 3 24 := tvDl_get dlk_X9_run 13 rfl rfl
theorem dk_X9_run_24 : tvJ cX9_run 24 (.ifCond .eq) 37 27 := tvJl_get dlk_X9_run 14 rfl (by decide) rfl
theorem dk_X9_run_27 : tvD cX9_run 27 (.aload_n 0) 1 28 := tvDl_get dlk_X9_run 15 rfl rfl
theorem dk_X9_run_28 : tvD cX9_run 28 (.aload_n 0) 1 29 := tvDl_get dlk_X9_run 16 rfl rfl
theorem dk_X9_run_29 : tvD cX9_run 29 (.getfield 199) 3 32 := tvDl_get dlk_X9_run 17 rfl rfl
theorem dk_X9_run_32 : tvD cX9_run 32 (.putfield 22) 3 35 := tvDl_get dlk_X9_run 18 rfl rfl
theorem dk_X9_run_35 : tvD cX9_run 35 (.iconst 0) 1 36 := tvDl_get dlk_X9_run 19 rfl rfl
theorem dk_X9_run_36 : tvD cX9_run 36 (.ireturn) 1 37 := tvDl_get dlk_X9_run 20 rfl rfl
theorem dk_X9_run_37 : tvD cX9_run 37 (.aload_n 0) 1 38 := tvDl_get dlk_X9_run 21 rfl rfl
theorem dk_X9_run_38 : tvD cX9_run 38 (.invokevirtual 70) 3 41 := tvDl_get dlk_X9_run 22 rfl rfl
theorem dk_X9_run_41 : tvD cX9_run 41 (.iconst 0) 1 42 := tvDl_get dlk_X9_run 23 rfl rfl
theorem dk_X9_run_42 : tvD cX9_run 42 (.istore_n 2) 1 43 := tvDl_get dlk_X9_run 24 rfl rfl
theorem dk_X9_run_43 : tvD cX9_run 43 (.iload_n 2) 1 44 := tvDl_get dlk_X9_run 25 rfl rfl
theorem dk_X9_run_44 : tvD cX9_run 44 (.aload_n 0) 1 45 := tvDl_get dlk_X9_run 26 rfl rfl
theorem dk_X9_run_45 : tvD cX9_run 45 (.getfield 247) 3 48 := tvDl_get dlk_X9_run 27 rfl rfl
theorem dk_X9_run_48 : tvJ cX9_run 48 (.if_icmp .ge) 122 51 := tvJl_get dlk_X9_run 28 rfl (by decide) rfl
theorem dk_X9_run_51 : tvD cX9_run 51 (.aload_n 0) 1 52 := tvDl_get dlk_X9_run 29 rfl rfl
theorem dk_X9_run_52 : tvD cX9_run 52 (.iconst 0) 1 53 := tvDl_get dlk_X9_run 30 rfl rfl
theorem dk_X9_run_53 : tvD cX9_run 53 (.putfield 38) 3 56 := tvDl_get dlk_X9_run 31 rfl rfl
theorem dk_X9_run_56 : tvD cX9_run 56 (.aload_n 0) 1 57 := tvDl_get dlk_X9_run 32 rfl rfl
theorem dk_X9_run_57 : tvD cX9_run 57 (.aload_n 0) 1 58 := tvDl_get dlk_X9_run 33 rfl rfl
theorem dk_X9_run_58 : tvD cX9_run 58 (.iconst 4) 1 59 := tvDl_get dlk_X9_run 34 rfl rfl
theorem dk_X9_run_59 : tvD cX9_run 59 (.iload_n 2) 1 60 := tvDl_get dlk_X9_run 35 rfl rfl
theorem dk_X9_run_60 : tvD cX9_run 60 (.imul) 1 61 := tvDl_get dlk_X9_run 36 rfl rfl
theorem dk_X9_run_61 : tvD cX9_run 61 (.invokevirtual 263) 3 64 := tvDl_get dlk_X9_run 37 rfl rfl
theorem dk_X9_run_64 : tvD cX9_run 64 (.putfield 266) 3 67 := tvDl_get dlk_X9_run 38 rfl rfl
theorem dk_X9_run_67 : tvD cX9_run 67 (.aload_n 0) 1 68 := tvDl_get dlk_X9_run 39 rfl rfl
theorem dk_X9_run_68 : tvD cX9_run 68 (.getfield 38) 3 71 := tvDl_get dlk_X9_run 40 rfl rfl
theorem dk_X9_run_71 : tvJ cX9_run 71 (.ifCond .eq) 116 74 := tvJl_get dlk_X9_run 41 rfl (by decide) rfl
theorem dk_X9_run_74 : tvD cX9_run 74 (.aload_n 0) 1 75 := tvDl_get dlk_X9_run 42 rfl rfl
theorem dk_X9_run_75 : tvD cX9_run 75 (.getfield 13) 3 78 := tvDl_get dlk_X9_run 43 rfl rfl
theorem dk_X9_run_78 : tvD cX9_run 78 (.iconst 0) 1 79 := tvDl_get dlk_X9_run 44 rfl rfl
theorem dk_X9_run_79 : tvD cX9_run 79 (.aload_n 0) 1 80 := tvDl_get dlk_X9_run 45 rfl rfl
theorem dk_X9_run_80 : tvD cX9_run 80 (.getfield 9) 3 83 := tvDl_get dlk_X9_run 46 rfl rfl
theorem dk_X9_run_83 : tvD cX9_run 83 (.iconst 0) 1 84 := tvDl_get dlk_X9_run 47 rfl rfl
theorem dk_X9_run_84 : tvD cX9_run 84 (.invokestatic 41) 3 87 := tvDl_get dlk_X9_run 48 rfl rfl
theorem dk_X9_run_87 : tvD cX9_run 87 (.aload_n 0) 1 88 := tvDl_get dlk_X9_run 49 rfl rfl
theorem dk_X9_run_88 : tvD cX9_run 88 (.iload_n 2) 1 89 := tvDl_get dlk_X9_run 50 rfl rfl
theorem dk_X9_run_89 : tvD cX9_run 89 (.putfield 26) 3 92 := tvDl_get dlk_X9_run 51 rfl rfl
theorem dk_X9_run_92 : tvD cX9_run 92 (.aload_n 0) 1 93 := tvDl_get dlk_X9_run 52 rfl rfl
theorem dk_X9_run_93 : tvD cX9_run 93 (.aload_n 0) 1 94 := tvDl_get dlk_X9_run 53 rfl rfl
theorem dk_X9_run_94 : tvD cX9_run 94 (.getfield 38) 3 97 := tvDl_get dlk_X9_run 54 rfl rfl
theorem dk_X9_run_97 : tvD cX9_run 97 (.iconst 4) 1 98 := tvDl_get dlk_X9_run 55 rfl rfl
theorem dk_X9_run_98 : tvJ cX9_run 98 (.if_icmp .ne) 105 101 := tvJl_get dlk_X9_run 56 rfl (by decide) rfl
theorem dk_X9_run_101 : tvD cX9_run 101 (.iconst 1) 1 102 := tvDl_get dlk_X9_run 57 rfl rfl
theorem dk_X9_run_102 : tvJ cX9_run 102 .goto 106 105 := tvJl_get dlk_X9_run 58 rfl (by decide) rfl
theorem dk_X9_run_105 : tvD cX9_run 105 (.iconst 0) 1 106 := tvDl_get dlk_X9_run 59 rfl rfl
def dl_X9_run_1 : List (Nat × Instr × Nat) := [(106, .putfield 269, 3), (109, .aload_n 0, 1), (110, .iconst 2, 1), (111, .putfield 38, 3), (114, .iconst 0, 1), (115, .ireturn, 1), (116, .iinc 2 1, 3), (119, .goto (-76), 3), (122, .aload_n 0, 1), (123, .aload_n 0, 1), (124, .getfield 247, 3), (127, .invokevirtual 77, 3), (130, .ireturn, 1)]
theorem dlk_X9_run_1 : tvDl cX9_run dl_X9_run_1 = true := by decide +kernel
theorem dk_X9_run_106 : tvD cX9_run 106 (.putfield 269) 3 109 := tvDl_get dlk_X9_run_1 0 rfl rfl
theorem dk_X9_run_109 : tvD cX9_run 109 (.aload_n 0) 1 110 := tvDl_get dlk_X9_run_1 1 rfl rfl
theorem dk_X9_run_110 : tvD cX9_run 110 (.iconst 2) 1 111 := tvDl_get dlk_X9_run_1 2 rfl rfl
theorem dk_X9_run_111 : tvD cX9_run 111 (.putfield 38) 3 114 := tvDl_get dlk_X9_run_1 3 rfl rfl
theorem dk_X9_run_114 : tvD cX9_run 114 (.iconst 0) 1 115 := tvDl_get dlk_X9_run_1 4 rfl rfl
theorem dk_X9_run_115 : tvD cX9_run 115 (.ireturn) 1 116 := tvDl_get dlk_X9_run_1 5 rfl rfl
theorem dk_X9_run_116 : tvD cX9_run 116 (.iinc 2 1) 3 119 := tvDl_get dlk_X9_run_1 6 rfl rfl
theorem dk_X9_run_119 : tvJ cX9_run 119 .goto 43 122 := tvJl_get dlk_X9_run_1 7 rfl (by decide) rfl
theorem dk_X9_run_122 : tvD cX9_run 122 (.aload_n 0) 1 123 := tvDl_get dlk_X9_run_1 8 rfl rfl
theorem dk_X9_run_123 : tvD cX9_run 123 (.aload_n 0) 1 124 := tvDl_get dlk_X9_run_1 9 rfl rfl
theorem dk_X9_run_124 : tvD cX9_run 124 (.getfield 247) 3 127 := tvDl_get dlk_X9_run_1 10 rfl rfl
theorem dk_X9_run_127 : tvD cX9_run 127 (.invokevirtual 77) 3 130 := tvDl_get dlk_X9_run_1 11 rfl rfl
theorem dk_X9_run_130 : tvD cX9_run 130 (.ireturn) 1 131 := tvDl_get dlk_X9_run_1 12 rfl rfl
def dl_X9_save : List (Nat × Instr × Nat) := [(0, .aload_n 0, 1), (1, .iconst 0, 1), (2, .putfield 38, 3), (5, .aload_n 0, 1), (6, .getfield 9, 3), (9, .iconst 0, 1), (10, .aload_n 0, 1), (11, .getfield 16, 3), (14, .iconst 0, 1), (15, .invokestatic 41, 3), (18, .aload_n 0, 1), (19, .iconst 1, 1), (20, .putfield 273, 3), (23, .aload_n 0, 1), (24, .getfield 9, 3), (27, .bipush 10, 2), (29, .iaload, 1), (30, .ireturn, 1)]
theorem dlk_X9_save : tvDl cX9_save dl_X9_save = true := by decide +kernel
theorem dk_X9_save_0 : tvD cX9_save 0 (.aload_n 0) 1 1 := tvDl_get dlk_X9_save 0 rfl rfl
theorem dk_X9_save_1 : tvD cX9_save 1 (.iconst 0) 1 2 := tvDl_get dlk_X9_save 1 rfl rfl
theorem dk_X9_save_2 : tvD cX9_save 2 (.putfield 38) 3 5 := tvDl_get dlk_X9_save 2 rfl rfl
theorem dk_X9_save_5 : tvD cX9_save 5 (.aload_n 0) 1 6 := tvDl_get dlk_X9_save 3 rfl rfl
theorem dk_X9_save_6 : tvD cX9_save 6 (.getfield 9) 3 9 := tvDl_get dlk_X9_save 4 rfl rfl
theorem dk_X9_save_9 : tvD cX9_save 9 (.iconst 0) 1 10 := tvDl_get dlk_X9_save 5 rfl rfl
theorem dk_X9_save_10 : tvD cX9_save 10 (.aload_n 0) 1 11 := tvDl_get dlk_X9_save 6 rfl rfl
theorem dk_X9_save_11 : tvD cX9_save 11 (.getfield 16) 3 14 := tvDl_get dlk_X9_save 7 rfl rfl
theorem dk_X9_save_14 : tvD cX9_save 14 (.iconst 0) 1 15 := tvDl_get dlk_X9_save 8 rfl rfl
theorem dk_X9_save_15 : tvD cX9_save 15 (.invokestatic 41) 3 18 := tvDl_get dlk_X9_save 9 rfl rfl
theorem dk_X9_save_18 : tvD cX9_save 18 (.aload_n 0) 1 19 := tvDl_get dlk_X9_save 10 rfl rfl
theorem dk_X9_save_19 : tvD cX9_save 19 (.iconst 1) 1 20 := tvDl_get dlk_X9_save 11 rfl rfl
theorem dk_X9_save_20 : tvD cX9_save 20 (.putfield 273) 3 23 := tvDl_get dlk_X9_save 12 rfl rfl
theorem dk_X9_save_23 : tvD cX9_save 23 (.aload_n 0) 1 24 := tvDl_get dlk_X9_save 13 rfl rfl
theorem dk_X9_save_24 : tvD cX9_save 24 (.getfield 9) 3 27 := tvDl_get dlk_X9_save 14 rfl rfl
theorem dk_X9_save_27 : tvD cX9_save 27 (.bipush 10) 2 29 := tvDl_get dlk_X9_save 15 rfl rfl
theorem dk_X9_save_29 : tvD cX9_save 29 (.iaload) 1 30 := tvDl_get dlk_X9_save 16 rfl rfl
theorem dk_X9_save_30 : tvD cX9_save 30 (.ireturn) 1 31 := tvDl_get dlk_X9_save 17 rfl rfl
def dl_X9_setTide : List (Nat × Instr × Nat) := [(0, .aload_n 0, 1), (1, .invokevirtual 70, 3), (4, .aload_n 0, 1), (5, .aload_n 0, 1), (6, .iload_n 1, 1), (7, .iload_n 2, 1), (8, .invokevirtual 91, 3), (11, .invokevirtual 77, 3), (14, .ireturn, 1)]
theorem dlk_X9_setTide : tvDl cX9_setTide dl_X9_setTide = true := by decide +kernel
theorem dk_X9_setTide_0 : tvD cX9_setTide 0 (.aload_n 0) 1 1 := tvDl_get dlk_X9_setTide 0 rfl rfl
theorem dk_X9_setTide_1 : tvD cX9_setTide 1 (.invokevirtual 70) 3 4 := tvDl_get dlk_X9_setTide 1 rfl rfl
theorem dk_X9_setTide_4 : tvD cX9_setTide 4 (.aload_n 0) 1 5 := tvDl_get dlk_X9_setTide 2 rfl rfl
theorem dk_X9_setTide_5 : tvD cX9_setTide 5 (.aload_n 0) 1 6 := tvDl_get dlk_X9_setTide 3 rfl rfl
theorem dk_X9_setTide_6 : tvD cX9_setTide 6 (.iload_n 1) 1 7 := tvDl_get dlk_X9_setTide 4 rfl rfl
theorem dk_X9_setTide_7 : tvD cX9_setTide 7 (.iload_n 2) 1 8 := tvDl_get dlk_X9_setTide 5 rfl rfl
theorem dk_X9_setTide_8 : tvD cX9_setTide 8 (.invokevirtual 91) 3 11 := tvDl_get dlk_X9_setTide 6 rfl rfl
theorem dk_X9_setTide_11 : tvD cX9_setTide 11 (.invokevirtual 77) 3 14 := tvDl_get dlk_X9_setTide 7 rfl rfl
theorem dk_X9_setTide_14 : tvD cX9_setTide 14 (.ireturn) 1 15 := tvDl_get dlk_X9_setTide 8 rfl rfl
def dl_X9_turnKey : List (Nat × Instr × Nat) := [(0, .aload_n 0, 1), (1, .invokevirtual 70, 3), (4, .aload_n 0, 1), (5, .aload_n 0, 1), (6, .iload_n 1, 1), (7, .iload_n 2, 1), (8, .iload_n 3, 1), (9, .invokevirtual 135, 3), (12, .invokevirtual 138, 3), (15, .i2c, 1), (16, .ireturn, 1)]
theorem dlk_X9_turnKey : tvDl cX9_turnKey dl_X9_turnKey = true := by decide +kernel
theorem dk_X9_turnKey_0 : tvD cX9_turnKey 0 (.aload_n 0) 1 1 := tvDl_get dlk_X9_turnKey 0 rfl rfl
theorem dk_X9_turnKey_1 : tvD cX9_turnKey 1 (.invokevirtual 70) 3 4 := tvDl_get dlk_X9_turnKey 1 rfl rfl
theorem dk_X9_turnKey_4 : tvD cX9_turnKey 4 (.aload_n 0) 1 5 := tvDl_get dlk_X9_turnKey 2 rfl rfl
theorem dk_X9_turnKey_5 : tvD cX9_turnKey 5 (.aload_n 0) 1 6 := tvDl_get dlk_X9_turnKey 3 rfl rfl
theorem dk_X9_turnKey_6 : tvD cX9_turnKey 6 (.iload_n 1) 1 7 := tvDl_get dlk_X9_turnKey 4 rfl rfl
theorem dk_X9_turnKey_7 : tvD cX9_turnKey 7 (.iload_n 2) 1 8 := tvDl_get dlk_X9_turnKey 5 rfl rfl
theorem dk_X9_turnKey_8 : tvD cX9_turnKey 8 (.iload_n 3) 1 9 := tvDl_get dlk_X9_turnKey 6 rfl rfl
theorem dk_X9_turnKey_9 : tvD cX9_turnKey 9 (.invokevirtual 135) 3 12 := tvDl_get dlk_X9_turnKey 7 rfl rfl
theorem dk_X9_turnKey_12 : tvD cX9_turnKey 12 (.invokevirtual 138) 3 15 := tvDl_get dlk_X9_turnKey 8 rfl rfl
theorem dk_X9_turnKey_15 : tvD cX9_turnKey 15 (.i2c) 1 16 := tvDl_get dlk_X9_turnKey 9 rfl rfl
theorem dk_X9_turnKey_16 : tvD cX9_turnKey 16 (.ireturn) 1 17 := tvDl_get dlk_X9_turnKey 10 rfl rfl
def dl_X9_undo : List (Nat × Instr × Nat) := [(0, .aload_n 0, 1), (1, .aload_n 0, 1), (2, .getfield 45, 3), (5, .ifCond .ne 7, 3), (8, .iconst 1, 1), (9, .goto 4, 3), (12, .iconst 0, 1), (13, .iconst 1, 1), (14, .invokevirtual 62, 3), (17, .ifCond .eq 5, 3), (20, .iconst 0, 1), (21, .ireturn, 1), (22, .aload_n 0, 1), (23, .dup, 1), (24, .getfield 45, 3), (27, .iconst 1, 1), (28, .isub, 1), (29, .putfield 45, 3), (32, .aload_n 0, 1), (33, .getfield 19, 3), (36, .sipush 202, 3), (39, .aload_n 0, 1), (40, .getfield 45, 3), (43, .imul, 1), (44, .aload_n 0, 1), (45, .getfield 9, 3), (48, .iconst 0, 1), (49, .invokestatic 41, 3), (52, .aload_n 0, 1), (53, .getfield 45, 3), (56, .ireturn, 1)]
theorem dlk_X9_undo : tvDl cX9_undo dl_X9_undo = true := by decide +kernel
theorem dk_X9_undo_0 : tvD cX9_undo 0 (.aload_n 0) 1 1 := tvDl_get dlk_X9_undo 0 rfl rfl
theorem dk_X9_undo_1 : tvD cX9_undo 1 (.aload_n 0) 1 2 := tvDl_get dlk_X9_undo 1 rfl rfl
theorem dk_X9_undo_2 : tvD cX9_undo 2 (.getfield 45) 3 5 := tvDl_get dlk_X9_undo 2 rfl rfl
theorem dk_X9_undo_5 : tvJ cX9_undo 5 (.ifCond .ne) 12 8 := tvJl_get dlk_X9_undo 3 rfl (by decide) rfl
theorem dk_X9_undo_8 : tvD cX9_undo 8 (.iconst 1) 1 9 := tvDl_get dlk_X9_undo 4 rfl rfl
theorem dk_X9_undo_9 : tvJ cX9_undo 9 .goto 13 12 := tvJl_get dlk_X9_undo 5 rfl (by decide) rfl
theorem dk_X9_undo_12 : tvD cX9_undo 12 (.iconst 0) 1 13 := tvDl_get dlk_X9_undo 6 rfl rfl
theorem dk_X9_undo_13 : tvD cX9_undo 13 (.iconst 1) 1 14 := tvDl_get dlk_X9_undo 7 rfl rfl
theorem dk_X9_undo_14 : tvD cX9_undo 14 (.invokevirtual 62) 3 17 := tvDl_get dlk_X9_undo 8 rfl rfl
theorem dk_X9_undo_17 : tvJ cX9_undo 17 (.ifCond .eq) 22 20 := tvJl_get dlk_X9_undo 9 rfl (by decide) rfl
theorem dk_X9_undo_20 : tvD cX9_undo 20 (.iconst 0) 1 21 := tvDl_get dlk_X9_undo 10 rfl rfl
theorem dk_X9_undo_21 : tvD cX9_undo 21 (.ireturn) 1 22 := tvDl_get dlk_X9_undo 11 rfl rfl
theorem dk_X9_undo_22 : tvD cX9_undo 22 (.aload_n 0) 1 23 := tvDl_get dlk_X9_undo 12 rfl rfl
theorem dk_X9_undo_23 : tvD cX9_undo 23 (.dup) 1 24 := tvDl_get dlk_X9_undo 13 rfl rfl
theorem dk_X9_undo_24 : tvD cX9_undo 24 (.getfield 45) 3 27 := tvDl_get dlk_X9_undo 14 rfl rfl
theorem dk_X9_undo_27 : tvD cX9_undo 27 (.iconst 1) 1 28 := tvDl_get dlk_X9_undo 15 rfl rfl
theorem dk_X9_undo_28 : tvD cX9_undo 28 (.isub) 1 29 := tvDl_get dlk_X9_undo 16 rfl rfl
theorem dk_X9_undo_29 : tvD cX9_undo 29 (.putfield 45) 3 32 := tvDl_get dlk_X9_undo 17 rfl rfl
theorem dk_X9_undo_32 : tvD cX9_undo 32 (.aload_n 0) 1 33 := tvDl_get dlk_X9_undo 18 rfl rfl
theorem dk_X9_undo_33 : tvD cX9_undo 33 (.getfield 19) 3 36 := tvDl_get dlk_X9_undo 19 rfl rfl
theorem dk_X9_undo_36 : tvD cX9_undo 36 (.sipush 202) 3 39 := tvDl_get dlk_X9_undo 20 rfl rfl
theorem dk_X9_undo_39 : tvD cX9_undo 39 (.aload_n 0) 1 40 := tvDl_get dlk_X9_undo 21 rfl rfl
theorem dk_X9_undo_40 : tvD cX9_undo 40 (.getfield 45) 3 43 := tvDl_get dlk_X9_undo 22 rfl rfl
theorem dk_X9_undo_43 : tvD cX9_undo 43 (.imul) 1 44 := tvDl_get dlk_X9_undo 23 rfl rfl
theorem dk_X9_undo_44 : tvD cX9_undo 44 (.aload_n 0) 1 45 := tvDl_get dlk_X9_undo 24 rfl rfl
theorem dk_X9_undo_45 : tvD cX9_undo 45 (.getfield 9) 3 48 := tvDl_get dlk_X9_undo 25 rfl rfl
theorem dk_X9_undo_48 : tvD cX9_undo 48 (.iconst 0) 1 49 := tvDl_get dlk_X9_undo 26 rfl rfl
theorem dk_X9_undo_49 : tvD cX9_undo 49 (.invokestatic 41) 3 52 := tvDl_get dlk_X9_undo 27 rfl rfl
theorem dk_X9_undo_52 : tvD cX9_undo 52 (.aload_n 0) 1 53 := tvDl_get dlk_X9_undo 28 rfl rfl
theorem dk_X9_undo_53 : tvD cX9_undo 53 (.getfield 45) 3 56 := tvDl_get dlk_X9_undo 29 rfl rfl
theorem dk_X9_undo_56 : tvD cX9_undo 56 (.ireturn) 1 57 := tvDl_get dlk_X9_undo 30 rfl rfl
def dl_X9_withdraw : List (Nat × Instr × Nat) := [(0, .aload_n 0, 1), (1, .invokevirtual 70, 3), (4, .aload_n 0, 1), (5, .aload_n 0, 1), (6, .iload_n 1, 1), (7, .invokevirtual 147, 3), (10, .invokevirtual 77, 3), (13, .ireturn, 1)]
theorem dlk_X9_withdraw : tvDl cX9_withdraw dl_X9_withdraw = true := by decide +kernel
theorem dk_X9_withdraw_0 : tvD cX9_withdraw 0 (.aload_n 0) 1 1 := tvDl_get dlk_X9_withdraw 0 rfl rfl
theorem dk_X9_withdraw_1 : tvD cX9_withdraw 1 (.invokevirtual 70) 3 4 := tvDl_get dlk_X9_withdraw 1 rfl rfl
theorem dk_X9_withdraw_4 : tvD cX9_withdraw 4 (.aload_n 0) 1 5 := tvDl_get dlk_X9_withdraw 2 rfl rfl
theorem dk_X9_withdraw_5 : tvD cX9_withdraw 5 (.aload_n 0) 1 6 := tvDl_get dlk_X9_withdraw 3 rfl rfl
theorem dk_X9_withdraw_6 : tvD cX9_withdraw 6 (.iload_n 1) 1 7 := tvDl_get dlk_X9_withdraw 4 rfl rfl
theorem dk_X9_withdraw_7 : tvD cX9_withdraw 7 (.invokevirtual 147) 3 10 := tvDl_get dlk_X9_withdraw 5 rfl rfl
theorem dk_X9_withdraw_10 : tvD cX9_withdraw 10 (.invokevirtual 77) 3 13 := tvDl_get dlk_X9_withdraw 6 rfl rfl
theorem dk_X9_withdraw_13 : tvD cX9_withdraw 13 (.ireturn) 1 14 := tvDl_get dlk_X9_withdraw 7 rfl rfl
def dl_X9_writeBox : List (Nat × Instr × Nat) := [(0, .aload_n 0, 1), (1, .aload_n 0, 1), (2, .iload_n 1, 1), (3, .invokevirtual 113, 3), (6, .ifCond .ne 7, 3), (9, .iconst 1, 1), (10, .goto 4, 3), (13, .iconst 0, 1), (14, .iconst 1, 1), (15, .invokevirtual 62, 3), (18, .ifCond .eq 5, 3), (21, .iconst 0, 1), (22, .ireturn, 1), (23, .aload_n 0, 1), (24, .iconst 0, 1), (25, .putfield 187, 3), (28, .aload_n 0, 1), (29, .iload_n 1, 1), (30, .invokevirtual 190, 3), (33, .aload_n 0, 1), (34, .aload_n 0, 1), (35, .iload_n 1, 1), (36, .iconst 3, 1), (37, .invokevirtual 55, 3), (40, .invokestatic 132, 3), (43, .invokevirtual 193, 3), (46, .aload_n 0, 1), (47, .bipush 58, 2), (49, .invokevirtual 193, 3), (52, .iconst 0, 1), (53, .istore_n 2, 1), (54, .iload_n 2, 1), (55, .aload_n 0, 1), (56, .iload_n 1, 1), (57, .bipush 7, 2), (59, .invokevirtual 55, 3), (62, .if_icmp .ge 32, 3), (65, .iload_n 2, 1), (66, .ifCond .le 9, 3), (69, .aload_n 0, 1), (70, .bipush 44, 2), (72, .invokevirtual 193, 3), (75, .aload_n 0, 1), (76, .aload_n 0, 1), (77, .iload_n 1, 1), (78, .bipush 8, 2), (80, .iload_n 2, 1), (81, .iadd, 1), (82, .invokevirtual 55, 3), (85, .invokevirtual 190, 3), (88, .iinc 2 1, 3), (91, .goto (-37), 3), (94, .aload_n 0, 1), (95, .getfield 187, 3), (98, .ireturn, 1)]
theorem dlk_X9_writeBox : tvDl cX9_writeBox dl_X9_writeBox = true := by decide +kernel
theorem dk_X9_writeBox_0 : tvD cX9_writeBox 0 (.aload_n 0) 1 1 := tvDl_get dlk_X9_writeBox 0 rfl rfl
theorem dk_X9_writeBox_1 : tvD cX9_writeBox 1 (.aload_n 0) 1 2 := tvDl_get dlk_X9_writeBox 1 rfl rfl
theorem dk_X9_writeBox_2 : tvD cX9_writeBox 2 (.iload_n 1) 1 3 := tvDl_get dlk_X9_writeBox 2 rfl rfl
theorem dk_X9_writeBox_3 : tvD cX9_writeBox 3 (.invokevirtual 113) 3 6 := tvDl_get dlk_X9_writeBox 3 rfl rfl
theorem dk_X9_writeBox_6 : tvJ cX9_writeBox 6 (.ifCond .ne) 13 9 := tvJl_get dlk_X9_writeBox 4 rfl (by decide) rfl
theorem dk_X9_writeBox_9 : tvD cX9_writeBox 9 (.iconst 1) 1 10 := tvDl_get dlk_X9_writeBox 5 rfl rfl
theorem dk_X9_writeBox_10 : tvJ cX9_writeBox 10 .goto 14 13 := tvJl_get dlk_X9_writeBox 6 rfl (by decide) rfl
theorem dk_X9_writeBox_13 : tvD cX9_writeBox 13 (.iconst 0) 1 14 := tvDl_get dlk_X9_writeBox 7 rfl rfl
theorem dk_X9_writeBox_14 : tvD cX9_writeBox 14 (.iconst 1) 1 15 := tvDl_get dlk_X9_writeBox 8 rfl rfl
theorem dk_X9_writeBox_15 : tvD cX9_writeBox 15 (.invokevirtual 62) 3 18 := tvDl_get dlk_X9_writeBox 9 rfl rfl
theorem dk_X9_writeBox_18 : tvJ cX9_writeBox 18 (.ifCond .eq) 23 21 := tvJl_get dlk_X9_writeBox 10 rfl (by decide) rfl
theorem dk_X9_writeBox_21 : tvD cX9_writeBox 21 (.iconst 0) 1 22 := tvDl_get dlk_X9_writeBox 11 rfl rfl
theorem dk_X9_writeBox_22 : tvD cX9_writeBox 22 (.ireturn) 1 23 := tvDl_get dlk_X9_writeBox 12 rfl rfl
theorem dk_X9_writeBox_23 : tvD cX9_writeBox 23 (.aload_n 0) 1 24 := tvDl_get dlk_X9_writeBox 13 rfl rfl
theorem dk_X9_writeBox_24 : tvD cX9_writeBox 24 (.iconst 0) 1 25 := tvDl_get dlk_X9_writeBox 14 rfl rfl
theorem dk_X9_writeBox_25 : tvD cX9_writeBox 25 (.putfield 187) 3 28 := tvDl_get dlk_X9_writeBox 15 rfl rfl
theorem dk_X9_writeBox_28 : tvD cX9_writeBox 28 (.aload_n 0) 1 29 := tvDl_get dlk_X9_writeBox 16 rfl rfl
theorem dk_X9_writeBox_29 : tvD cX9_writeBox 29 (.iload_n 1) 1 30 := tvDl_get dlk_X9_writeBox 17 rfl rfl
theorem dk_X9_writeBox_30 : tvD cX9_writeBox 30 (.invokevirtual 190) 3 33 := tvDl_get dlk_X9_writeBox 18 rfl rfl
theorem dk_X9_writeBox_33 : tvD cX9_writeBox 33 (.aload_n 0) 1 34 := tvDl_get dlk_X9_writeBox 19 rfl rfl
theorem dk_X9_writeBox_34 : tvD cX9_writeBox 34 (.aload_n 0) 1 35 := tvDl_get dlk_X9_writeBox 20 rfl rfl
theorem dk_X9_writeBox_35 : tvD cX9_writeBox 35 (.iload_n 1) 1 36 := tvDl_get dlk_X9_writeBox 21 rfl rfl
theorem dk_X9_writeBox_36 : tvD cX9_writeBox 36 (.iconst 3) 1 37 := tvDl_get dlk_X9_writeBox 22 rfl rfl
theorem dk_X9_writeBox_37 : tvD cX9_writeBox 37 (.invokevirtual 55) 3 40 := tvDl_get dlk_X9_writeBox 23 rfl rfl
theorem dk_X9_writeBox_40 : tvD cX9_writeBox 40 (.invokestatic 132) 3 43 := tvDl_get dlk_X9_writeBox 24 rfl rfl
theorem dk_X9_writeBox_43 : tvD cX9_writeBox 43 (.invokevirtual 193) 3 46 := tvDl_get dlk_X9_writeBox 25 rfl rfl
theorem dk_X9_writeBox_46 : tvD cX9_writeBox 46 (.aload_n 0) 1 47 := tvDl_get dlk_X9_writeBox 26 rfl rfl
theorem dk_X9_writeBox_47 : tvD cX9_writeBox 47 (.bipush 58) 2 49 := tvDl_get dlk_X9_writeBox 27 rfl rfl
theorem dk_X9_writeBox_49 : tvD cX9_writeBox 49 (.invokevirtual 193) 3 52 := tvDl_get dlk_X9_writeBox 28 rfl rfl
theorem dk_X9_writeBox_52 : tvD cX9_writeBox 52 (.iconst 0) 1 53 := tvDl_get dlk_X9_writeBox 29 rfl rfl
theorem dk_X9_writeBox_53 : tvD cX9_writeBox 53 (.istore_n 2) 1 54 := tvDl_get dlk_X9_writeBox 30 rfl rfl
theorem dk_X9_writeBox_54 : tvD cX9_writeBox 54 (.iload_n 2) 1 55 := tvDl_get dlk_X9_writeBox 31 rfl rfl
theorem dk_X9_writeBox_55 : tvD cX9_writeBox 55 (.aload_n 0) 1 56 := tvDl_get dlk_X9_writeBox 32 rfl rfl
theorem dk_X9_writeBox_56 : tvD cX9_writeBox 56 (.iload_n 1) 1 57 := tvDl_get dlk_X9_writeBox 33 rfl rfl
theorem dk_X9_writeBox_57 : tvD cX9_writeBox 57 (.bipush 7) 2 59 := tvDl_get dlk_X9_writeBox 34 rfl rfl
theorem dk_X9_writeBox_59 : tvD cX9_writeBox 59 (.invokevirtual 55) 3 62 := tvDl_get dlk_X9_writeBox 35 rfl rfl
theorem dk_X9_writeBox_62 : tvJ cX9_writeBox 62 (.if_icmp .ge) 94 65 := tvJl_get dlk_X9_writeBox 36 rfl (by decide) rfl
theorem dk_X9_writeBox_65 : tvD cX9_writeBox 65 (.iload_n 2) 1 66 := tvDl_get dlk_X9_writeBox 37 rfl rfl
theorem dk_X9_writeBox_66 : tvJ cX9_writeBox 66 (.ifCond .le) 75 69 := tvJl_get dlk_X9_writeBox 38 rfl (by decide) rfl
theorem dk_X9_writeBox_69 : tvD cX9_writeBox 69 (.aload_n 0) 1 70 := tvDl_get dlk_X9_writeBox 39 rfl rfl
theorem dk_X9_writeBox_70 : tvD cX9_writeBox 70 (.bipush 44) 2 72 := tvDl_get dlk_X9_writeBox 40 rfl rfl
theorem dk_X9_writeBox_72 : tvD cX9_writeBox 72 (.invokevirtual 193) 3 75 := tvDl_get dlk_X9_writeBox 41 rfl rfl
theorem dk_X9_writeBox_75 : tvD cX9_writeBox 75 (.aload_n 0) 1 76 := tvDl_get dlk_X9_writeBox 42 rfl rfl
theorem dk_X9_writeBox_76 : tvD cX9_writeBox 76 (.aload_n 0) 1 77 := tvDl_get dlk_X9_writeBox 43 rfl rfl
theorem dk_X9_writeBox_77 : tvD cX9_writeBox 77 (.iload_n 1) 1 78 := tvDl_get dlk_X9_writeBox 44 rfl rfl
theorem dk_X9_writeBox_78 : tvD cX9_writeBox 78 (.bipush 8) 2 80 := tvDl_get dlk_X9_writeBox 45 rfl rfl
theorem dk_X9_writeBox_80 : tvD cX9_writeBox 80 (.iload_n 2) 1 81 := tvDl_get dlk_X9_writeBox 46 rfl rfl
theorem dk_X9_writeBox_81 : tvD cX9_writeBox 81 (.iadd) 1 82 := tvDl_get dlk_X9_writeBox 47 rfl rfl
theorem dk_X9_writeBox_82 : tvD cX9_writeBox 82 (.invokevirtual 55) 3 85 := tvDl_get dlk_X9_writeBox 48 rfl rfl
theorem dk_X9_writeBox_85 : tvD cX9_writeBox 85 (.invokevirtual 190) 3 88 := tvDl_get dlk_X9_writeBox 49 rfl rfl
theorem dk_X9_writeBox_88 : tvD cX9_writeBox 88 (.iinc 2 1) 3 91 := tvDl_get dlk_X9_writeBox 50 rfl rfl
theorem dk_X9_writeBox_91 : tvJ cX9_writeBox 91 .goto 54 94 := tvJl_get dlk_X9_writeBox 51 rfl (by decide) rfl
theorem dk_X9_writeBox_94 : tvD cX9_writeBox 94 (.aload_n 0) 1 95 := tvDl_get dlk_X9_writeBox 52 rfl rfl
theorem dk_X9_writeBox_95 : tvD cX9_writeBox 95 (.getfield 187) 3 98 := tvDl_get dlk_X9_writeBox 53 rfl rfl
theorem dk_X9_writeBox_98 : tvD cX9_writeBox 98 (.ireturn) 1 99 := tvDl_get dlk_X9_writeBox 54 rfl rfl
def dl_X9_writeEvents : List (Nat × Instr × Nat) := [(0, .aload_n 0, 1), (1, .iconst 0, 1), (2, .putfield 38, 3), (5, .aload_n 0, 1), (6, .iconst 0, 1), (7, .putfield 187, 3), (10, .iconst 0, 1), (11, .istore_n 1, 1), (12, .iload_n 1, 1), (13, .aload_n 0, 1), (14, .getfield 9, 3), (17, .bipush 11, 2), (19, .iaload, 1), (20, .if_icmp .ge 53, 3), (23, .iload_n 1, 1), (24, .ifCond .le 9, 3), (27, .aload_n 0, 1), (28, .bipush 32, 2), (30, .invokevirtual 193, 3), (33, .aload_n 0, 1), (34, .aload_n 0, 1), (35, .getfield 9, 3), (38, .sipush 166, 3), (41, .iconst 3, 1), (42, .iload_n 1, 1), (43, .imul, 1), (44, .iadd, 1), (45, .iaload, 1), (46, .invokevirtual 193, 3), (49, .aload_n 0, 1), (50, .aload_n 0, 1), (51, .getfield 9, 3), (54, .sipush 166, 3), (57, .iconst 3, 1), (58, .iload_n 1, 1), (59, .imul, 1), (60, .iadd, 1), (61, .iconst 2, 1), (62, .iadd, 1), (63, .iaload, 1), (64, .invokevirtual 190, 3), (67, .iinc 1 1, 3), (70, .goto (-58), 3), (73, .aload_n 0, 1), (74, .getfield 187, 3), (77, .ireturn, 1)]
theorem dlk_X9_writeEvents : tvDl cX9_writeEvents dl_X9_writeEvents = true := by decide +kernel
theorem dk_X9_writeEvents_0 : tvD cX9_writeEvents 0 (.aload_n 0) 1 1 := tvDl_get dlk_X9_writeEvents 0 rfl rfl
theorem dk_X9_writeEvents_1 : tvD cX9_writeEvents 1 (.iconst 0) 1 2 := tvDl_get dlk_X9_writeEvents 1 rfl rfl
theorem dk_X9_writeEvents_2 : tvD cX9_writeEvents 2 (.putfield 38) 3 5 := tvDl_get dlk_X9_writeEvents 2 rfl rfl
theorem dk_X9_writeEvents_5 : tvD cX9_writeEvents 5 (.aload_n 0) 1 6 := tvDl_get dlk_X9_writeEvents 3 rfl rfl
theorem dk_X9_writeEvents_6 : tvD cX9_writeEvents 6 (.iconst 0) 1 7 := tvDl_get dlk_X9_writeEvents 4 rfl rfl
theorem dk_X9_writeEvents_7 : tvD cX9_writeEvents 7 (.putfield 187) 3 10 := tvDl_get dlk_X9_writeEvents 5 rfl rfl
theorem dk_X9_writeEvents_10 : tvD cX9_writeEvents 10 (.iconst 0) 1 11 := tvDl_get dlk_X9_writeEvents 6 rfl rfl
theorem dk_X9_writeEvents_11 : tvD cX9_writeEvents 11 (.istore_n 1) 1 12 := tvDl_get dlk_X9_writeEvents 7 rfl rfl
theorem dk_X9_writeEvents_12 : tvD cX9_writeEvents 12 (.iload_n 1) 1 13 := tvDl_get dlk_X9_writeEvents 8 rfl rfl
theorem dk_X9_writeEvents_13 : tvD cX9_writeEvents 13 (.aload_n 0) 1 14 := tvDl_get dlk_X9_writeEvents 9 rfl rfl
theorem dk_X9_writeEvents_14 : tvD cX9_writeEvents 14 (.getfield 9) 3 17 := tvDl_get dlk_X9_writeEvents 10 rfl rfl
theorem dk_X9_writeEvents_17 : tvD cX9_writeEvents 17 (.bipush 11) 2 19 := tvDl_get dlk_X9_writeEvents 11 rfl rfl
theorem dk_X9_writeEvents_19 : tvD cX9_writeEvents 19 (.iaload) 1 20 := tvDl_get dlk_X9_writeEvents 12 rfl rfl
theorem dk_X9_writeEvents_20 : tvJ cX9_writeEvents 20 (.if_icmp .ge) 73 23 := tvJl_get dlk_X9_writeEvents 13 rfl (by decide) rfl
theorem dk_X9_writeEvents_23 : tvD cX9_writeEvents 23 (.iload_n 1) 1 24 := tvDl_get dlk_X9_writeEvents 14 rfl rfl
theorem dk_X9_writeEvents_24 : tvJ cX9_writeEvents 24 (.ifCond .le) 33 27 := tvJl_get dlk_X9_writeEvents 15 rfl (by decide) rfl
theorem dk_X9_writeEvents_27 : tvD cX9_writeEvents 27 (.aload_n 0) 1 28 := tvDl_get dlk_X9_writeEvents 16 rfl rfl
theorem dk_X9_writeEvents_28 : tvD cX9_writeEvents 28 (.bipush 32) 2 30 := tvDl_get dlk_X9_writeEvents 17 rfl rfl
theorem dk_X9_writeEvents_30 : tvD cX9_writeEvents 30 (.invokevirtual 193) 3 33 := tvDl_get dlk_X9_writeEvents 18 rfl rfl
theorem dk_X9_writeEvents_33 : tvD cX9_writeEvents 33 (.aload_n 0) 1 34 := tvDl_get dlk_X9_writeEvents 19 rfl rfl
theorem dk_X9_writeEvents_34 : tvD cX9_writeEvents 34 (.aload_n 0) 1 35 := tvDl_get dlk_X9_writeEvents 20 rfl rfl
theorem dk_X9_writeEvents_35 : tvD cX9_writeEvents 35 (.getfield 9) 3 38 := tvDl_get dlk_X9_writeEvents 21 rfl rfl
theorem dk_X9_writeEvents_38 : tvD cX9_writeEvents 38 (.sipush 166) 3 41 := tvDl_get dlk_X9_writeEvents 22 rfl rfl
theorem dk_X9_writeEvents_41 : tvD cX9_writeEvents 41 (.iconst 3) 1 42 := tvDl_get dlk_X9_writeEvents 23 rfl rfl
theorem dk_X9_writeEvents_42 : tvD cX9_writeEvents 42 (.iload_n 1) 1 43 := tvDl_get dlk_X9_writeEvents 24 rfl rfl
theorem dk_X9_writeEvents_43 : tvD cX9_writeEvents 43 (.imul) 1 44 := tvDl_get dlk_X9_writeEvents 25 rfl rfl
theorem dk_X9_writeEvents_44 : tvD cX9_writeEvents 44 (.iadd) 1 45 := tvDl_get dlk_X9_writeEvents 26 rfl rfl
theorem dk_X9_writeEvents_45 : tvD cX9_writeEvents 45 (.iaload) 1 46 := tvDl_get dlk_X9_writeEvents 27 rfl rfl
theorem dk_X9_writeEvents_46 : tvD cX9_writeEvents 46 (.invokevirtual 193) 3 49 := tvDl_get dlk_X9_writeEvents 28 rfl rfl
theorem dk_X9_writeEvents_49 : tvD cX9_writeEvents 49 (.aload_n 0) 1 50 := tvDl_get dlk_X9_writeEvents 29 rfl rfl
theorem dk_X9_writeEvents_50 : tvD cX9_writeEvents 50 (.aload_n 0) 1 51 := tvDl_get dlk_X9_writeEvents 30 rfl rfl
theorem dk_X9_writeEvents_51 : tvD cX9_writeEvents 51 (.getfield 9) 3 54 := tvDl_get dlk_X9_writeEvents 31 rfl rfl
theorem dk_X9_writeEvents_54 : tvD cX9_writeEvents 54 (.sipush 166) 3 57 := tvDl_get dlk_X9_writeEvents 32 rfl rfl
theorem dk_X9_writeEvents_57 : tvD cX9_writeEvents 57 (.iconst 3) 1 58 := tvDl_get dlk_X9_writeEvents 33 rfl rfl
theorem dk_X9_writeEvents_58 : tvD cX9_writeEvents 58 (.iload_n 1) 1 59 := tvDl_get dlk_X9_writeEvents 34 rfl rfl
theorem dk_X9_writeEvents_59 : tvD cX9_writeEvents 59 (.imul) 1 60 := tvDl_get dlk_X9_writeEvents 35 rfl rfl
theorem dk_X9_writeEvents_60 : tvD cX9_writeEvents 60 (.iadd) 1 61 := tvDl_get dlk_X9_writeEvents 36 rfl rfl
theorem dk_X9_writeEvents_61 : tvD cX9_writeEvents 61 (.iconst 2) 1 62 := tvDl_get dlk_X9_writeEvents 37 rfl rfl
theorem dk_X9_writeEvents_62 : tvD cX9_writeEvents 62 (.iadd) 1 63 := tvDl_get dlk_X9_writeEvents 38 rfl rfl
theorem dk_X9_writeEvents_63 : tvD cX9_writeEvents 63 (.iaload) 1 64 := tvDl_get dlk_X9_writeEvents 39 rfl rfl
theorem dk_X9_writeEvents_64 : tvD cX9_writeEvents 64 (.invokevirtual 190) 3 67 := tvDl_get dlk_X9_writeEvents 40 rfl rfl
theorem dk_X9_writeEvents_67 : tvD cX9_writeEvents 67 (.iinc 1 1) 3 70 := tvDl_get dlk_X9_writeEvents 41 rfl rfl
theorem dk_X9_writeEvents_70 : tvJ cX9_writeEvents 70 .goto 12 73 := tvJl_get dlk_X9_writeEvents 42 rfl (by decide) rfl
theorem dk_X9_writeEvents_73 : tvD cX9_writeEvents 73 (.aload_n 0) 1 74 := tvDl_get dlk_X9_writeEvents 43 rfl rfl
theorem dk_X9_writeEvents_74 : tvD cX9_writeEvents 74 (.getfield 187) 3 77 := tvDl_get dlk_X9_writeEvents 44 rfl rfl
theorem dk_X9_writeEvents_77 : tvD cX9_writeEvents 77 (.ireturn) 1 78 := tvDl_get dlk_X9_writeEvents 45 rfl rfl
