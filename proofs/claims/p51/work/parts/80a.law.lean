/-! ===== the law's helpers ===== -/
def wOut (L : List (String × Int32)) (r : Option String × Int32 × tvM) (x : Int32) (M1 : tvM) : Prop := r = (none, x, M1) ∨ ∃ p ∈ L, r = (some p.1, 0, M1) ∧ x = p.2
abbrev wTurn : List (String × Int32) := [("java/lang/IndexOutOfBoundsException", -900001), ("java/lang/IllegalArgumentException", -900002), ("java/lang/IllegalStateException", -900003), ("java/lang/UnsupportedOperationException", -900004)]
theorem tvRx {G : tvG} {y : MethodName} {cc : ByteArray} {n : Nat} {ret : Option FieldType} {d mc ms : Nat} {args : List Value} {M M1 : tvM} {f : Option String × Int32 × tvM} {v : Int32} (h : tvRun G y cc n ret d mc ms tvP0 tvP0 args M (tvOx (some (.int f.2.1)) f.1) f.2.2) (e : f = (none, v, M1)) : tvRun G y cc n ret d mc ms tvP0 tvP0 args M (.inl (some (.int v))) M1 := by
  subst e
  exact h
theorem tvRx' {G : tvG} {y : MethodName} {cc : ByteArray} {n : Nat} {ret : Option FieldType} {d mc ms : Nat} {args : List Value} {M M1 : tvM} {f : Option String × Int32 × tvM} {v : Int32} (h : tvRun G y cc n ret d mc ms tvP0 tvP0 args M (tvOx (some (.int f.2.1)) f.1) M) (e : f = (none, v, M1)) : tvRun G y cc n ret d mc ms tvP0 tvP0 args M (.inl (some (.int v))) M := by
  subst e
  exact h
def inP (n : Nat) (M : tvM) : tvO → va_W → tvM → Prop := fun o X1 M1 => ∃ j : Nat, j < n ∧ o = .inl (some (.int (nI j))) ∧ X1 = [] ∧ M1 = M
theorem z_and (x : Int32) : ∃ a : Nat, a < 2147483648 ∧ x &&& 2147483647 = nI a := by
  refine ⟨x.toUInt32.toNat % 2 ^ 31, Nat.mod_lt _ (by decide), ?_⟩
  have e : x = nI x.toUInt32.toNat := by
    show x = Int32.ofNat x.toUInt32.toNat
    apply Int32.toBitVec_inj.mp
    apply BitVec.eq_of_toNat_eq
    simp [Int32.toBitVec_ofNat, Int32.toNat_toBitVec] 
  rw [← fa_mask, ← e]
  rfl

abbrev hh_L_addHolder : List (Nat × Nat × Nat × Nat) := [(0, 5, 6, 15), (0, 5, 10, 18)]
theorem yw_L_addHolder : tvYw yL_addHolder cL_addHolder 3 (some .int) hh_L_addHolder 2 := ⟨tvgc (tvc_2 (List.mem_of_getElem? (i := 42) (by decide +kernel))) rfl, tvgc (tvc_1 (List.mem_of_getElem? (i := 0) (by decide +kernel))) rfl, by decide +kernel, by decide +kernel, by decide +kernel⟩
theorem ml_RL_9 : Cond.methodLink RL 9 yX8_addHolder ∈ tvGW := tvgc (tvc_2 (List.mem_of_getElem? (i := 45) (by decide +kernel))) rfl
theorem cl_RL_15 : Cond.classLink RL 15 "java/lang/IllegalArgumentException" ∈ tvGW := tvgc (tvc_2 (List.mem_of_getElem? (i := 43) (by decide +kernel))) rfl
theorem ct_1 : Cond.castable "java/lang/IllegalArgumentException" "java/lang/IllegalArgumentException" ∈ tvNest := tvn 145 (by decide +kernel) rfl
theorem kc_17 : Cond.constant RL 17 (-900001) ∈ tvGW := tvgc (tvc_2 (List.mem_of_getElem? (i := 79) (by decide +kernel))) rfl
theorem cl_RL_18 : Cond.classLink RL 18 "java/lang/IllegalStateException" ∈ tvGW := tvgc (tvc_2 (List.mem_of_getElem? (i := 44) (by decide +kernel))) rfl
theorem ct_2 : Cond.castable "java/lang/IllegalStateException" "java/lang/IllegalStateException" ∈ tvNest := tvn 161 (by decide +kernel) rfl
theorem kc_20 : Cond.constant RL 20 (-900002) ∈ tvGW := tvgc (tvc_2 (List.mem_of_getElem? (i := 80) (by decide +kernel))) rfl
abbrev hh_L_addBox : List (Nat × Nat × Nat × Nat) := [(0, 7, 8, 25), (0, 7, 13, 15), (0, 7, 18, 18)]
theorem yw_L_addBox : tvYw yL_addBox cL_addBox 5 (some .int) hh_L_addBox 4 := ⟨tvgc (tvc_4 (List.mem_of_getElem? (i := 25) (by decide +kernel))) rfl, tvgc (tvc_1 (List.mem_of_getElem? (i := 0) (by decide +kernel))) rfl, by decide +kernel, by decide +kernel, by decide +kernel⟩
theorem ml_RL_21 : Cond.methodLink RL 21 yX8_addBox ∈ tvGW := tvgc (tvc_4 (List.mem_of_getElem? (i := 26) (by decide +kernel))) rfl
theorem cl_RL_25 : Cond.classLink RL 25 "java/lang/IndexOutOfBoundsException" ∈ tvGW := tvgc (tvc_2 (List.mem_of_getElem? (i := 99) (by decide +kernel))) rfl
theorem ct_0 : Cond.castable "java/lang/IndexOutOfBoundsException" "java/lang/IndexOutOfBoundsException" ∈ tvNest := tvn 72 (by decide +kernel) rfl
theorem kc_27 : Cond.constant RL 27 (-900003) ∈ tvGW := tvgc (tvc_4 (List.mem_of_getElem? (i := 42) (by decide +kernel))) rfl
abbrev hh_L_setTide : List (Nat × Nat × Nat × Nat) := [(0, 6, 7, 15)]
theorem yw_L_setTide : tvYw yL_setTide cL_setTide 4 (some .int) hh_L_setTide 3 := ⟨tvgc (tvc_2 (List.mem_of_getElem? (i := 83) (by decide +kernel))) rfl, tvgc (tvc_1 (List.mem_of_getElem? (i := 0) (by decide +kernel))) rfl, by decide +kernel, by decide +kernel, by decide +kernel⟩
theorem ml_RL_28 : Cond.methodLink RL 28 yX8_setTide ∈ tvGW := tvgc (tvc_2 (List.mem_of_getElem? (i := 84) (by decide +kernel))) rfl
abbrev hh_L_turnKey : List (Nat × Nat × Nat × Nat) := [(0, 7, 8, 25), (0, 7, 13, 15), (0, 7, 18, 18), (0, 7, 23, 36)]
theorem yw_L_turnKey : tvYw yL_turnKey cL_turnKey 5 (some .int) hh_L_turnKey 4 := ⟨tvgc (tvc_4 (List.mem_of_getElem? (i := 49) (by decide +kernel))) rfl, tvgc (tvc_1 (List.mem_of_getElem? (i := 0) (by decide +kernel))) rfl, by decide +kernel, by decide +kernel, by decide +kernel⟩
theorem ml_RL_32 : Cond.methodLink RL 32 yX8_turnKey ∈ tvGW := tvgc (tvc_4 (List.mem_of_getElem? (i := 51) (by decide +kernel))) rfl
theorem cl_RL_36 : Cond.classLink RL 36 "java/lang/UnsupportedOperationException" ∈ tvGW := tvgc (tvc_4 (List.mem_of_getElem? (i := 50) (by decide +kernel))) rfl
theorem ct_3 : Cond.castable "java/lang/UnsupportedOperationException" "java/lang/UnsupportedOperationException" ∈ tvNest := tvn 177 (by decide +kernel) rfl
theorem kc_38 : Cond.constant RL 38 (-900004) ∈ tvGW := tvgc (tvc_4 (List.mem_of_getElem? (i := 129) (by decide +kernel))) rfl
abbrev hh_L_changeCode : List (Nat × Nat × Nat × Nat) := [(0, 7, 8, 25), (0, 7, 13, 15), (0, 7, 18, 18), (0, 7, 23, 36)]
theorem yw_L_changeCode : tvYw yL_changeCode cL_changeCode 5 (some .int) hh_L_changeCode 4 := ⟨tvgc (tvc_4 (List.mem_of_getElem? (i := 139) (by decide +kernel))) rfl, tvgc (tvc_1 (List.mem_of_getElem? (i := 0) (by decide +kernel))) rfl, by decide +kernel, by decide +kernel, by decide +kernel⟩
theorem ml_RL_39 : Cond.methodLink RL 39 yX8_changeCode ∈ tvGW := tvgc (tvc_4 (List.mem_of_getElem? (i := 140) (by decide +kernel))) rfl
abbrev hh_L_deposit : List (Nat × Nat × Nat × Nat) := [(0, 6, 7, 25), (0, 6, 11, 15), (0, 6, 15, 18)]
theorem yw_L_deposit : tvYw yL_deposit cL_deposit 4 (some .int) hh_L_deposit 3 := ⟨tvgc (tvc_4 (List.mem_of_getElem? (i := 158) (by decide +kernel))) rfl, tvgc (tvc_1 (List.mem_of_getElem? (i := 0) (by decide +kernel))) rfl, by decide +kernel, by decide +kernel, by decide +kernel⟩
theorem ml_RL_42 : Cond.methodLink RL 42 yX8_deposit ∈ tvGW := tvgc (tvc_4 (List.mem_of_getElem? (i := 159) (by decide +kernel))) rfl
abbrev hh_L_withdraw : List (Nat × Nat × Nat × Nat) := [(0, 5, 6, 25), (0, 5, 10, 18), (0, 5, 14, 48)]
theorem yw_L_withdraw : tvYw yL_withdraw cL_withdraw 3 (some .int) hh_L_withdraw 2 := ⟨tvgc (tvc_4 (List.mem_of_getElem? (i := 185) (by decide +kernel))) rfl, tvgc (tvc_1 (List.mem_of_getElem? (i := 0) (by decide +kernel))) rfl, by decide +kernel, by decide +kernel, by decide +kernel⟩
theorem ml_RL_45 : Cond.methodLink RL 45 yX8_withdraw ∈ tvGW := tvgc (tvc_4 (List.mem_of_getElem? (i := 186) (by decide +kernel))) rfl
theorem cl_RL_48 : Cond.classLink RL 48 "java/util/NoSuchElementException" ∈ tvGW := tvgc (tvc_2 (List.mem_of_getElem? (i := 195) (by decide +kernel))) rfl
theorem ct_4 : Cond.castable "java/util/NoSuchElementException" "java/util/NoSuchElementException" ∈ tvNest := tvn 193 (by decide +kernel) rfl
abbrev hh_L_close : List (Nat × Nat × Nat × Nat) := [(0, 5, 6, 25), (0, 5, 10, 18)]
theorem yw_L_close : tvYw yL_close cL_close 3 (some .int) hh_L_close 2 := ⟨tvgc (tvc_2 (List.mem_of_getElem? (i := 98) (by decide +kernel))) rfl, tvgc (tvc_1 (List.mem_of_getElem? (i := 0) (by decide +kernel))) rfl, by decide +kernel, by decide +kernel, by decide +kernel⟩
theorem ml_RL_50 : Cond.methodLink RL 50 yX8_close ∈ tvGW := tvgc (tvc_2 (List.mem_of_getElem? (i := 120) (by decide +kernel))) rfl
abbrev hh_L_pass : List (Nat × Nat × Nat × Nat) := [(0, 5, 6, 15)]
theorem yw_L_pass : tvYw yL_pass cL_pass 3 (some .int) hh_L_pass 2 := ⟨tvgc (tvc_2 (List.mem_of_getElem? (i := 145) (by decide +kernel))) rfl, tvgc (tvc_1 (List.mem_of_getElem? (i := 0) (by decide +kernel))) rfl, by decide +kernel, by decide +kernel, by decide +kernel⟩
theorem ml_RL_53 : Cond.methodLink RL 53 yX8_pass ∈ tvGW := tvgc (tvc_2 (List.mem_of_getElem? (i := 146) (by decide +kernel))) rfl
abbrev hh_L_firstHolder : List (Nat × Nat × Nat × Nat) := [(0, 5, 6, 25), (0, 5, 10, 48)]
theorem yw_L_firstHolder : tvYw yL_firstHolder cL_firstHolder 3 (some .int) hh_L_firstHolder 2 := ⟨tvgc (tvc_6 (List.mem_of_getElem? (i := 168) (by decide +kernel))) rfl, tvgc (tvc_1 (List.mem_of_getElem? (i := 0) (by decide +kernel))) rfl, by decide +kernel, by decide +kernel, by decide +kernel⟩
theorem ml_RL_56 : Cond.methodLink RL 56 yX8_firstHolder ∈ tvGW := tvgc (tvc_6 (List.mem_of_getElem? (i := 169) (by decide +kernel))) rfl
abbrev hh_L_remainingDelay : List (Nat × Nat × Nat × Nat) := [(0, 5, 6, 25), (0, 5, 10, 48)]
theorem yw_L_remainingDelay : tvYw yL_remainingDelay cL_remainingDelay 3 (some .int) hh_L_remainingDelay 2 := ⟨tvgc (tvc_6 (List.mem_of_getElem? (i := 176) (by decide +kernel))) rfl, tvgc (tvc_1 (List.mem_of_getElem? (i := 0) (by decide +kernel))) rfl, by decide +kernel, by decide +kernel, by decide +kernel⟩
theorem ml_RL_59 : Cond.methodLink RL 59 yX8_remainingDelay ∈ tvGW := tvgc (tvc_6 (List.mem_of_getElem? (i := 177) (by decide +kernel))) rfl
abbrev hh_L_minutesUntilOpen : List (Nat × Nat × Nat × Nat) := [(0, 5, 6, 25), (0, 5, 10, 48)]
theorem yw_L_minutesUntilOpen : tvYw yL_minutesUntilOpen cL_minutesUntilOpen 3 (some .int) hh_L_minutesUntilOpen 2 := ⟨tvgc (tvc_2 (List.mem_of_getElem? (i := 194) (by decide +kernel))) rfl, tvgc (tvc_1 (List.mem_of_getElem? (i := 0) (by decide +kernel))) rfl, by decide +kernel, by decide +kernel, by decide +kernel⟩
theorem ml_RL_62 : Cond.methodLink RL 62 yX8_minutesUntilOpen ∈ tvGW := tvgc (tvc_2 (List.mem_of_getElem? (i := 196) (by decide +kernel))) rfl
abbrev hh_L_minutesUntilOpenBySimulation : List (Nat × Nat × Nat × Nat) := [(0, 5, 6, 25), (0, 5, 10, 48)]
theorem yw_L_minutesUntilOpenBySimulation : tvYw yL_minutesUntilOpenBySimulation cL_minutesUntilOpenBySimulation 3 (some .int) hh_L_minutesUntilOpenBySimulation 2 := ⟨tvgc (tvc_6 (List.mem_of_getElem? (i := 223) (by decide +kernel))) rfl, tvgc (tvc_1 (List.mem_of_getElem? (i := 0) (by decide +kernel))) rfl, by decide +kernel, by decide +kernel, by decide +kernel⟩
theorem ml_RL_65 : Cond.methodLink RL 65 yX8_minutesUntilOpenBySimulation ∈ tvGW := tvgc (tvc_6 (List.mem_of_getElem? (i := 224) (by decide +kernel))) rfl
abbrev hh_L_boxByValue : List (Nat × Nat × Nat × Nat) := [(0, 5, 6, 48)]
theorem yw_L_boxByValue : tvYw yL_boxByValue cL_boxByValue 3 (some .int) hh_L_boxByValue 2 := ⟨tvgc (tvc_2 (List.mem_of_getElem? (i := 211) (by decide +kernel))) rfl, tvgc (tvc_1 (List.mem_of_getElem? (i := 0) (by decide +kernel))) rfl, by decide +kernel, by decide +kernel, by decide +kernel⟩
theorem ml_RL_68 : Cond.methodLink RL 68 yX8_boxByValue ∈ tvGW := tvgc (tvc_2 (List.mem_of_getElem? (i := 212) (by decide +kernel))) rfl
abbrev hh_L_run : List (Nat × Nat × Nat × Nat) := [(0, 4, 5, 15), (0, 4, 9, 36)]
theorem yw_L_run : tvYw yL_run cL_run 2 (some .int) hh_L_run 1 := ⟨tvgc (tvc_6 (List.mem_of_getElem? (i := 6) (by decide +kernel))) rfl, tvgc (tvc_1 (List.mem_of_getElem? (i := 0) (by decide +kernel))) rfl, by decide +kernel, by decide +kernel, by decide +kernel⟩
theorem ml_RL_71 : Cond.methodLink RL 71 yX8_run ∈ tvGW := tvgc (tvc_6 (List.mem_of_getElem? (i := 7) (by decide +kernel))) rfl
abbrev hh_L_undo : List (Nat × Nat × Nat × Nat) := [(0, 4, 5, 18)]
theorem yw_L_undo : tvYw yL_undo cL_undo 2 (some .int) hh_L_undo 1 := ⟨tvgc (tvc_2 (List.mem_of_getElem? (i := 234) (by decide +kernel))) rfl, tvgc (tvc_1 (List.mem_of_getElem? (i := 0) (by decide +kernel))) rfl, by decide +kernel, by decide +kernel, by decide +kernel⟩
theorem ml_RL_75 : Cond.methodLink RL 75 yX8_undo ∈ tvGW := tvgc (tvc_2 (List.mem_of_getElem? (i := 235) (by decide +kernel))) rfl
abbrev hh_L_restore : List (Nat × Nat × Nat × Nat) := [(0, 4, 5, 18)]
theorem yw_L_restore : tvYw yL_restore cL_restore 2 (some .int) hh_L_restore 1 := ⟨tvgc (tvc_3 (List.mem_of_getElem? (i := 10) (by decide +kernel))) rfl, tvgc (tvc_1 (List.mem_of_getElem? (i := 0) (by decide +kernel))) rfl, by decide +kernel, by decide +kernel, by decide +kernel⟩
theorem ml_RL_78 : Cond.methodLink RL 78 yX8_restore ∈ tvGW := tvgc (tvc_3 (List.mem_of_getElem? (i := 11) (by decide +kernel))) rfl
abbrev hh_L_isPair : List (Nat × Nat × Nat × Nat) := [(0, 15, 16, 15)]
theorem yw_L_isPair : tvYw yL_isPair cL_isPair 5 (some .boolean) hh_L_isPair 4 := ⟨tvgc (tvc_7 (List.mem_of_getElem? (i := 9) (by decide +kernel))) rfl, tvgc (tvc_1 (List.mem_of_getElem? (i := 0) (by decide +kernel))) rfl, by decide +kernel, by decide +kernel, by decide +kernel⟩
theorem ml_RL_225 : Cond.methodLink RL 225 yX8_otherHolder ∈ tvGW := tvgc (tvc_6 (List.mem_of_getElem? (i := 237) (by decide +kernel))) rfl
theorem yk_L_cell : tvYk yL_cell cL_cell 3 (some .int) 2 := ⟨tvgc (tvc_4 (List.mem_of_getElem? (i := 19) (by decide +kernel))) rfl, tvgc (tvc_1 (List.mem_of_getElem? (i := 0) (by decide +kernel))) rfl, by decide +kernel, by decide +kernel, plainFor_of_name (by decide +kernel)⟩
theorem kc_7 : Cond.constant RL 7 (69069) ∈ tvGW := tvgc (tvc_4 (List.mem_of_getElem? (i := 20) (by decide +kernel))) rfl
theorem kc_8 : Cond.constant RL 8 (1103515245) ∈ tvGW := tvgc (tvc_4 (List.mem_of_getElem? (i := 21) (by decide +kernel))) rfl
theorem yk_L_in : tvYk yL_in cL_in 3 (some .int) 3 := ⟨tvgc (tvc_4 (List.mem_of_getElem? (i := 16) (by decide +kernel))) rfl, tvgc (tvc_1 (List.mem_of_getElem? (i := 0) (by decide +kernel))) rfl, by decide +kernel, by decide +kernel, plainFor_of_name (by decide +kernel)⟩
theorem ml_RL_81 : Cond.methodLink RL 81 yL_cell ∈ tvGW := tvgc (tvc_4 (List.mem_of_getElem? (i := 17) (by decide +kernel))) rfl
theorem yi_L_cell : Cond.static yL_cell ∈ tvGW := tvgc (tvc_4 (List.mem_of_getElem? (i := 18) (by decide +kernel))) rfl
theorem kc_87 : Cond.constant RL 87 (2147483647) ∈ tvGW := tvgc (tvc_4 (List.mem_of_getElem? (i := 22) (by decide +kernel))) rfl
theorem yk_L_turns : tvYk yL_turns cL_turns 4 (some .int) 4 := ⟨tvgc (tvc_4 (List.mem_of_getElem? (i := 46) (by decide +kernel))) rfl, tvgc (tvc_1 (List.mem_of_getElem? (i := 0) (by decide +kernel))) rfl, by decide +kernel, by decide +kernel, plainFor_of_name (by decide +kernel)⟩
theorem ml_RL_122 : Cond.methodLink RL 122 yL_turnKey ∈ tvGW := tvgc (tvc_4 (List.mem_of_getElem? (i := 47) (by decide +kernel))) rfl
theorem yi_L_turnKey : Cond.static yL_turnKey ∈ tvGW := tvgc (tvc_4 (List.mem_of_getElem? (i := 48) (by decide +kernel))) rfl
def dl_L_addBox_g0 : List (Nat × Instr × Nat) := [(0, .aload_n 0, 1), (1, .iload_n 1, 1), (2, .iload_n 2, 1), (3, .iload_n 3, 1), (4, .invokevirtual 21, 3), (7, .ireturn, 1), (8, .astore 4, 2), (10, .ldc 17, 2), (12, .ireturn, 1), (13, .astore 4, 2), (15, .ldc 20, 2), (17, .ireturn, 1), (18, .astore 4, 2), (20, .ldc 27, 2), (22, .ireturn, 1)]
theorem dlk_L_addBox_g0 : tvDl cL_addBox dl_L_addBox_g0 = true := by decide +kernel
theorem dk_L_addBox_0 : tvD cL_addBox 0 (.aload_n 0) 1 1 := tvDl_get dlk_L_addBox_g0 0 rfl rfl
theorem dk_L_addBox_1 : tvD cL_addBox 1 (.iload_n 1) 1 2 := tvDl_get dlk_L_addBox_g0 1 rfl rfl
theorem dk_L_addBox_2 : tvD cL_addBox 2 (.iload_n 2) 1 3 := tvDl_get dlk_L_addBox_g0 2 rfl rfl
theorem dk_L_addBox_3 : tvD cL_addBox 3 (.iload_n 3) 1 4 := tvDl_get dlk_L_addBox_g0 3 rfl rfl
theorem dk_L_addBox_4 : tvD cL_addBox 4 (.invokevirtual 21) 3 7 := tvDl_get dlk_L_addBox_g0 4 rfl rfl
theorem dk_L_addBox_7 : tvD cL_addBox 7 (.ireturn) 1 8 := tvDl_get dlk_L_addBox_g0 5 rfl rfl
theorem dk_L_addBox_8 : tvD cL_addBox 8 (.astore 4) 2 10 := tvDl_get dlk_L_addBox_g0 6 rfl rfl
theorem dk_L_addBox_10 : tvD cL_addBox 10 (.ldc 17) 2 12 := tvDl_get dlk_L_addBox_g0 7 rfl rfl
theorem dk_L_addBox_12 : tvD cL_addBox 12 (.ireturn) 1 13 := tvDl_get dlk_L_addBox_g0 8 rfl rfl
theorem dk_L_addBox_13 : tvD cL_addBox 13 (.astore 4) 2 15 := tvDl_get dlk_L_addBox_g0 9 rfl rfl
theorem dk_L_addBox_15 : tvD cL_addBox 15 (.ldc 20) 2 17 := tvDl_get dlk_L_addBox_g0 10 rfl rfl
theorem dk_L_addBox_17 : tvD cL_addBox 17 (.ireturn) 1 18 := tvDl_get dlk_L_addBox_g0 11 rfl rfl
theorem dk_L_addBox_18 : tvD cL_addBox 18 (.astore 4) 2 20 := tvDl_get dlk_L_addBox_g0 12 rfl rfl
theorem dk_L_addBox_20 : tvD cL_addBox 20 (.ldc 27) 2 22 := tvDl_get dlk_L_addBox_g0 13 rfl rfl
theorem dk_L_addBox_22 : tvD cL_addBox 22 (.ireturn) 1 23 := tvDl_get dlk_L_addBox_g0 14 rfl rfl
def dl_L_addHolder_g0 : List (Nat × Instr × Nat) := [(0, .aload_n 0, 1), (1, .iload_n 1, 1), (2, .invokevirtual 9, 3), (5, .ireturn, 1), (6, .astore_n 2, 1), (7, .ldc 17, 2), (9, .ireturn, 1), (10, .astore_n 2, 1), (11, .ldc 20, 2), (13, .ireturn, 1)]
theorem dlk_L_addHolder_g0 : tvDl cL_addHolder dl_L_addHolder_g0 = true := by decide +kernel
theorem dk_L_addHolder_0 : tvD cL_addHolder 0 (.aload_n 0) 1 1 := tvDl_get dlk_L_addHolder_g0 0 rfl rfl
theorem dk_L_addHolder_1 : tvD cL_addHolder 1 (.iload_n 1) 1 2 := tvDl_get dlk_L_addHolder_g0 1 rfl rfl
theorem dk_L_addHolder_2 : tvD cL_addHolder 2 (.invokevirtual 9) 3 5 := tvDl_get dlk_L_addHolder_g0 2 rfl rfl
theorem dk_L_addHolder_5 : tvD cL_addHolder 5 (.ireturn) 1 6 := tvDl_get dlk_L_addHolder_g0 3 rfl rfl
theorem dk_L_addHolder_6 : tvD cL_addHolder 6 (.astore_n 2) 1 7 := tvDl_get dlk_L_addHolder_g0 4 rfl rfl
theorem dk_L_addHolder_7 : tvD cL_addHolder 7 (.ldc 17) 2 9 := tvDl_get dlk_L_addHolder_g0 5 rfl rfl
theorem dk_L_addHolder_9 : tvD cL_addHolder 9 (.ireturn) 1 10 := tvDl_get dlk_L_addHolder_g0 6 rfl rfl
theorem dk_L_addHolder_10 : tvD cL_addHolder 10 (.astore_n 2) 1 11 := tvDl_get dlk_L_addHolder_g0 7 rfl rfl
theorem dk_L_addHolder_11 : tvD cL_addHolder 11 (.ldc 20) 2 13 := tvDl_get dlk_L_addHolder_g0 8 rfl rfl
theorem dk_L_addHolder_13 : tvD cL_addHolder 13 (.ireturn) 1 14 := tvDl_get dlk_L_addHolder_g0 9 rfl rfl
def dl_L_boxByValue_g0 : List (Nat × Instr × Nat) := [(0, .aload_n 0, 1), (1, .iload_n 1, 1), (2, .invokevirtual 68, 3), (5, .ireturn, 1), (6, .astore_n 2, 1), (7, .ldc 17, 2), (9, .ireturn, 1)]
theorem dlk_L_boxByValue_g0 : tvDl cL_boxByValue dl_L_boxByValue_g0 = true := by decide +kernel
theorem dk_L_boxByValue_0 : tvD cL_boxByValue 0 (.aload_n 0) 1 1 := tvDl_get dlk_L_boxByValue_g0 0 rfl rfl
theorem dk_L_boxByValue_1 : tvD cL_boxByValue 1 (.iload_n 1) 1 2 := tvDl_get dlk_L_boxByValue_g0 1 rfl rfl
theorem dk_L_boxByValue_2 : tvD cL_boxByValue 2 (.invokevirtual 68) 3 5 := tvDl_get dlk_L_boxByValue_g0 2 rfl rfl
theorem dk_L_boxByValue_5 : tvD cL_boxByValue 5 (.ireturn) 1 6 := tvDl_get dlk_L_boxByValue_g0 3 rfl rfl
theorem dk_L_boxByValue_6 : tvD cL_boxByValue 6 (.astore_n 2) 1 7 := tvDl_get dlk_L_boxByValue_g0 4 rfl rfl
theorem dk_L_boxByValue_7 : tvD cL_boxByValue 7 (.ldc 17) 2 9 := tvDl_get dlk_L_boxByValue_g0 5 rfl rfl
theorem dk_L_boxByValue_9 : tvD cL_boxByValue 9 (.ireturn) 1 10 := tvDl_get dlk_L_boxByValue_g0 6 rfl rfl
def dl_L_cell_g0 : List (Nat × Instr × Nat) := [(0, .ldc 7, 2), (2, .iload_n 1, 1), (3, .aload_n 0, 1), (4, .arraylength, 1), (5, .if_icmp .ge 9, 3), (8, .aload_n 0, 1), (9, .iload_n 1, 1), (10, .iaload, 1), (11, .goto 4, 3), (14, .iconst 0, 1), (15, .sipush 1009, 3), (18, .iload_n 1, 1), (19, .imul, 1), (20, .iadd, 1), (21, .imul, 1), (22, .sipush 12345, 3), (25, .iadd, 1), (26, .istore_n 2, 1), (27, .iload_n 2, 1), (28, .iload_n 2, 1), (29, .bipush 13, 2), (31, .iushr, 1), (32, .ixor, 1), (33, .ldc 8, 2), (35, .imul, 1), (36, .istore_n 2, 1), (37, .iload_n 2, 1), (38, .iload_n 2, 1), (39, .bipush 16, 2), (41, .iushr, 1), (42, .ixor, 1), (43, .ireturn, 1)]
theorem dlk_L_cell_g0 : tvDl cL_cell dl_L_cell_g0 = true := by decide +kernel
theorem dk_L_cell_0 : tvD cL_cell 0 (.ldc 7) 2 2 := tvDl_get dlk_L_cell_g0 0 rfl rfl
theorem dk_L_cell_2 : tvD cL_cell 2 (.iload_n 1) 1 3 := tvDl_get dlk_L_cell_g0 1 rfl rfl
theorem dk_L_cell_3 : tvD cL_cell 3 (.aload_n 0) 1 4 := tvDl_get dlk_L_cell_g0 2 rfl rfl
theorem dk_L_cell_4 : tvD cL_cell 4 (.arraylength) 1 5 := tvDl_get dlk_L_cell_g0 3 rfl rfl
theorem dk_L_cell_5 : tvJ cL_cell 5 (.if_icmp .ge) 14 8 := tvJl_get dlk_L_cell_g0 4 rfl (by decide) rfl
theorem dk_L_cell_8 : tvD cL_cell 8 (.aload_n 0) 1 9 := tvDl_get dlk_L_cell_g0 5 rfl rfl
theorem dk_L_cell_9 : tvD cL_cell 9 (.iload_n 1) 1 10 := tvDl_get dlk_L_cell_g0 6 rfl rfl
theorem dk_L_cell_10 : tvD cL_cell 10 (.iaload) 1 11 := tvDl_get dlk_L_cell_g0 7 rfl rfl
theorem dk_L_cell_11 : tvJ cL_cell 11 .goto 15 14 := tvJl_get dlk_L_cell_g0 8 rfl (by decide) rfl
theorem dk_L_cell_14 : tvD cL_cell 14 (.iconst 0) 1 15 := tvDl_get dlk_L_cell_g0 9 rfl rfl
theorem dk_L_cell_15 : tvD cL_cell 15 (.sipush 1009) 3 18 := tvDl_get dlk_L_cell_g0 10 rfl rfl
theorem dk_L_cell_18 : tvD cL_cell 18 (.iload_n 1) 1 19 := tvDl_get dlk_L_cell_g0 11 rfl rfl
theorem dk_L_cell_19 : tvD cL_cell 19 (.imul) 1 20 := tvDl_get dlk_L_cell_g0 12 rfl rfl
theorem dk_L_cell_20 : tvD cL_cell 20 (.iadd) 1 21 := tvDl_get dlk_L_cell_g0 13 rfl rfl
theorem dk_L_cell_21 : tvD cL_cell 21 (.imul) 1 22 := tvDl_get dlk_L_cell_g0 14 rfl rfl
theorem dk_L_cell_22 : tvD cL_cell 22 (.sipush 12345) 3 25 := tvDl_get dlk_L_cell_g0 15 rfl rfl
theorem dk_L_cell_25 : tvD cL_cell 25 (.iadd) 1 26 := tvDl_get dlk_L_cell_g0 16 rfl rfl
theorem dk_L_cell_26 : tvD cL_cell 26 (.istore_n 2) 1 27 := tvDl_get dlk_L_cell_g0 17 rfl rfl
theorem dk_L_cell_27 : tvD cL_cell 27 (.iload_n 2) 1 28 := tvDl_get dlk_L_cell_g0 18 rfl rfl
theorem dk_L_cell_28 : tvD cL_cell 28 (.iload_n 2) 1 29 := tvDl_get dlk_L_cell_g0 19 rfl rfl
theorem dk_L_cell_29 : tvD cL_cell 29 (.bipush 13) 2 31 := tvDl_get dlk_L_cell_g0 20 rfl rfl
theorem dk_L_cell_31 : tvD cL_cell 31 (.iushr) 1 32 := tvDl_get dlk_L_cell_g0 21 rfl rfl
theorem dk_L_cell_32 : tvD cL_cell 32 (.ixor) 1 33 := tvDl_get dlk_L_cell_g0 22 rfl rfl
theorem dk_L_cell_33 : tvD cL_cell 33 (.ldc 8) 2 35 := tvDl_get dlk_L_cell_g0 23 rfl rfl
theorem dk_L_cell_35 : tvD cL_cell 35 (.imul) 1 36 := tvDl_get dlk_L_cell_g0 24 rfl rfl
theorem dk_L_cell_36 : tvD cL_cell 36 (.istore_n 2) 1 37 := tvDl_get dlk_L_cell_g0 25 rfl rfl
theorem dk_L_cell_37 : tvD cL_cell 37 (.iload_n 2) 1 38 := tvDl_get dlk_L_cell_g0 26 rfl rfl
theorem dk_L_cell_38 : tvD cL_cell 38 (.iload_n 2) 1 39 := tvDl_get dlk_L_cell_g0 27 rfl rfl
theorem dk_L_cell_39 : tvD cL_cell 39 (.bipush 16) 2 41 := tvDl_get dlk_L_cell_g0 28 rfl rfl
theorem dk_L_cell_41 : tvD cL_cell 41 (.iushr) 1 42 := tvDl_get dlk_L_cell_g0 29 rfl rfl
theorem dk_L_cell_42 : tvD cL_cell 42 (.ixor) 1 43 := tvDl_get dlk_L_cell_g0 30 rfl rfl
theorem dk_L_cell_43 : tvD cL_cell 43 (.ireturn) 1 44 := tvDl_get dlk_L_cell_g0 31 rfl rfl
def dl_L_changeCode_g0 : List (Nat × Instr × Nat) := [(0, .aload_n 0, 1), (1, .iload_n 1, 1), (2, .iload_n 2, 1), (3, .iload_n 3, 1), (4, .invokevirtual 39, 3), (7, .ireturn, 1), (8, .astore 4, 2), (10, .ldc 17, 2), (12, .ireturn, 1), (13, .astore 4, 2), (15, .ldc 20, 2), (17, .ireturn, 1), (18, .astore 4, 2), (20, .ldc 27, 2), (22, .ireturn, 1), (23, .astore 4, 2), (25, .ldc 38, 2), (27, .ireturn, 1)]
theorem dlk_L_changeCode_g0 : tvDl cL_changeCode dl_L_changeCode_g0 = true := by decide +kernel
theorem dk_L_changeCode_0 : tvD cL_changeCode 0 (.aload_n 0) 1 1 := tvDl_get dlk_L_changeCode_g0 0 rfl rfl
theorem dk_L_changeCode_1 : tvD cL_changeCode 1 (.iload_n 1) 1 2 := tvDl_get dlk_L_changeCode_g0 1 rfl rfl
theorem dk_L_changeCode_2 : tvD cL_changeCode 2 (.iload_n 2) 1 3 := tvDl_get dlk_L_changeCode_g0 2 rfl rfl
theorem dk_L_changeCode_3 : tvD cL_changeCode 3 (.iload_n 3) 1 4 := tvDl_get dlk_L_changeCode_g0 3 rfl rfl
theorem dk_L_changeCode_4 : tvD cL_changeCode 4 (.invokevirtual 39) 3 7 := tvDl_get dlk_L_changeCode_g0 4 rfl rfl
theorem dk_L_changeCode_7 : tvD cL_changeCode 7 (.ireturn) 1 8 := tvDl_get dlk_L_changeCode_g0 5 rfl rfl
theorem dk_L_changeCode_8 : tvD cL_changeCode 8 (.astore 4) 2 10 := tvDl_get dlk_L_changeCode_g0 6 rfl rfl
theorem dk_L_changeCode_10 : tvD cL_changeCode 10 (.ldc 17) 2 12 := tvDl_get dlk_L_changeCode_g0 7 rfl rfl
theorem dk_L_changeCode_12 : tvD cL_changeCode 12 (.ireturn) 1 13 := tvDl_get dlk_L_changeCode_g0 8 rfl rfl
theorem dk_L_changeCode_13 : tvD cL_changeCode 13 (.astore 4) 2 15 := tvDl_get dlk_L_changeCode_g0 9 rfl rfl
theorem dk_L_changeCode_15 : tvD cL_changeCode 15 (.ldc 20) 2 17 := tvDl_get dlk_L_changeCode_g0 10 rfl rfl
theorem dk_L_changeCode_17 : tvD cL_changeCode 17 (.ireturn) 1 18 := tvDl_get dlk_L_changeCode_g0 11 rfl rfl
theorem dk_L_changeCode_18 : tvD cL_changeCode 18 (.astore 4) 2 20 := tvDl_get dlk_L_changeCode_g0 12 rfl rfl
theorem dk_L_changeCode_20 : tvD cL_changeCode 20 (.ldc 27) 2 22 := tvDl_get dlk_L_changeCode_g0 13 rfl rfl
theorem dk_L_changeCode_22 : tvD cL_changeCode 22 (.ireturn) 1 23 := tvDl_get dlk_L_changeCode_g0 14 rfl rfl
theorem dk_L_changeCode_23 : tvD cL_changeCode 23 (.astore 4) 2 25 := tvDl_get dlk_L_changeCode_g0 15 rfl rfl
theorem dk_L_changeCode_25 : tvD cL_changeCode 25 (.ldc 38) 2 27 := tvDl_get dlk_L_changeCode_g0 16 rfl rfl
theorem dk_L_changeCode_27 : tvD cL_changeCode 27 (.ireturn) 1 28 := tvDl_get dlk_L_changeCode_g0 17 rfl rfl
def dl_L_close_g0 : List (Nat × Instr × Nat) := [(0, .aload_n 0, 1), (1, .iload_n 1, 1), (2, .invokevirtual 50, 3), (5, .ireturn, 1), (6, .astore_n 2, 1), (7, .ldc 17, 2), (9, .ireturn, 1), (10, .astore_n 2, 1), (11, .ldc 20, 2), (13, .ireturn, 1)]
theorem dlk_L_close_g0 : tvDl cL_close dl_L_close_g0 = true := by decide +kernel
theorem dk_L_close_0 : tvD cL_close 0 (.aload_n 0) 1 1 := tvDl_get dlk_L_close_g0 0 rfl rfl
theorem dk_L_close_1 : tvD cL_close 1 (.iload_n 1) 1 2 := tvDl_get dlk_L_close_g0 1 rfl rfl
theorem dk_L_close_2 : tvD cL_close 2 (.invokevirtual 50) 3 5 := tvDl_get dlk_L_close_g0 2 rfl rfl
theorem dk_L_close_5 : tvD cL_close 5 (.ireturn) 1 6 := tvDl_get dlk_L_close_g0 3 rfl rfl
theorem dk_L_close_6 : tvD cL_close 6 (.astore_n 2) 1 7 := tvDl_get dlk_L_close_g0 4 rfl rfl
theorem dk_L_close_7 : tvD cL_close 7 (.ldc 17) 2 9 := tvDl_get dlk_L_close_g0 5 rfl rfl
theorem dk_L_close_9 : tvD cL_close 9 (.ireturn) 1 10 := tvDl_get dlk_L_close_g0 6 rfl rfl
theorem dk_L_close_10 : tvD cL_close 10 (.astore_n 2) 1 11 := tvDl_get dlk_L_close_g0 7 rfl rfl
theorem dk_L_close_11 : tvD cL_close 11 (.ldc 20) 2 13 := tvDl_get dlk_L_close_g0 8 rfl rfl
theorem dk_L_close_13 : tvD cL_close 13 (.ireturn) 1 14 := tvDl_get dlk_L_close_g0 9 rfl rfl
def dl_L_deposit_g0 : List (Nat × Instr × Nat) := [(0, .aload_n 0, 1), (1, .iload_n 1, 1), (2, .iload_n 2, 1), (3, .invokevirtual 42, 3), (6, .ireturn, 1), (7, .astore_n 3, 1), (8, .ldc 17, 2), (10, .ireturn, 1), (11, .astore_n 3, 1), (12, .ldc 20, 2), (14, .ireturn, 1), (15, .astore_n 3, 1), (16, .ldc 27, 2), (18, .ireturn, 1)]
theorem dlk_L_deposit_g0 : tvDl cL_deposit dl_L_deposit_g0 = true := by decide +kernel
theorem dk_L_deposit_0 : tvD cL_deposit 0 (.aload_n 0) 1 1 := tvDl_get dlk_L_deposit_g0 0 rfl rfl
theorem dk_L_deposit_1 : tvD cL_deposit 1 (.iload_n 1) 1 2 := tvDl_get dlk_L_deposit_g0 1 rfl rfl
theorem dk_L_deposit_2 : tvD cL_deposit 2 (.iload_n 2) 1 3 := tvDl_get dlk_L_deposit_g0 2 rfl rfl
theorem dk_L_deposit_3 : tvD cL_deposit 3 (.invokevirtual 42) 3 6 := tvDl_get dlk_L_deposit_g0 3 rfl rfl
theorem dk_L_deposit_6 : tvD cL_deposit 6 (.ireturn) 1 7 := tvDl_get dlk_L_deposit_g0 4 rfl rfl
theorem dk_L_deposit_7 : tvD cL_deposit 7 (.astore_n 3) 1 8 := tvDl_get dlk_L_deposit_g0 5 rfl rfl
theorem dk_L_deposit_8 : tvD cL_deposit 8 (.ldc 17) 2 10 := tvDl_get dlk_L_deposit_g0 6 rfl rfl
theorem dk_L_deposit_10 : tvD cL_deposit 10 (.ireturn) 1 11 := tvDl_get dlk_L_deposit_g0 7 rfl rfl
theorem dk_L_deposit_11 : tvD cL_deposit 11 (.astore_n 3) 1 12 := tvDl_get dlk_L_deposit_g0 8 rfl rfl
theorem dk_L_deposit_12 : tvD cL_deposit 12 (.ldc 20) 2 14 := tvDl_get dlk_L_deposit_g0 9 rfl rfl
theorem dk_L_deposit_14 : tvD cL_deposit 14 (.ireturn) 1 15 := tvDl_get dlk_L_deposit_g0 10 rfl rfl
theorem dk_L_deposit_15 : tvD cL_deposit 15 (.astore_n 3) 1 16 := tvDl_get dlk_L_deposit_g0 11 rfl rfl
theorem dk_L_deposit_16 : tvD cL_deposit 16 (.ldc 27) 2 18 := tvDl_get dlk_L_deposit_g0 12 rfl rfl
theorem dk_L_deposit_18 : tvD cL_deposit 18 (.ireturn) 1 19 := tvDl_get dlk_L_deposit_g0 13 rfl rfl
def dl_L_firstHolder_g0 : List (Nat × Instr × Nat) := [(0, .aload_n 0, 1), (1, .iload_n 1, 1), (2, .invokevirtual 56, 3), (5, .ireturn, 1), (6, .astore_n 2, 1), (7, .ldc 17, 2), (9, .ireturn, 1), (10, .astore_n 2, 1), (11, .ldc 20, 2), (13, .ireturn, 1)]
theorem dlk_L_firstHolder_g0 : tvDl cL_firstHolder dl_L_firstHolder_g0 = true := by decide +kernel
theorem dk_L_firstHolder_0 : tvD cL_firstHolder 0 (.aload_n 0) 1 1 := tvDl_get dlk_L_firstHolder_g0 0 rfl rfl
theorem dk_L_firstHolder_1 : tvD cL_firstHolder 1 (.iload_n 1) 1 2 := tvDl_get dlk_L_firstHolder_g0 1 rfl rfl
theorem dk_L_firstHolder_2 : tvD cL_firstHolder 2 (.invokevirtual 56) 3 5 := tvDl_get dlk_L_firstHolder_g0 2 rfl rfl
theorem dk_L_firstHolder_5 : tvD cL_firstHolder 5 (.ireturn) 1 6 := tvDl_get dlk_L_firstHolder_g0 3 rfl rfl
theorem dk_L_firstHolder_6 : tvD cL_firstHolder 6 (.astore_n 2) 1 7 := tvDl_get dlk_L_firstHolder_g0 4 rfl rfl
theorem dk_L_firstHolder_7 : tvD cL_firstHolder 7 (.ldc 17) 2 9 := tvDl_get dlk_L_firstHolder_g0 5 rfl rfl
theorem dk_L_firstHolder_9 : tvD cL_firstHolder 9 (.ireturn) 1 10 := tvDl_get dlk_L_firstHolder_g0 6 rfl rfl
theorem dk_L_firstHolder_10 : tvD cL_firstHolder 10 (.astore_n 2) 1 11 := tvDl_get dlk_L_firstHolder_g0 7 rfl rfl
theorem dk_L_firstHolder_11 : tvD cL_firstHolder 11 (.ldc 20) 2 13 := tvDl_get dlk_L_firstHolder_g0 8 rfl rfl
theorem dk_L_firstHolder_13 : tvD cL_firstHolder 13 (.ireturn) 1 14 := tvDl_get dlk_L_firstHolder_g0 9 rfl rfl
def dl_L_in_g0 : List (Nat × Instr × Nat) := [(0, .aload_n 0, 1), (1, .iload_n 1, 1), (2, .invokestatic 81, 3), (5, .ldc 87, 2), (7, .iand, 1), (8, .iload_n 2, 1), (9, .irem, 1), (10, .ireturn, 1)]
theorem dlk_L_in_g0 : tvDl cL_in dl_L_in_g0 = true := by decide +kernel
theorem dk_L_in_0 : tvD cL_in 0 (.aload_n 0) 1 1 := tvDl_get dlk_L_in_g0 0 rfl rfl
theorem dk_L_in_1 : tvD cL_in 1 (.iload_n 1) 1 2 := tvDl_get dlk_L_in_g0 1 rfl rfl
theorem dk_L_in_2 : tvD cL_in 2 (.invokestatic 81) 3 5 := tvDl_get dlk_L_in_g0 2 rfl rfl
theorem dk_L_in_5 : tvD cL_in 5 (.ldc 87) 2 7 := tvDl_get dlk_L_in_g0 3 rfl rfl
theorem dk_L_in_7 : tvD cL_in 7 (.iand) 1 8 := tvDl_get dlk_L_in_g0 4 rfl rfl
theorem dk_L_in_8 : tvD cL_in 8 (.iload_n 2) 1 9 := tvDl_get dlk_L_in_g0 5 rfl rfl
theorem dk_L_in_9 : tvD cL_in 9 (.irem) 1 10 := tvDl_get dlk_L_in_g0 6 rfl rfl
theorem dk_L_in_10 : tvD cL_in 10 (.ireturn) 1 11 := tvDl_get dlk_L_in_g0 7 rfl rfl
def dl_L_isPair_g0 : List (Nat × Instr × Nat) := [(0, .aload_n 0, 1), (1, .iload_n 1, 1), (2, .iload_n 2, 1), (3, .invokevirtual 225, 3), (6, .iload_n 3, 1), (7, .if_icmp .ne 7, 3), (10, .iconst 1, 1), (11, .goto 4, 3), (14, .iconst 0, 1), (15, .ireturn, 1), (16, .astore 4, 2), (18, .iconst 0, 1), (19, .ireturn, 1)]
theorem dlk_L_isPair_g0 : tvDl cL_isPair dl_L_isPair_g0 = true := by decide +kernel
theorem dk_L_isPair_0 : tvD cL_isPair 0 (.aload_n 0) 1 1 := tvDl_get dlk_L_isPair_g0 0 rfl rfl
theorem dk_L_isPair_1 : tvD cL_isPair 1 (.iload_n 1) 1 2 := tvDl_get dlk_L_isPair_g0 1 rfl rfl
theorem dk_L_isPair_2 : tvD cL_isPair 2 (.iload_n 2) 1 3 := tvDl_get dlk_L_isPair_g0 2 rfl rfl
theorem dk_L_isPair_3 : tvD cL_isPair 3 (.invokevirtual 225) 3 6 := tvDl_get dlk_L_isPair_g0 3 rfl rfl
theorem dk_L_isPair_6 : tvD cL_isPair 6 (.iload_n 3) 1 7 := tvDl_get dlk_L_isPair_g0 4 rfl rfl
theorem dk_L_isPair_7 : tvJ cL_isPair 7 (.if_icmp .ne) 14 10 := tvJl_get dlk_L_isPair_g0 5 rfl (by decide) rfl
theorem dk_L_isPair_10 : tvD cL_isPair 10 (.iconst 1) 1 11 := tvDl_get dlk_L_isPair_g0 6 rfl rfl
theorem dk_L_isPair_11 : tvJ cL_isPair 11 .goto 15 14 := tvJl_get dlk_L_isPair_g0 7 rfl (by decide) rfl
theorem dk_L_isPair_14 : tvD cL_isPair 14 (.iconst 0) 1 15 := tvDl_get dlk_L_isPair_g0 8 rfl rfl
theorem dk_L_isPair_15 : tvD cL_isPair 15 (.ireturn) 1 16 := tvDl_get dlk_L_isPair_g0 9 rfl rfl
theorem dk_L_isPair_16 : tvD cL_isPair 16 (.astore 4) 2 18 := tvDl_get dlk_L_isPair_g0 10 rfl rfl
theorem dk_L_isPair_18 : tvD cL_isPair 18 (.iconst 0) 1 19 := tvDl_get dlk_L_isPair_g0 11 rfl rfl
theorem dk_L_isPair_19 : tvD cL_isPair 19 (.ireturn) 1 20 := tvDl_get dlk_L_isPair_g0 12 rfl rfl
def dl_L_minutesUntilOpen_g0 : List (Nat × Instr × Nat) := [(0, .aload_n 0, 1), (1, .iload_n 1, 1), (2, .invokevirtual 62, 3), (5, .ireturn, 1), (6, .astore_n 2, 1), (7, .ldc 17, 2), (9, .ireturn, 1), (10, .astore_n 2, 1), (11, .ldc 20, 2), (13, .ireturn, 1)]
theorem dlk_L_minutesUntilOpen_g0 : tvDl cL_minutesUntilOpen dl_L_minutesUntilOpen_g0 = true := by decide +kernel
theorem dk_L_minutesUntilOpen_0 : tvD cL_minutesUntilOpen 0 (.aload_n 0) 1 1 := tvDl_get dlk_L_minutesUntilOpen_g0 0 rfl rfl
theorem dk_L_minutesUntilOpen_1 : tvD cL_minutesUntilOpen 1 (.iload_n 1) 1 2 := tvDl_get dlk_L_minutesUntilOpen_g0 1 rfl rfl
theorem dk_L_minutesUntilOpen_2 : tvD cL_minutesUntilOpen 2 (.invokevirtual 62) 3 5 := tvDl_get dlk_L_minutesUntilOpen_g0 2 rfl rfl
theorem dk_L_minutesUntilOpen_5 : tvD cL_minutesUntilOpen 5 (.ireturn) 1 6 := tvDl_get dlk_L_minutesUntilOpen_g0 3 rfl rfl
theorem dk_L_minutesUntilOpen_6 : tvD cL_minutesUntilOpen 6 (.astore_n 2) 1 7 := tvDl_get dlk_L_minutesUntilOpen_g0 4 rfl rfl
theorem dk_L_minutesUntilOpen_7 : tvD cL_minutesUntilOpen 7 (.ldc 17) 2 9 := tvDl_get dlk_L_minutesUntilOpen_g0 5 rfl rfl
theorem dk_L_minutesUntilOpen_9 : tvD cL_minutesUntilOpen 9 (.ireturn) 1 10 := tvDl_get dlk_L_minutesUntilOpen_g0 6 rfl rfl
theorem dk_L_minutesUntilOpen_10 : tvD cL_minutesUntilOpen 10 (.astore_n 2) 1 11 := tvDl_get dlk_L_minutesUntilOpen_g0 7 rfl rfl
theorem dk_L_minutesUntilOpen_11 : tvD cL_minutesUntilOpen 11 (.ldc 20) 2 13 := tvDl_get dlk_L_minutesUntilOpen_g0 8 rfl rfl
theorem dk_L_minutesUntilOpen_13 : tvD cL_minutesUntilOpen 13 (.ireturn) 1 14 := tvDl_get dlk_L_minutesUntilOpen_g0 9 rfl rfl
def dl_L_minutesUntilOpenBySimulation_g0 : List (Nat × Instr × Nat) := [(0, .aload_n 0, 1), (1, .iload_n 1, 1), (2, .invokevirtual 65, 3), (5, .ireturn, 1), (6, .astore_n 2, 1), (7, .ldc 17, 2), (9, .ireturn, 1), (10, .astore_n 2, 1), (11, .ldc 20, 2), (13, .ireturn, 1)]
theorem dlk_L_minutesUntilOpenBySimulation_g0 : tvDl cL_minutesUntilOpenBySimulation dl_L_minutesUntilOpenBySimulation_g0 = true := by decide +kernel
theorem dk_L_minutesUntilOpenBySimulation_0 : tvD cL_minutesUntilOpenBySimulation 0 (.aload_n 0) 1 1 := tvDl_get dlk_L_minutesUntilOpenBySimulation_g0 0 rfl rfl
theorem dk_L_minutesUntilOpenBySimulation_1 : tvD cL_minutesUntilOpenBySimulation 1 (.iload_n 1) 1 2 := tvDl_get dlk_L_minutesUntilOpenBySimulation_g0 1 rfl rfl
theorem dk_L_minutesUntilOpenBySimulation_2 : tvD cL_minutesUntilOpenBySimulation 2 (.invokevirtual 65) 3 5 := tvDl_get dlk_L_minutesUntilOpenBySimulation_g0 2 rfl rfl
theorem dk_L_minutesUntilOpenBySimulation_5 : tvD cL_minutesUntilOpenBySimulation 5 (.ireturn) 1 6 := tvDl_get dlk_L_minutesUntilOpenBySimulation_g0 3 rfl rfl
theorem dk_L_minutesUntilOpenBySimulation_6 : tvD cL_minutesUntilOpenBySimulation 6 (.astore_n 2) 1 7 := tvDl_get dlk_L_minutesUntilOpenBySimulation_g0 4 rfl rfl
theorem dk_L_minutesUntilOpenBySimulation_7 : tvD cL_minutesUntilOpenBySimulation 7 (.ldc 17) 2 9 := tvDl_get dlk_L_minutesUntilOpenBySimulation_g0 5 rfl rfl
theorem dk_L_minutesUntilOpenBySimulation_9 : tvD cL_minutesUntilOpenBySimulation 9 (.ireturn) 1 10 := tvDl_get dlk_L_minutesUntilOpenBySimulation_g0 6 rfl rfl
theorem dk_L_minutesUntilOpenBySimulation_10 : tvD cL_minutesUntilOpenBySimulation 10 (.astore_n 2) 1 11 := tvDl_get dlk_L_minutesUntilOpenBySimulation_g0 7 rfl rfl
theorem dk_L_minutesUntilOpenBySimulation_11 : tvD cL_minutesUntilOpenBySimulation 11 (.ldc 20) 2 13 := tvDl_get dlk_L_minutesUntilOpenBySimulation_g0 8 rfl rfl
theorem dk_L_minutesUntilOpenBySimulation_13 : tvD cL_minutesUntilOpenBySimulation 13 (.ireturn) 1 14 := tvDl_get dlk_L_minutesUntilOpenBySimulation_g0 9 rfl rfl
def dl_L_pass_g0 : List (Nat × Instr × Nat) := [(0, .aload_n 0, 1), (1, .iload_n 1, 1), (2, .invokevirtual 53, 3), (5, .ireturn, 1), (6, .astore_n 2, 1), (7, .ldc 17, 2), (9, .ireturn, 1)]
theorem dlk_L_pass_g0 : tvDl cL_pass dl_L_pass_g0 = true := by decide +kernel
theorem dk_L_pass_0 : tvD cL_pass 0 (.aload_n 0) 1 1 := tvDl_get dlk_L_pass_g0 0 rfl rfl
theorem dk_L_pass_1 : tvD cL_pass 1 (.iload_n 1) 1 2 := tvDl_get dlk_L_pass_g0 1 rfl rfl
theorem dk_L_pass_2 : tvD cL_pass 2 (.invokevirtual 53) 3 5 := tvDl_get dlk_L_pass_g0 2 rfl rfl
theorem dk_L_pass_5 : tvD cL_pass 5 (.ireturn) 1 6 := tvDl_get dlk_L_pass_g0 3 rfl rfl
theorem dk_L_pass_6 : tvD cL_pass 6 (.astore_n 2) 1 7 := tvDl_get dlk_L_pass_g0 4 rfl rfl
theorem dk_L_pass_7 : tvD cL_pass 7 (.ldc 17) 2 9 := tvDl_get dlk_L_pass_g0 5 rfl rfl
theorem dk_L_pass_9 : tvD cL_pass 9 (.ireturn) 1 10 := tvDl_get dlk_L_pass_g0 6 rfl rfl
def dl_L_remainingDelay_g0 : List (Nat × Instr × Nat) := [(0, .aload_n 0, 1), (1, .iload_n 1, 1), (2, .invokevirtual 59, 3), (5, .ireturn, 1), (6, .astore_n 2, 1), (7, .ldc 17, 2), (9, .ireturn, 1), (10, .astore_n 2, 1), (11, .ldc 20, 2), (13, .ireturn, 1)]
theorem dlk_L_remainingDelay_g0 : tvDl cL_remainingDelay dl_L_remainingDelay_g0 = true := by decide +kernel
theorem dk_L_remainingDelay_0 : tvD cL_remainingDelay 0 (.aload_n 0) 1 1 := tvDl_get dlk_L_remainingDelay_g0 0 rfl rfl
theorem dk_L_remainingDelay_1 : tvD cL_remainingDelay 1 (.iload_n 1) 1 2 := tvDl_get dlk_L_remainingDelay_g0 1 rfl rfl
theorem dk_L_remainingDelay_2 : tvD cL_remainingDelay 2 (.invokevirtual 59) 3 5 := tvDl_get dlk_L_remainingDelay_g0 2 rfl rfl
theorem dk_L_remainingDelay_5 : tvD cL_remainingDelay 5 (.ireturn) 1 6 := tvDl_get dlk_L_remainingDelay_g0 3 rfl rfl
theorem dk_L_remainingDelay_6 : tvD cL_remainingDelay 6 (.astore_n 2) 1 7 := tvDl_get dlk_L_remainingDelay_g0 4 rfl rfl
theorem dk_L_remainingDelay_7 : tvD cL_remainingDelay 7 (.ldc 17) 2 9 := tvDl_get dlk_L_remainingDelay_g0 5 rfl rfl
theorem dk_L_remainingDelay_9 : tvD cL_remainingDelay 9 (.ireturn) 1 10 := tvDl_get dlk_L_remainingDelay_g0 6 rfl rfl
theorem dk_L_remainingDelay_10 : tvD cL_remainingDelay 10 (.astore_n 2) 1 11 := tvDl_get dlk_L_remainingDelay_g0 7 rfl rfl
theorem dk_L_remainingDelay_11 : tvD cL_remainingDelay 11 (.ldc 20) 2 13 := tvDl_get dlk_L_remainingDelay_g0 8 rfl rfl
theorem dk_L_remainingDelay_13 : tvD cL_remainingDelay 13 (.ireturn) 1 14 := tvDl_get dlk_L_remainingDelay_g0 9 rfl rfl
def dl_L_restore_g0 : List (Nat × Instr × Nat) := [(0, .aload_n 0, 1), (1, .invokevirtual 78, 3), (4, .ireturn, 1), (5, .astore_n 1, 1), (6, .ldc 17, 2), (8, .ireturn, 1)]
theorem dlk_L_restore_g0 : tvDl cL_restore dl_L_restore_g0 = true := by decide +kernel
theorem dk_L_restore_0 : tvD cL_restore 0 (.aload_n 0) 1 1 := tvDl_get dlk_L_restore_g0 0 rfl rfl
theorem dk_L_restore_1 : tvD cL_restore 1 (.invokevirtual 78) 3 4 := tvDl_get dlk_L_restore_g0 1 rfl rfl
theorem dk_L_restore_4 : tvD cL_restore 4 (.ireturn) 1 5 := tvDl_get dlk_L_restore_g0 2 rfl rfl
theorem dk_L_restore_5 : tvD cL_restore 5 (.astore_n 1) 1 6 := tvDl_get dlk_L_restore_g0 3 rfl rfl
theorem dk_L_restore_6 : tvD cL_restore 6 (.ldc 17) 2 8 := tvDl_get dlk_L_restore_g0 4 rfl rfl
theorem dk_L_restore_8 : tvD cL_restore 8 (.ireturn) 1 9 := tvDl_get dlk_L_restore_g0 5 rfl rfl
def dl_L_run_g0 : List (Nat × Instr × Nat) := [(0, .aload_n 0, 1), (1, .invokevirtual 71, 3), (4, .ireturn, 1), (5, .astore_n 1, 1), (6, .ldc 17, 2), (8, .ireturn, 1), (9, .astore_n 1, 1), (10, .ldc 20, 2), (12, .ireturn, 1)]
theorem dlk_L_run_g0 : tvDl cL_run dl_L_run_g0 = true := by decide +kernel
theorem dk_L_run_0 : tvD cL_run 0 (.aload_n 0) 1 1 := tvDl_get dlk_L_run_g0 0 rfl rfl
theorem dk_L_run_1 : tvD cL_run 1 (.invokevirtual 71) 3 4 := tvDl_get dlk_L_run_g0 1 rfl rfl
theorem dk_L_run_4 : tvD cL_run 4 (.ireturn) 1 5 := tvDl_get dlk_L_run_g0 2 rfl rfl
theorem dk_L_run_5 : tvD cL_run 5 (.astore_n 1) 1 6 := tvDl_get dlk_L_run_g0 3 rfl rfl
theorem dk_L_run_6 : tvD cL_run 6 (.ldc 17) 2 8 := tvDl_get dlk_L_run_g0 4 rfl rfl
theorem dk_L_run_8 : tvD cL_run 8 (.ireturn) 1 9 := tvDl_get dlk_L_run_g0 5 rfl rfl
theorem dk_L_run_9 : tvD cL_run 9 (.astore_n 1) 1 10 := tvDl_get dlk_L_run_g0 6 rfl rfl
theorem dk_L_run_10 : tvD cL_run 10 (.ldc 20) 2 12 := tvDl_get dlk_L_run_g0 7 rfl rfl
theorem dk_L_run_12 : tvD cL_run 12 (.ireturn) 1 13 := tvDl_get dlk_L_run_g0 8 rfl rfl
def dl_L_setTide_g0 : List (Nat × Instr × Nat) := [(0, .aload_n 0, 1), (1, .iload_n 1, 1), (2, .iload_n 2, 1), (3, .invokevirtual 28, 3), (6, .ireturn, 1), (7, .astore_n 3, 1), (8, .ldc 17, 2), (10, .ireturn, 1)]
theorem dlk_L_setTide_g0 : tvDl cL_setTide dl_L_setTide_g0 = true := by decide +kernel
theorem dk_L_setTide_0 : tvD cL_setTide 0 (.aload_n 0) 1 1 := tvDl_get dlk_L_setTide_g0 0 rfl rfl
theorem dk_L_setTide_1 : tvD cL_setTide 1 (.iload_n 1) 1 2 := tvDl_get dlk_L_setTide_g0 1 rfl rfl
theorem dk_L_setTide_2 : tvD cL_setTide 2 (.iload_n 2) 1 3 := tvDl_get dlk_L_setTide_g0 2 rfl rfl
theorem dk_L_setTide_3 : tvD cL_setTide 3 (.invokevirtual 28) 3 6 := tvDl_get dlk_L_setTide_g0 3 rfl rfl
theorem dk_L_setTide_6 : tvD cL_setTide 6 (.ireturn) 1 7 := tvDl_get dlk_L_setTide_g0 4 rfl rfl
theorem dk_L_setTide_7 : tvD cL_setTide 7 (.astore_n 3) 1 8 := tvDl_get dlk_L_setTide_g0 5 rfl rfl
theorem dk_L_setTide_8 : tvD cL_setTide 8 (.ldc 17) 2 10 := tvDl_get dlk_L_setTide_g0 6 rfl rfl
theorem dk_L_setTide_10 : tvD cL_setTide 10 (.ireturn) 1 11 := tvDl_get dlk_L_setTide_g0 7 rfl rfl
def dl_L_turnKey_g0 : List (Nat × Instr × Nat) := [(0, .aload_n 0, 1), (1, .iload_n 1, 1), (2, .iload_n 2, 1), (3, .iload_n 3, 1), (4, .invokevirtual 32, 3), (7, .ireturn, 1), (8, .astore 4, 2), (10, .ldc 17, 2), (12, .ireturn, 1), (13, .astore 4, 2), (15, .ldc 20, 2), (17, .ireturn, 1), (18, .astore 4, 2), (20, .ldc 27, 2), (22, .ireturn, 1), (23, .astore 4, 2), (25, .ldc 38, 2), (27, .ireturn, 1)]
theorem dlk_L_turnKey_g0 : tvDl cL_turnKey dl_L_turnKey_g0 = true := by decide +kernel
theorem dk_L_turnKey_0 : tvD cL_turnKey 0 (.aload_n 0) 1 1 := tvDl_get dlk_L_turnKey_g0 0 rfl rfl
theorem dk_L_turnKey_1 : tvD cL_turnKey 1 (.iload_n 1) 1 2 := tvDl_get dlk_L_turnKey_g0 1 rfl rfl
theorem dk_L_turnKey_2 : tvD cL_turnKey 2 (.iload_n 2) 1 3 := tvDl_get dlk_L_turnKey_g0 2 rfl rfl
theorem dk_L_turnKey_3 : tvD cL_turnKey 3 (.iload_n 3) 1 4 := tvDl_get dlk_L_turnKey_g0 3 rfl rfl
theorem dk_L_turnKey_4 : tvD cL_turnKey 4 (.invokevirtual 32) 3 7 := tvDl_get dlk_L_turnKey_g0 4 rfl rfl
theorem dk_L_turnKey_7 : tvD cL_turnKey 7 (.ireturn) 1 8 := tvDl_get dlk_L_turnKey_g0 5 rfl rfl
theorem dk_L_turnKey_8 : tvD cL_turnKey 8 (.astore 4) 2 10 := tvDl_get dlk_L_turnKey_g0 6 rfl rfl
theorem dk_L_turnKey_10 : tvD cL_turnKey 10 (.ldc 17) 2 12 := tvDl_get dlk_L_turnKey_g0 7 rfl rfl
theorem dk_L_turnKey_12 : tvD cL_turnKey 12 (.ireturn) 1 13 := tvDl_get dlk_L_turnKey_g0 8 rfl rfl
theorem dk_L_turnKey_13 : tvD cL_turnKey 13 (.astore 4) 2 15 := tvDl_get dlk_L_turnKey_g0 9 rfl rfl
theorem dk_L_turnKey_15 : tvD cL_turnKey 15 (.ldc 20) 2 17 := tvDl_get dlk_L_turnKey_g0 10 rfl rfl
theorem dk_L_turnKey_17 : tvD cL_turnKey 17 (.ireturn) 1 18 := tvDl_get dlk_L_turnKey_g0 11 rfl rfl
theorem dk_L_turnKey_18 : tvD cL_turnKey 18 (.astore 4) 2 20 := tvDl_get dlk_L_turnKey_g0 12 rfl rfl
theorem dk_L_turnKey_20 : tvD cL_turnKey 20 (.ldc 27) 2 22 := tvDl_get dlk_L_turnKey_g0 13 rfl rfl
theorem dk_L_turnKey_22 : tvD cL_turnKey 22 (.ireturn) 1 23 := tvDl_get dlk_L_turnKey_g0 14 rfl rfl
theorem dk_L_turnKey_23 : tvD cL_turnKey 23 (.astore 4) 2 25 := tvDl_get dlk_L_turnKey_g0 15 rfl rfl
theorem dk_L_turnKey_25 : tvD cL_turnKey 25 (.ldc 38) 2 27 := tvDl_get dlk_L_turnKey_g0 16 rfl rfl
theorem dk_L_turnKey_27 : tvD cL_turnKey 27 (.ireturn) 1 28 := tvDl_get dlk_L_turnKey_g0 17 rfl rfl
def dl_L_turns_g0 : List (Nat × Instr × Nat) := [(0, .aload_n 0, 1), (1, .iload_n 1, 1), (2, .iload_n 2, 1), (3, .iload_n 3, 1), (4, .bipush 7, 2), (6, .irem, 1), (7, .ifCond .ne 11, 3), (10, .sipush 500, 3), (13, .iload_n 3, 1), (14, .iadd, 1), (15, .goto 7, 3), (18, .bipush 7, 2), (20, .iload_n 2, 1), (21, .imul, 1), (22, .invokestatic 122, 3), (25, .ireturn, 1)]
theorem dlk_L_turns_g0 : tvDl cL_turns dl_L_turns_g0 = true := by decide +kernel
theorem dk_L_turns_0 : tvD cL_turns 0 (.aload_n 0) 1 1 := tvDl_get dlk_L_turns_g0 0 rfl rfl
theorem dk_L_turns_1 : tvD cL_turns 1 (.iload_n 1) 1 2 := tvDl_get dlk_L_turns_g0 1 rfl rfl
theorem dk_L_turns_2 : tvD cL_turns 2 (.iload_n 2) 1 3 := tvDl_get dlk_L_turns_g0 2 rfl rfl
theorem dk_L_turns_3 : tvD cL_turns 3 (.iload_n 3) 1 4 := tvDl_get dlk_L_turns_g0 3 rfl rfl
theorem dk_L_turns_4 : tvD cL_turns 4 (.bipush 7) 2 6 := tvDl_get dlk_L_turns_g0 4 rfl rfl
theorem dk_L_turns_6 : tvD cL_turns 6 (.irem) 1 7 := tvDl_get dlk_L_turns_g0 5 rfl rfl
theorem dk_L_turns_7 : tvJ cL_turns 7 (.ifCond .ne) 18 10 := tvJl_get dlk_L_turns_g0 6 rfl (by decide) rfl
theorem dk_L_turns_10 : tvD cL_turns 10 (.sipush 500) 3 13 := tvDl_get dlk_L_turns_g0 7 rfl rfl
theorem dk_L_turns_13 : tvD cL_turns 13 (.iload_n 3) 1 14 := tvDl_get dlk_L_turns_g0 8 rfl rfl
theorem dk_L_turns_14 : tvD cL_turns 14 (.iadd) 1 15 := tvDl_get dlk_L_turns_g0 9 rfl rfl
theorem dk_L_turns_15 : tvJ cL_turns 15 .goto 22 18 := tvJl_get dlk_L_turns_g0 10 rfl (by decide) rfl
theorem dk_L_turns_18 : tvD cL_turns 18 (.bipush 7) 2 20 := tvDl_get dlk_L_turns_g0 11 rfl rfl
theorem dk_L_turns_20 : tvD cL_turns 20 (.iload_n 2) 1 21 := tvDl_get dlk_L_turns_g0 12 rfl rfl
theorem dk_L_turns_21 : tvD cL_turns 21 (.imul) 1 22 := tvDl_get dlk_L_turns_g0 13 rfl rfl
theorem dk_L_turns_22 : tvD cL_turns 22 (.invokestatic 122) 3 25 := tvDl_get dlk_L_turns_g0 14 rfl rfl
theorem dk_L_turns_25 : tvD cL_turns 25 (.ireturn) 1 26 := tvDl_get dlk_L_turns_g0 15 rfl rfl
def dl_L_undo_g0 : List (Nat × Instr × Nat) := [(0, .aload_n 0, 1), (1, .invokevirtual 75, 3), (4, .ireturn, 1), (5, .astore_n 1, 1), (6, .ldc 17, 2), (8, .ireturn, 1)]
theorem dlk_L_undo_g0 : tvDl cL_undo dl_L_undo_g0 = true := by decide +kernel
theorem dk_L_undo_0 : tvD cL_undo 0 (.aload_n 0) 1 1 := tvDl_get dlk_L_undo_g0 0 rfl rfl
theorem dk_L_undo_1 : tvD cL_undo 1 (.invokevirtual 75) 3 4 := tvDl_get dlk_L_undo_g0 1 rfl rfl
theorem dk_L_undo_4 : tvD cL_undo 4 (.ireturn) 1 5 := tvDl_get dlk_L_undo_g0 2 rfl rfl
theorem dk_L_undo_5 : tvD cL_undo 5 (.astore_n 1) 1 6 := tvDl_get dlk_L_undo_g0 3 rfl rfl
theorem dk_L_undo_6 : tvD cL_undo 6 (.ldc 17) 2 8 := tvDl_get dlk_L_undo_g0 4 rfl rfl
theorem dk_L_undo_8 : tvD cL_undo 8 (.ireturn) 1 9 := tvDl_get dlk_L_undo_g0 5 rfl rfl
def dl_L_withdraw_g0 : List (Nat × Instr × Nat) := [(0, .aload_n 0, 1), (1, .iload_n 1, 1), (2, .invokevirtual 45, 3), (5, .ireturn, 1), (6, .astore_n 2, 1), (7, .ldc 17, 2), (9, .ireturn, 1), (10, .astore_n 2, 1), (11, .ldc 20, 2), (13, .ireturn, 1), (14, .astore_n 2, 1), (15, .ldc 27, 2), (17, .ireturn, 1)]
theorem dlk_L_withdraw_g0 : tvDl cL_withdraw dl_L_withdraw_g0 = true := by decide +kernel
theorem dk_L_withdraw_0 : tvD cL_withdraw 0 (.aload_n 0) 1 1 := tvDl_get dlk_L_withdraw_g0 0 rfl rfl
theorem dk_L_withdraw_1 : tvD cL_withdraw 1 (.iload_n 1) 1 2 := tvDl_get dlk_L_withdraw_g0 1 rfl rfl
theorem dk_L_withdraw_2 : tvD cL_withdraw 2 (.invokevirtual 45) 3 5 := tvDl_get dlk_L_withdraw_g0 2 rfl rfl
theorem dk_L_withdraw_5 : tvD cL_withdraw 5 (.ireturn) 1 6 := tvDl_get dlk_L_withdraw_g0 3 rfl rfl
theorem dk_L_withdraw_6 : tvD cL_withdraw 6 (.astore_n 2) 1 7 := tvDl_get dlk_L_withdraw_g0 4 rfl rfl
theorem dk_L_withdraw_7 : tvD cL_withdraw 7 (.ldc 17) 2 9 := tvDl_get dlk_L_withdraw_g0 5 rfl rfl
theorem dk_L_withdraw_9 : tvD cL_withdraw 9 (.ireturn) 1 10 := tvDl_get dlk_L_withdraw_g0 6 rfl rfl
theorem dk_L_withdraw_10 : tvD cL_withdraw 10 (.astore_n 2) 1 11 := tvDl_get dlk_L_withdraw_g0 7 rfl rfl
theorem dk_L_withdraw_11 : tvD cL_withdraw 11 (.ldc 20) 2 13 := tvDl_get dlk_L_withdraw_g0 8 rfl rfl
theorem dk_L_withdraw_13 : tvD cL_withdraw 13 (.ireturn) 1 14 := tvDl_get dlk_L_withdraw_g0 9 rfl rfl
theorem dk_L_withdraw_14 : tvD cL_withdraw 14 (.astore_n 2) 1 15 := tvDl_get dlk_L_withdraw_g0 10 rfl rfl
theorem dk_L_withdraw_15 : tvD cL_withdraw 15 (.ldc 27) 2 17 := tvDl_get dlk_L_withdraw_g0 11 rfl rfl
theorem dk_L_withdraw_17 : tvD cL_withdraw 17 (.ireturn) 1 18 := tvDl_get dlk_L_withdraw_g0 12 rfl rfl
