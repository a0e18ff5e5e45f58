/-! ===== what is seen of a vault ===== -/
theorem tvRy {G : tvG} {y : MethodName} {cc : ByteArray} {n : Nat} {ret : Option FieldType} {d mc ms : Nat} {args : List Value} {M M1 : tvM} {f v : Int32} (h : tvRun G y cc n ret d mc ms tvP0 tvP0 args M (.inl (some (.int f))) M1) (e : f = v) : tvRun G y cc n ret d mc ms tvP0 tvP0 args M (.inl (some (.int v))) M1 := by
  subst e
  exact h
theorem tvRyl {G : tvG} {y : MethodName} {cc : ByteArray} {n : Nat} {ret : Option FieldType} {d mc ms : Nat} {args : List Value} {M M1 : tvM} {f v : Int64} (h : tvRun G y cc n ret d mc ms tvP0 tvP0 args M (.inl (some (.long f))) M1) (e : f = v) : tvRun G y cc n ret d mc ms tvP0 tvP0 args M (.inl (some (.long v))) M1 := by
  subst e
  exact h
abbrev zA (G : tvG) (q : Nat) (f : Nat → Int32) : Nat × va_E := (q, .inl (G.2.2.2.1 0, 200, .inl f))
theorem z_ast {E : tvE} {k sl d mc ms nL pc pc' : Nat} {M : tvM} {L : List (Option Value)} {st : List Value} {own : String} {cc : ByteArray} {ret : Option FieldType} {tb : List ExceptionTableEntry} {q j : Nat} {f : Nat → Int32} {x v : Int32} (hj : x.toNatClampNeg = j) (C : tvC E own cc nL ret d mc ms tb) (hd : tvD cc pc .iastore 1 pc') (hi : vp_in x 200) (kk : tv_W E (tvPX [zA E.G q (upd f j v)]) k sl M pc' L st) : tv_W E (tvPX [zA E.G q f]) k sl M pc L (.int v :: .int x :: .ref q :: st) := tx_iast (i := 0) hj C hd rfl hi kk
def zFH (s : Nat → Nat) (i : Nat) : Int32 := if s (36 + 13 * i + 3) = 1 then nI (s (36 + 13 * i + 4)) else -900002
def zRD (s : Nat → Nat) (i : Nat) : Int32 := if s (36 + 13 * i + 3) = 2 then nI (s (36 + 13 * i + 6)) else -900002
abbrev wFirst : List (String × Int32) := [("java/lang/IndexOutOfBoundsException", -900001), ("java/util/NoSuchElementException", -900002)]
theorem z_fh {B : Nat} {M : tvM} {s : Nat → Nat} (hR : pOk B (pV M 1) (pL M 1) s) {i : Nat} (hi : i < s 10) : wOut wFirst (f_X8_firstHolder M (nI i)) (zFH s i) M := by
  unfold zFH
  by_cases q : s (36 + 13 * i + 3) = 1
  · rw [if_pos q]
    exact Or.inl (q_firstHolder' hR hi q)
  · rw [if_neg q]
    exact Or.inr ⟨("java/util/NoSuchElementException", -900002), by simp, q_firstHolder0' hR hi q, rfl⟩
theorem z_rd {B : Nat} {M : tvM} {s : Nat → Nat} (hR : pOk B (pV M 1) (pL M 1) s) {i : Nat} (hi : i < s 10) : wOut wFirst (f_X8_remainingDelay M (nI i)) (zRD s i) M := by
  unfold zRD
  by_cases q : s (36 + 13 * i + 3) = 2
  · rw [if_pos q]
    exact Or.inl (q_remainingDelay' hR hi q)
  · rw [if_neg q]
    exact Or.inr ⟨("java/util/NoSuchElementException", -900002), by simp, q_remainingDelay0' hR hi q, rfl⟩
def zS0 (s : Nat → Nat) : Nat → Int32 := upd (upd (upd (upd (upd (upd (upd (upd (fun _ => 0) 0 (nI (s 0))) 1 (nI (s 3))) 2 (nI (s 9))) 3 (nI (s 10))) 4 (nI (s 11))) 5 (lN (pSu s)).toInt32) 6 (nI (tvCt (pLc (s 1) (s 2) (s 0)) 400))) 7 (if s 0 % s 1 < s 2 then 1 else 0)
def zSH (s : Nat → Nat) (f : Nat → Int32) : Nat → Nat → Int32
  | 0 => f
  | i + 1 => upd (upd (zSH s f i) (10 + 2 * i) (nI (s (12 + 3 * i + 1)))) (11 + 2 * i) (nI (s (12 + 3 * i + 2) - s 0))
def zSP (s : Nat → Nat) (i : Nat) (f : Nat → Int32) : Nat → Nat → Int32
  | 0 => f
  | j + 1 => upd (zSP s i f j) (30 + 10 * i + 4 + j) (nI (s (36 + 13 * i + (8 + j))))
def zSB (s : Nat → Nat) (f : Nat → Int32) : Nat → Nat → Int32
  | 0 => f
  | i + 1 => zSP s i (upd (upd (upd (upd (zSB s f i) (30 + 10 * i) (pSt (s (36 + 13 * i + 3)))) (30 + 10 * i + 1) (zFH s i)) (30 + 10 * i + 2) (zRD s i)) (30 + 10 * i + 3) (nI (s (36 + 13 * i + 7)))) (s (36 + 13 * i + 7))
def zSE (s : Nat → Nat) (f : Nat → Int32) : Nat → Nat → Int32
  | 0 => f
  | i + 1 => upd (upd (upd (zSE s f i) (140 + 3 * i) (nI (s (166 + 3 * i + 0)))) (141 + 3 * i) (nI (s (166 + 3 * i + 1)))) (142 + 3 * i) (nI (s (166 + 3 * i + 2)))
/-- the array that seen makes of a state -/
def zSeen (s : Nat → Nat) : Nat → Int32 := zSE s (zSB s (zSH s (zS0 s) (s 9)) (s 10)) (s 11)
theorem zSH_1 (s : Nat → Nat) (f : Nat → Int32) (i : Nat) : zSH s f i 1 = f 1 := by
  induction i with
  | zero => rfl
  | succ i ih =>
    show upd (upd (zSH s f i) _ _) _ _ 1 = f 1
    rw [pk_un (by omega), pk_un (by omega), ih]
theorem zSP_1 (s : Nat → Nat) (i : Nat) (f : Nat → Int32) (j : Nat) : zSP s i f j 1 = f 1 := by
  induction j with
  | zero => rfl
  | succ j ih =>
    show upd (zSP s i f j) _ _ 1 = f 1
    rw [pk_un (by omega), ih]
theorem zSB_1 (s : Nat → Nat) (f : Nat → Int32) (i : Nat) : zSB s f i 1 = f 1 := by
  induction i with
  | zero => rfl
  | succ i ih =>
    show zSP s i _ _ 1 = f 1
    rw [zSP_1, pk_un (by omega), pk_un (by omega), pk_un (by omega), pk_un (by omega), ih]
theorem zSE_1 (s : Nat → Nat) (f : Nat → Int32) (i : Nat) : zSE s f i 1 = f 1 := by
  induction i with
  | zero => rfl
  | succ i ih =>
    show upd (upd (upd (zSE s f i) _ _) _ _) _ _ 1 = f 1
    rw [pk_un (by omega), pk_un (by omega), pk_un (by omega), ih]
theorem zSeen_1 (s : Nat → Nat) : zSeen s 1 = nI (s 3) := by
  unfold zSeen
  rw [zSE_1, zSB_1, zSH_1]
  rfl

theorem ml_RL_176 : Cond.methodLink RL 176 yX8_holders ∈ tvGW := tvgc (tvc_6 (List.mem_of_getElem? (i := 130) (by decide +kernel))) rfl
theorem ml_RL_193 : Cond.methodLink RL 193 yX8_attempts ∈ tvGW := tvgc (tvc_6 (List.mem_of_getElem? (i := 147) (by decide +kernel))) rfl
theorem ml_RL_196 : Cond.methodLink RL 196 yX8_minutesLocked ∈ tvGW := tvgc (tvc_6 (List.mem_of_getElem? (i := 157) (by decide +kernel))) rfl
theorem ml_RL_206 : Cond.methodLink RL 206 yX8_pearls ∈ tvGW := tvgc (tvc_6 (List.mem_of_getElem? (i := 182) (by decide +kernel))) rfl
theorem ml_RL_209 : Cond.methodLink RL 209 yX8_pearl ∈ tvGW := tvgc (tvc_6 (List.mem_of_getElem? (i := 186) (by decide +kernel))) rfl
theorem ml_RL_127 : Cond.methodLink RL 127 yX8_boxes ∈ tvGW := tvgc (tvc_4 (List.mem_of_getElem? (i := 133) (by decide +kernel))) rfl
theorem ml_RL_199 : Cond.methodLink RL 199 yX8_status ∈ tvGW := tvgc (tvc_6 (List.mem_of_getElem? (i := 162) (by decide +kernel))) rfl
theorem ml_RL_202 : Cond.methodLink RL 202 yL_firstHolder ∈ tvGW := tvgc (tvc_6 (List.mem_of_getElem? (i := 166) (by decide +kernel))) rfl
theorem yi_L_firstHolder : Cond.static yL_firstHolder ∈ tvGW := tvgc (tvc_6 (List.mem_of_getElem? (i := 167) (by decide +kernel))) rfl
theorem ml_RL_204 : Cond.methodLink RL 204 yL_remainingDelay ∈ tvGW := tvgc (tvc_6 (List.mem_of_getElem? (i := 174) (by decide +kernel))) rfl
theorem yi_L_remainingDelay : Cond.static yL_remainingDelay ∈ tvGW := tvgc (tvc_6 (List.mem_of_getElem? (i := 175) (by decide +kernel))) rfl
theorem ml_RL_179 : Cond.methodLink RL 179 yX8_events ∈ tvGW := tvgc (tvc_6 (List.mem_of_getElem? (i := 134) (by decide +kernel))) rfl
theorem ml_RL_212 : Cond.methodLink RL 212 yX8_eventKind ∈ tvGW := tvgc (tvc_6 (List.mem_of_getElem? (i := 191) (by decide +kernel))) rfl
theorem ml_RL_215 : Cond.methodLink RL 215 yX8_eventTime ∈ tvGW := tvgc (tvc_6 (List.mem_of_getElem? (i := 203) (by decide +kernel))) rfl
theorem ml_RL_218 : Cond.methodLink RL 218 yX8_eventNumber ∈ tvGW := tvgc (tvc_6 (List.mem_of_getElem? (i := 211) (by decide +kernel))) rfl
theorem yk_L_seen : tvYk yL_seen cL_seen 5 (some (.array .int)) 1 := ⟨tvgc (tvc_6 (List.mem_of_getElem? (i := 125) (by decide +kernel))) rfl, tvgc (tvc_1 (List.mem_of_getElem? (i := 0) (by decide +kernel))) rfl, by decide +kernel, by decide +kernel, plainFor_of_name (by decide +kernel)⟩
theorem xa_int : Cond.arrayClass (newarray.typeOf .int) ∈ tvGW := tvgc (tvc_3 (List.mem_of_getElem? (i := 66) (by decide +kernel))) rfl
theorem ml_RL_170 : Cond.methodLink RL 170 yX8_time ∈ tvGW := tvgc (tvc_6 (List.mem_of_getElem? (i := 126) (by decide +kernel))) rfl
theorem ml_RL_173 : Cond.methodLink RL 173 yX8_alarm ∈ tvGW := tvgc (tvc_1 (List.mem_of_getElem? (i := 192) (by decide +kernel))) rfl
theorem ml_RL_182 : Cond.methodLink RL 182 yX8_totalValueByLedger ∈ tvGW := tvgc (tvc_6 (List.mem_of_getElem? (i := 138) (by decide +kernel))) rfl
theorem ml_RL_186 : Cond.methodLink RL 186 yX8_lowMinutes ∈ tvGW := tvgc (tvc_1 (List.mem_of_getElem? (i := 31) (by decide +kernel))) rfl
theorem ml_RL_189 : Cond.methodLink RL 189 yX8_isLowTide ∈ tvGW := tvgc (tvc_6 (List.mem_of_getElem? (i := 142) (by decide +kernel))) rfl
theorem yk_L_areAlike : tvYk yL_areAlike cL_areAlike 3 (some .boolean) 2 := ⟨tvgc (tvc_6 (List.mem_of_getElem? (i := 217) (by decide +kernel))) rfl, tvgc (tvc_1 (List.mem_of_getElem? (i := 0) (by decide +kernel))) rfl, by decide +kernel, by decide +kernel, plainFor_of_name (by decide +kernel)⟩
def dl_L_areAlike_g0 : List (Nat × Instr × Nat) := [(0, .iconst 0, 1), (1, .istore_n 2, 1), (2, .iload_n 2, 1), (3, .aload_n 0, 1), (4, .arraylength, 1), (5, .if_icmp .ge 20, 3), (8, .aload_n 0, 1), (9, .iload_n 2, 1), (10, .iaload, 1), (11, .aload_n 1, 1), (12, .iload_n 2, 1), (13, .iaload, 1), (14, .if_icmp .eq 5, 3), (19, .iinc 2 1, 3), (22, .goto (-20), 3), (25, .iconst 1, 1), (26, .ireturn, 1)]
theorem dlk_L_areAlike_g0 : tvDl cL_areAlike dl_L_areAlike_g0 = true := by decide +kernel
theorem dk_L_areAlike_0 : tvD cL_areAlike 0 (.iconst 0) 1 1 := tvDl_get dlk_L_areAlike_g0 0 rfl rfl
theorem dk_L_areAlike_1 : tvD cL_areAlike 1 (.istore_n 2) 1 2 := tvDl_get dlk_L_areAlike_g0 1 rfl rfl
theorem dk_L_areAlike_2 : tvD cL_areAlike 2 (.iload_n 2) 1 3 := tvDl_get dlk_L_areAlike_g0 2 rfl rfl
theorem dk_L_areAlike_3 : tvD cL_areAlike 3 (.aload_n 0) 1 4 := tvDl_get dlk_L_areAlike_g0 3 rfl rfl
theorem dk_L_areAlike_4 : tvD cL_areAlike 4 (.arraylength) 1 5 := tvDl_get dlk_L_areAlike_g0 4 rfl rfl
theorem dk_L_areAlike_5 : tvJ cL_areAlike 5 (.if_icmp .ge) 25 8 := tvJl_get dlk_L_areAlike_g0 5 rfl (by decide) rfl
theorem dk_L_areAlike_8 : tvD cL_areAlike 8 (.aload_n 0) 1 9 := tvDl_get dlk_L_areAlike_g0 6 rfl rfl
theorem dk_L_areAlike_9 : tvD cL_areAlike 9 (.iload_n 2) 1 10 := tvDl_get dlk_L_areAlike_g0 7 rfl rfl
theorem dk_L_areAlike_10 : tvD cL_areAlike 10 (.iaload) 1 11 := tvDl_get dlk_L_areAlike_g0 8 rfl rfl
theorem dk_L_areAlike_11 : tvD cL_areAlike 11 (.aload_n 1) 1 12 := tvDl_get dlk_L_areAlike_g0 9 rfl rfl
theorem dk_L_areAlike_12 : tvD cL_areAlike 12 (.iload_n 2) 1 13 := tvDl_get dlk_L_areAlike_g0 10 rfl rfl
theorem dk_L_areAlike_13 : tvD cL_areAlike 13 (.iaload) 1 14 := tvDl_get dlk_L_areAlike_g0 11 rfl rfl
theorem dk_L_areAlike_14 : tvJ cL_areAlike 14 (.if_icmp .eq) 19 17 := tvJl_get dlk_L_areAlike_g0 12 rfl (by decide) rfl
theorem dk_L_areAlike_19 : tvD cL_areAlike 19 (.iinc 2 1) 3 22 := tvDl_get dlk_L_areAlike_g0 13 rfl rfl
theorem dk_L_areAlike_22 : tvJ cL_areAlike 22 .goto 2 25 := tvJl_get dlk_L_areAlike_g0 14 rfl (by decide) rfl
theorem dk_L_areAlike_25 : tvD cL_areAlike 25 (.iconst 1) 1 26 := tvDl_get dlk_L_areAlike_g0 15 rfl rfl
theorem dk_L_areAlike_26 : tvD cL_areAlike 26 (.ireturn) 1 27 := tvDl_get dlk_L_areAlike_g0 16 rfl rfl
def dl_L_seen_g0 : List (Nat × Instr × Nat) := [(0, .sipush 200, 3), (3, .newarray .int, 2), (5, .astore_n 1, 1), (6, .aload_n 1, 1), (7, .iconst 0, 1), (8, .aload_n 0, 1), (9, .invokevirtual 170, 3), (12, .iastore, 1), (13, .aload_n 1, 1), (14, .iconst 1, 1), (15, .aload_n 0, 1), (16, .invokevirtual 173, 3), (19, .iastore, 1), (20, .aload_n 1, 1), (21, .iconst 2, 1), (22, .aload_n 0, 1), (23, .invokevirtual 176, 3), (26, .iastore, 1), (27, .aload_n 1, 1), (28, .iconst 3, 1), (29, .aload_n 0, 1), (30, .invokevirtual 127, 3), (33, .iastore, 1), (34, .aload_n 1, 1), (35, .iconst 4, 1), (36, .aload_n 0, 1), (37, .invokevirtual 179, 3), (40, .iastore, 1), (41, .aload_n 1, 1), (42, .iconst 5, 1), (43, .aload_n 0, 1), (44, .invokevirtual 182, 3), (47, .l2i, 1), (48, .iastore, 1), (49, .aload_n 1, 1), (50, .bipush 6, 2), (52, .aload_n 0, 1), (53, .sipush 400, 3), (56, .invokevirtual 186, 3), (59, .iastore, 1), (60, .aload_n 1, 1), (61, .bipush 7, 2), (63, .aload_n 0, 1), (64, .invokevirtual 189, 3), (67, .ifCond .eq 7, 3), (70, .iconst 1, 1), (71, .goto 4, 3), (74, .iconst 0, 1), (75, .iastore, 1), (76, .iconst 0, 1), (77, .istore_n 2, 1), (78, .iload_n 2, 1), (79, .aload_n 0, 1), (80, .invokevirtual 176, 3), (83, .if_icmp .ge 35, 3), (86, .aload_n 1, 1), (87, .bipush 10, 2), (89, .iconst 2, 1), (90, .iload_n 2, 1), (91, .imul, 1)]
theorem dlk_L_seen_g0 : tvDl cL_seen dl_L_seen_g0 = true := by decide +kernel
theorem dk_L_seen_0 : tvD cL_seen 0 (.sipush 200) 3 3 := tvDl_get dlk_L_seen_g0 0 rfl rfl
theorem dk_L_seen_3 : tvD cL_seen 3 (.newarray .int) 2 5 := tvDl_get dlk_L_seen_g0 1 rfl rfl
theorem dk_L_seen_5 : tvD cL_seen 5 (.astore_n 1) 1 6 := tvDl_get dlk_L_seen_g0 2 rfl rfl
theorem dk_L_seen_6 : tvD cL_seen 6 (.aload_n 1) 1 7 := tvDl_get dlk_L_seen_g0 3 rfl rfl
theorem dk_L_seen_7 : tvD cL_seen 7 (.iconst 0) 1 8 := tvDl_get dlk_L_seen_g0 4 rfl rfl
theorem dk_L_seen_8 : tvD cL_seen 8 (.aload_n 0) 1 9 := tvDl_get dlk_L_seen_g0 5 rfl rfl
theorem dk_L_seen_9 : tvD cL_seen 9 (.invokevirtual 170) 3 12 := tvDl_get dlk_L_seen_g0 6 rfl rfl
theorem dk_L_seen_12 : tvD cL_seen 12 (.iastore) 1 13 := tvDl_get dlk_L_seen_g0 7 rfl rfl
theorem dk_L_seen_13 : tvD cL_seen 13 (.aload_n 1) 1 14 := tvDl_get dlk_L_seen_g0 8 rfl rfl
theorem dk_L_seen_14 : tvD cL_seen 14 (.iconst 1) 1 15 := tvDl_get dlk_L_seen_g0 9 rfl rfl
theorem dk_L_seen_15 : tvD cL_seen 15 (.aload_n 0) 1 16 := tvDl_get dlk_L_seen_g0 10 rfl rfl
theorem dk_L_seen_16 : tvD cL_seen 16 (.invokevirtual 173) 3 19 := tvDl_get dlk_L_seen_g0 11 rfl rfl
theorem dk_L_seen_19 : tvD cL_seen 19 (.iastore) 1 20 := tvDl_get dlk_L_seen_g0 12 rfl rfl
theorem dk_L_seen_20 : tvD cL_seen 20 (.aload_n 1) 1 21 := tvDl_get dlk_L_seen_g0 13 rfl rfl
theorem dk_L_seen_21 : tvD cL_seen 21 (.iconst 2) 1 22 := tvDl_get dlk_L_seen_g0 14 rfl rfl
theorem dk_L_seen_22 : tvD cL_seen 22 (.aload_n 0) 1 23 := tvDl_get dlk_L_seen_g0 15 rfl rfl
theorem dk_L_seen_23 : tvD cL_seen 23 (.invokevirtual 176) 3 26 := tvDl_get dlk_L_seen_g0 16 rfl rfl
theorem dk_L_seen_26 : tvD cL_seen 26 (.iastore) 1 27 := tvDl_get dlk_L_seen_g0 17 rfl rfl
theorem dk_L_seen_27 : tvD cL_seen 27 (.aload_n 1) 1 28 := tvDl_get dlk_L_seen_g0 18 rfl rfl
theorem dk_L_seen_28 : tvD cL_seen 28 (.iconst 3) 1 29 := tvDl_get dlk_L_seen_g0 19 rfl rfl
theorem dk_L_seen_29 : tvD cL_seen 29 (.aload_n 0) 1 30 := tvDl_get dlk_L_seen_g0 20 rfl rfl
theorem dk_L_seen_30 : tvD cL_seen 30 (.invokevirtual 127) 3 33 := tvDl_get dlk_L_seen_g0 21 rfl rfl
theorem dk_L_seen_33 : tvD cL_seen 33 (.iastore) 1 34 := tvDl_get dlk_L_seen_g0 22 rfl rfl
theorem dk_L_seen_34 : tvD cL_seen 34 (.aload_n 1) 1 35 := tvDl_get dlk_L_seen_g0 23 rfl rfl
theorem dk_L_seen_35 : tvD cL_seen 35 (.iconst 4) 1 36 := tvDl_get dlk_L_seen_g0 24 rfl rfl
theorem dk_L_seen_36 : tvD cL_seen 36 (.aload_n 0) 1 37 := tvDl_get dlk_L_seen_g0 25 rfl rfl
theorem dk_L_seen_37 : tvD cL_seen 37 (.invokevirtual 179) 3 40 := tvDl_get dlk_L_seen_g0 26 rfl rfl
theorem dk_L_seen_40 : tvD cL_seen 40 (.iastore) 1 41 := tvDl_get dlk_L_seen_g0 27 rfl rfl
theorem dk_L_seen_41 : tvD cL_seen 41 (.aload_n 1) 1 42 := tvDl_get dlk_L_seen_g0 28 rfl rfl
theorem dk_L_seen_42 : tvD cL_seen 42 (.iconst 5) 1 43 := tvDl_get dlk_L_seen_g0 29 rfl rfl
theorem dk_L_seen_43 : tvD cL_seen 43 (.aload_n 0) 1 44 := tvDl_get dlk_L_seen_g0 30 rfl rfl
theorem dk_L_seen_44 : tvD cL_seen 44 (.invokevirtual 182) 3 47 := tvDl_get dlk_L_seen_g0 31 rfl rfl
theorem dk_L_seen_47 : tvD cL_seen 47 (.l2i) 1 48 := tvDl_get dlk_L_seen_g0 32 rfl rfl
theorem dk_L_seen_48 : tvD cL_seen 48 (.iastore) 1 49 := tvDl_get dlk_L_seen_g0 33 rfl rfl
theorem dk_L_seen_49 : tvD cL_seen 49 (.aload_n 1) 1 50 := tvDl_get dlk_L_seen_g0 34 rfl rfl
theorem dk_L_seen_50 : tvD cL_seen 50 (.bipush 6) 2 52 := tvDl_get dlk_L_seen_g0 35 rfl rfl
theorem dk_L_seen_52 : tvD cL_seen 52 (.aload_n 0) 1 53 := tvDl_get dlk_L_seen_g0 36 rfl rfl
theorem dk_L_seen_53 : tvD cL_seen 53 (.sipush 400) 3 56 := tvDl_get dlk_L_seen_g0 37 rfl rfl
theorem dk_L_seen_56 : tvD cL_seen 56 (.invokevirtual 186) 3 59 := tvDl_get dlk_L_seen_g0 38 rfl rfl
theorem dk_L_seen_59 : tvD cL_seen 59 (.iastore) 1 60 := tvDl_get dlk_L_seen_g0 39 rfl rfl
theorem dk_L_seen_60 : tvD cL_seen 60 (.aload_n 1) 1 61 := tvDl_get dlk_L_seen_g0 40 rfl rfl
theorem dk_L_seen_61 : tvD cL_seen 61 (.bipush 7) 2 63 := tvDl_get dlk_L_seen_g0 41 rfl rfl
theorem dk_L_seen_63 : tvD cL_seen 63 (.aload_n 0) 1 64 := tvDl_get dlk_L_seen_g0 42 rfl rfl
theorem dk_L_seen_64 : tvD cL_seen 64 (.invokevirtual 189) 3 67 := tvDl_get dlk_L_seen_g0 43 rfl rfl
theorem dk_L_seen_67 : tvJ cL_seen 67 (.ifCond .eq) 74 70 := tvJl_get dlk_L_seen_g0 44 rfl (by decide) rfl
theorem dk_L_seen_70 : tvD cL_seen 70 (.iconst 1) 1 71 := tvDl_get dlk_L_seen_g0 45 rfl rfl
theorem dk_L_seen_71 : tvJ cL_seen 71 .goto 75 74 := tvJl_get dlk_L_seen_g0 46 rfl (by decide) rfl
theorem dk_L_seen_74 : tvD cL_seen 74 (.iconst 0) 1 75 := tvDl_get dlk_L_seen_g0 47 rfl rfl
theorem dk_L_seen_75 : tvD cL_seen 75 (.iastore) 1 76 := tvDl_get dlk_L_seen_g0 48 rfl rfl
theorem dk_L_seen_76 : tvD cL_seen 76 (.iconst 0) 1 77 := tvDl_get dlk_L_seen_g0 49 rfl rfl
theorem dk_L_seen_77 : tvD cL_seen 77 (.istore_n 2) 1 78 := tvDl_get dlk_L_seen_g0 50 rfl rfl
theorem dk_L_seen_78 : tvD cL_seen 78 (.iload_n 2) 1 79 := tvDl_get dlk_L_seen_g0 51 rfl rfl
theorem dk_L_seen_79 : tvD cL_seen 79 (.aload_n 0) 1 80 := tvDl_get dlk_L_seen_g0 52 rfl rfl
theorem dk_L_seen_80 : tvD cL_seen 80 (.invokevirtual 176) 3 83 := tvDl_get dlk_L_seen_g0 53 rfl rfl
theorem dk_L_seen_83 : tvJ cL_seen 83 (.if_icmp .ge) 118 86 := tvJl_get dlk_L_seen_g0 54 rfl (by decide) rfl
theorem dk_L_seen_86 : tvD cL_seen 86 (.aload_n 1) 1 87 := tvDl_get dlk_L_seen_g0 55 rfl rfl
theorem dk_L_seen_87 : tvD cL_seen 87 (.bipush 10) 2 89 := tvDl_get dlk_L_seen_g0 56 rfl rfl
theorem dk_L_seen_89 : tvD cL_seen 89 (.iconst 2) 1 90 := tvDl_get dlk_L_seen_g0 57 rfl rfl
theorem dk_L_seen_90 : tvD cL_seen 90 (.iload_n 2) 1 91 := tvDl_get dlk_L_seen_g0 58 rfl rfl
theorem dk_L_seen_91 : tvD cL_seen 91 (.imul) 1 92 := tvDl_get dlk_L_seen_g0 59 rfl rfl
def dl_L_seen_g1 : List (Nat × Instr × Nat) := [(92, .iadd, 1), (93, .aload_n 0, 1), (94, .iload_n 2, 1), (95, .invokevirtual 193, 3), (98, .iastore, 1), (99, .aload_n 1, 1), (100, .bipush 11, 2), (102, .iconst 2, 1), (103, .iload_n 2, 1), (104, .imul, 1), (105, .iadd, 1), (106, .aload_n 0, 1), (107, .iload_n 2, 1), (108, .invokevirtual 196, 3), (111, .iastore, 1), (112, .iinc 2 1, 3), (115, .goto (-37), 3), (118, .iconst 0, 1), (119, .istore_n 2, 1), (120, .iload_n 2, 1), (121, .aload_n 0, 1), (122, .invokevirtual 127, 3), (125, .if_icmp .ge 89, 3), (128, .bipush 30, 2), (130, .bipush 10, 2), (132, .iload_n 2, 1), (133, .imul, 1), (134, .iadd, 1), (135, .istore_n 3, 1), (136, .aload_n 1, 1), (137, .iload_n 3, 1), (138, .aload_n 0, 1), (139, .iload_n 2, 1), (140, .invokevirtual 199, 3), (143, .iastore, 1), (144, .aload_n 1, 1), (145, .iload_n 3, 1), (146, .iconst 1, 1), (147, .iadd, 1), (148, .aload_n 0, 1), (149, .iload_n 2, 1), (150, .invokestatic 202, 3), (153, .iastore, 1), (154, .aload_n 1, 1), (155, .iload_n 3, 1), (156, .iconst 2, 1), (157, .iadd, 1), (158, .aload_n 0, 1), (159, .iload_n 2, 1), (160, .invokestatic 204, 3), (163, .iastore, 1), (164, .aload_n 1, 1), (165, .iload_n 3, 1), (166, .iconst 3, 1), (167, .iadd, 1), (168, .aload_n 0, 1), (169, .iload_n 2, 1), (170, .invokevirtual 206, 3), (173, .iastore, 1), (174, .iconst 0, 1)]
theorem dlk_L_seen_g1 : tvDl cL_seen dl_L_seen_g1 = true := by decide +kernel
theorem dk_L_seen_92 : tvD cL_seen 92 (.iadd) 1 93 := tvDl_get dlk_L_seen_g1 0 rfl rfl
theorem dk_L_seen_93 : tvD cL_seen 93 (.aload_n 0) 1 94 := tvDl_get dlk_L_seen_g1 1 rfl rfl
theorem dk_L_seen_94 : tvD cL_seen 94 (.iload_n 2) 1 95 := tvDl_get dlk_L_seen_g1 2 rfl rfl
theorem dk_L_seen_95 : tvD cL_seen 95 (.invokevirtual 193) 3 98 := tvDl_get dlk_L_seen_g1 3 rfl rfl
theorem dk_L_seen_98 : tvD cL_seen 98 (.iastore) 1 99 := tvDl_get dlk_L_seen_g1 4 rfl rfl
theorem dk_L_seen_99 : tvD cL_seen 99 (.aload_n 1) 1 100 := tvDl_get dlk_L_seen_g1 5 rfl rfl
theorem dk_L_seen_100 : tvD cL_seen 100 (.bipush 11) 2 102 := tvDl_get dlk_L_seen_g1 6 rfl rfl
theorem dk_L_seen_102 : tvD cL_seen 102 (.iconst 2) 1 103 := tvDl_get dlk_L_seen_g1 7 rfl rfl
theorem dk_L_seen_103 : tvD cL_seen 103 (.iload_n 2) 1 104 := tvDl_get dlk_L_seen_g1 8 rfl rfl
theorem dk_L_seen_104 : tvD cL_seen 104 (.imul) 1 105 := tvDl_get dlk_L_seen_g1 9 rfl rfl
theorem dk_L_seen_105 : tvD cL_seen 105 (.iadd) 1 106 := tvDl_get dlk_L_seen_g1 10 rfl rfl
theorem dk_L_seen_106 : tvD cL_seen 106 (.aload_n 0) 1 107 := tvDl_get dlk_L_seen_g1 11 rfl rfl
theorem dk_L_seen_107 : tvD cL_seen 107 (.iload_n 2) 1 108 := tvDl_get dlk_L_seen_g1 12 rfl rfl
theorem dk_L_seen_108 : tvD cL_seen 108 (.invokevirtual 196) 3 111 := tvDl_get dlk_L_seen_g1 13 rfl rfl
theorem dk_L_seen_111 : tvD cL_seen 111 (.iastore) 1 112 := tvDl_get dlk_L_seen_g1 14 rfl rfl
theorem dk_L_seen_112 : tvD cL_seen 112 (.iinc 2 1) 3 115 := tvDl_get dlk_L_seen_g1 15 rfl rfl
theorem dk_L_seen_115 : tvJ cL_seen 115 .goto 78 118 := tvJl_get dlk_L_seen_g1 16 rfl (by decide) rfl
theorem dk_L_seen_118 : tvD cL_seen 118 (.iconst 0) 1 119 := tvDl_get dlk_L_seen_g1 17 rfl rfl
theorem dk_L_seen_119 : tvD cL_seen 119 (.istore_n 2) 1 120 := tvDl_get dlk_L_seen_g1 18 rfl rfl
theorem dk_L_seen_120 : tvD cL_seen 120 (.iload_n 2) 1 121 := tvDl_get dlk_L_seen_g1 19 rfl rfl
theorem dk_L_seen_121 : tvD cL_seen 121 (.aload_n 0) 1 122 := tvDl_get dlk_L_seen_g1 20 rfl rfl
theorem dk_L_seen_122 : tvD cL_seen 122 (.invokevirtual 127) 3 125 := tvDl_get dlk_L_seen_g1 21 rfl rfl
theorem dk_L_seen_125 : tvJ cL_seen 125 (.if_icmp .ge) 214 128 := tvJl_get dlk_L_seen_g1 22 rfl (by decide) rfl
theorem dk_L_seen_128 : tvD cL_seen 128 (.bipush 30) 2 130 := tvDl_get dlk_L_seen_g1 23 rfl rfl
theorem dk_L_seen_130 : tvD cL_seen 130 (.bipush 10) 2 132 := tvDl_get dlk_L_seen_g1 24 rfl rfl
theorem dk_L_seen_132 : tvD cL_seen 132 (.iload_n 2) 1 133 := tvDl_get dlk_L_seen_g1 25 rfl rfl
theorem dk_L_seen_133 : tvD cL_seen 133 (.imul) 1 134 := tvDl_get dlk_L_seen_g1 26 rfl rfl
theorem dk_L_seen_134 : tvD cL_seen 134 (.iadd) 1 135 := tvDl_get dlk_L_seen_g1 27 rfl rfl
theorem dk_L_seen_135 : tvD cL_seen 135 (.istore_n 3) 1 136 := tvDl_get dlk_L_seen_g1 28 rfl rfl
theorem dk_L_seen_136 : tvD cL_seen 136 (.aload_n 1) 1 137 := tvDl_get dlk_L_seen_g1 29 rfl rfl
theorem dk_L_seen_137 : tvD cL_seen 137 (.iload_n 3) 1 138 := tvDl_get dlk_L_seen_g1 30 rfl rfl
theorem dk_L_seen_138 : tvD cL_seen 138 (.aload_n 0) 1 139 := tvDl_get dlk_L_seen_g1 31 rfl rfl
theorem dk_L_seen_139 : tvD cL_seen 139 (.iload_n 2) 1 140 := tvDl_get dlk_L_seen_g1 32 rfl rfl
theorem dk_L_seen_140 : tvD cL_seen 140 (.invokevirtual 199) 3 143 := tvDl_get dlk_L_seen_g1 33 rfl rfl
theorem dk_L_seen_143 : tvD cL_seen 143 (.iastore) 1 144 := tvDl_get dlk_L_seen_g1 34 rfl rfl
theorem dk_L_seen_144 : tvD cL_seen 144 (.aload_n 1) 1 145 := tvDl_get dlk_L_seen_g1 35 rfl rfl
theorem dk_L_seen_145 : tvD cL_seen 145 (.iload_n 3) 1 146 := tvDl_get dlk_L_seen_g1 36 rfl rfl
theorem dk_L_seen_146 : tvD cL_seen 146 (.iconst 1) 1 147 := tvDl_get dlk_L_seen_g1 37 rfl rfl
theorem dk_L_seen_147 : tvD cL_seen 147 (.iadd) 1 148 := tvDl_get dlk_L_seen_g1 38 rfl rfl
theorem dk_L_seen_148 : tvD cL_seen 148 (.aload_n 0) 1 149 := tvDl_get dlk_L_seen_g1 39 rfl rfl
theorem dk_L_seen_149 : tvD cL_seen 149 (.iload_n 2) 1 150 := tvDl_get dlk_L_seen_g1 40 rfl rfl
theorem dk_L_seen_150 : tvD cL_seen 150 (.invokestatic 202) 3 153 := tvDl_get dlk_L_seen_g1 41 rfl rfl
theorem dk_L_seen_153 : tvD cL_seen 153 (.iastore) 1 154 := tvDl_get dlk_L_seen_g1 42 rfl rfl
theorem dk_L_seen_154 : tvD cL_seen 154 (.aload_n 1) 1 155 := tvDl_get dlk_L_seen_g1 43 rfl rfl
theorem dk_L_seen_155 : tvD cL_seen 155 (.iload_n 3) 1 156 := tvDl_get dlk_L_seen_g1 44 rfl rfl
theorem dk_L_seen_156 : tvD cL_seen 156 (.iconst 2) 1 157 := tvDl_get dlk_L_seen_g1 45 rfl rfl
theorem dk_L_seen_157 : tvD cL_seen 157 (.iadd) 1 158 := tvDl_get dlk_L_seen_g1 46 rfl rfl
theorem dk_L_seen_158 : tvD cL_seen 158 (.aload_n 0) 1 159 := tvDl_get dlk_L_seen_g1 47 rfl rfl
theorem dk_L_seen_159 : tvD cL_seen 159 (.iload_n 2) 1 160 := tvDl_get dlk_L_seen_g1 48 rfl rfl
theorem dk_L_seen_160 : tvD cL_seen 160 (.invokestatic 204) 3 163 := tvDl_get dlk_L_seen_g1 49 rfl rfl
theorem dk_L_seen_163 : tvD cL_seen 163 (.iastore) 1 164 := tvDl_get dlk_L_seen_g1 50 rfl rfl
theorem dk_L_seen_164 : tvD cL_seen 164 (.aload_n 1) 1 165 := tvDl_get dlk_L_seen_g1 51 rfl rfl
theorem dk_L_seen_165 : tvD cL_seen 165 (.iload_n 3) 1 166 := tvDl_get dlk_L_seen_g1 52 rfl rfl
theorem dk_L_seen_166 : tvD cL_seen 166 (.iconst 3) 1 167 := tvDl_get dlk_L_seen_g1 53 rfl rfl
theorem dk_L_seen_167 : tvD cL_seen 167 (.iadd) 1 168 := tvDl_get dlk_L_seen_g1 54 rfl rfl
theorem dk_L_seen_168 : tvD cL_seen 168 (.aload_n 0) 1 169 := tvDl_get dlk_L_seen_g1 55 rfl rfl
theorem dk_L_seen_169 : tvD cL_seen 169 (.iload_n 2) 1 170 := tvDl_get dlk_L_seen_g1 56 rfl rfl
theorem dk_L_seen_170 : tvD cL_seen 170 (.invokevirtual 206) 3 173 := tvDl_get dlk_L_seen_g1 57 rfl rfl
theorem dk_L_seen_173 : tvD cL_seen 173 (.iastore) 1 174 := tvDl_get dlk_L_seen_g1 58 rfl rfl
theorem dk_L_seen_174 : tvD cL_seen 174 (.iconst 0) 1 175 := tvDl_get dlk_L_seen_g1 59 rfl rfl
def dl_L_seen_g2 : List (Nat × Instr × Nat) := [(175, .istore 4, 2), (177, .iload 4, 2), (179, .aload_n 0, 1), (180, .iload_n 2, 1), (181, .invokevirtual 206, 3), (184, .if_icmp .ge 24, 3), (187, .aload_n 1, 1), (188, .iload_n 3, 1), (189, .iconst 4, 1), (190, .iadd, 1), (191, .iload 4, 2), (193, .iadd, 1), (194, .aload_n 0, 1), (195, .iload_n 2, 1), (196, .iload 4, 2), (198, .invokevirtual 209, 3), (201, .iastore, 1), (202, .iinc 4 1, 3), (205, .goto (-28), 3), (208, .iinc 2 1, 3), (211, .goto (-91), 3), (214, .iconst 0, 1), (215, .istore_n 2, 1), (216, .iload_n 2, 1), (217, .aload_n 0, 1), (218, .invokevirtual 179, 3), (221, .if_icmp .ge 51, 3), (224, .aload_n 1, 1), (225, .sipush 140, 3), (228, .iconst 3, 1), (229, .iload_n 2, 1), (230, .imul, 1), (231, .iadd, 1), (232, .aload_n 0, 1), (233, .iload_n 2, 1), (234, .invokevirtual 212, 3), (237, .iastore, 1), (238, .aload_n 1, 1), (239, .sipush 141, 3), (242, .iconst 3, 1), (243, .iload_n 2, 1), (244, .imul, 1), (245, .iadd, 1), (246, .aload_n 0, 1), (247, .iload_n 2, 1), (248, .invokevirtual 215, 3), (251, .iastore, 1), (252, .aload_n 1, 1), (253, .sipush 142, 3), (256, .iconst 3, 1), (257, .iload_n 2, 1), (258, .imul, 1), (259, .iadd, 1), (260, .aload_n 0, 1), (261, .iload_n 2, 1), (262, .invokevirtual 218, 3), (265, .iastore, 1), (266, .iinc 2 1, 3), (269, .goto (-53), 3), (272, .aload_n 1, 1)]
theorem dlk_L_seen_g2 : tvDl cL_seen dl_L_seen_g2 = true := by decide +kernel
theorem dk_L_seen_175 : tvD cL_seen 175 (.istore 4) 2 177 := tvDl_get dlk_L_seen_g2 0 rfl rfl
theorem dk_L_seen_177 : tvD cL_seen 177 (.iload 4) 2 179 := tvDl_get dlk_L_seen_g2 1 rfl rfl
theorem dk_L_seen_179 : tvD cL_seen 179 (.aload_n 0) 1 180 := tvDl_get dlk_L_seen_g2 2 rfl rfl
theorem dk_L_seen_180 : tvD cL_seen 180 (.iload_n 2) 1 181 := tvDl_get dlk_L_seen_g2 3 rfl rfl
theorem dk_L_seen_181 : tvD cL_seen 181 (.invokevirtual 206) 3 184 := tvDl_get dlk_L_seen_g2 4 rfl rfl
theorem dk_L_seen_184 : tvJ cL_seen 184 (.if_icmp .ge) 208 187 := tvJl_get dlk_L_seen_g2 5 rfl (by decide) rfl
theorem dk_L_seen_187 : tvD cL_seen 187 (.aload_n 1) 1 188 := tvDl_get dlk_L_seen_g2 6 rfl rfl
theorem dk_L_seen_188 : tvD cL_seen 188 (.iload_n 3) 1 189 := tvDl_get dlk_L_seen_g2 7 rfl rfl
theorem dk_L_seen_189 : tvD cL_seen 189 (.iconst 4) 1 190 := tvDl_get dlk_L_seen_g2 8 rfl rfl
theorem dk_L_seen_190 : tvD cL_seen 190 (.iadd) 1 191 := tvDl_get dlk_L_seen_g2 9 rfl rfl
theorem dk_L_seen_191 : tvD cL_seen 191 (.iload 4) 2 193 := tvDl_get dlk_L_seen_g2 10 rfl rfl
theorem dk_L_seen_193 : tvD cL_seen 193 (.iadd) 1 194 := tvDl_get dlk_L_seen_g2 11 rfl rfl
theorem dk_L_seen_194 : tvD cL_seen 194 (.aload_n 0) 1 195 := tvDl_get dlk_L_seen_g2 12 rfl rfl
theorem dk_L_seen_195 : tvD cL_seen 195 (.iload_n 2) 1 196 := tvDl_get dlk_L_seen_g2 13 rfl rfl
theorem dk_L_seen_196 : tvD cL_seen 196 (.iload 4) 2 198 := tvDl_get dlk_L_seen_g2 14 rfl rfl
theorem dk_L_seen_198 : tvD cL_seen 198 (.invokevirtual 209) 3 201 := tvDl_get dlk_L_seen_g2 15 rfl rfl
theorem dk_L_seen_201 : tvD cL_seen 201 (.iastore) 1 202 := tvDl_get dlk_L_seen_g2 16 rfl rfl
theorem dk_L_seen_202 : tvD cL_seen 202 (.iinc 4 1) 3 205 := tvDl_get dlk_L_seen_g2 17 rfl rfl
theorem dk_L_seen_205 : tvJ cL_seen 205 .goto 177 208 := tvJl_get dlk_L_seen_g2 18 rfl (by decide) rfl
theorem dk_L_seen_208 : tvD cL_seen 208 (.iinc 2 1) 3 211 := tvDl_get dlk_L_seen_g2 19 rfl rfl
theorem dk_L_seen_211 : tvJ cL_seen 211 .goto 120 214 := tvJl_get dlk_L_seen_g2 20 rfl (by decide) rfl
theorem dk_L_seen_214 : tvD cL_seen 214 (.iconst 0) 1 215 := tvDl_get dlk_L_seen_g2 21 rfl rfl
theorem dk_L_seen_215 : tvD cL_seen 215 (.istore_n 2) 1 216 := tvDl_get dlk_L_seen_g2 22 rfl rfl
theorem dk_L_seen_216 : tvD cL_seen 216 (.iload_n 2) 1 217 := tvDl_get dlk_L_seen_g2 23 rfl rfl
theorem dk_L_seen_217 : tvD cL_seen 217 (.aload_n 0) 1 218 := tvDl_get dlk_L_seen_g2 24 rfl rfl
theorem dk_L_seen_218 : tvD cL_seen 218 (.invokevirtual 179) 3 221 := tvDl_get dlk_L_seen_g2 25 rfl rfl
theorem dk_L_seen_221 : tvJ cL_seen 221 (.if_icmp .ge) 272 224 := tvJl_get dlk_L_seen_g2 26 rfl (by decide) rfl
theorem dk_L_seen_224 : tvD cL_seen 224 (.aload_n 1) 1 225 := tvDl_get dlk_L_seen_g2 27 rfl rfl
theorem dk_L_seen_225 : tvD cL_seen 225 (.sipush 140) 3 228 := tvDl_get dlk_L_seen_g2 28 rfl rfl
theorem dk_L_seen_228 : tvD cL_seen 228 (.iconst 3) 1 229 := tvDl_get dlk_L_seen_g2 29 rfl rfl
theorem dk_L_seen_229 : tvD cL_seen 229 (.iload_n 2) 1 230 := tvDl_get dlk_L_seen_g2 30 rfl rfl
theorem dk_L_seen_230 : tvD cL_seen 230 (.imul) 1 231 := tvDl_get dlk_L_seen_g2 31 rfl rfl
theorem dk_L_seen_231 : tvD cL_seen 231 (.iadd) 1 232 := tvDl_get dlk_L_seen_g2 32 rfl rfl
theorem dk_L_seen_232 : tvD cL_seen 232 (.aload_n 0) 1 233 := tvDl_get dlk_L_seen_g2 33 rfl rfl
theorem dk_L_seen_233 : tvD cL_seen 233 (.iload_n 2) 1 234 := tvDl_get dlk_L_seen_g2 34 rfl rfl
theorem dk_L_seen_234 : tvD cL_seen 234 (.invokevirtual 212) 3 237 := tvDl_get dlk_L_seen_g2 35 rfl rfl
theorem dk_L_seen_237 : tvD cL_seen 237 (.iastore) 1 238 := tvDl_get dlk_L_seen_g2 36 rfl rfl
theorem dk_L_seen_238 : tvD cL_seen 238 (.aload_n 1) 1 239 := tvDl_get dlk_L_seen_g2 37 rfl rfl
theorem dk_L_seen_239 : tvD cL_seen 239 (.sipush 141) 3 242 := tvDl_get dlk_L_seen_g2 38 rfl rfl
theorem dk_L_seen_242 : tvD cL_seen 242 (.iconst 3) 1 243 := tvDl_get dlk_L_seen_g2 39 rfl rfl
theorem dk_L_seen_243 : tvD cL_seen 243 (.iload_n 2) 1 244 := tvDl_get dlk_L_seen_g2 40 rfl rfl
theorem dk_L_seen_244 : tvD cL_seen 244 (.imul) 1 245 := tvDl_get dlk_L_seen_g2 41 rfl rfl
theorem dk_L_seen_245 : tvD cL_seen 245 (.iadd) 1 246 := tvDl_get dlk_L_seen_g2 42 rfl rfl
theorem dk_L_seen_246 : tvD cL_seen 246 (.aload_n 0) 1 247 := tvDl_get dlk_L_seen_g2 43 rfl rfl
theorem dk_L_seen_247 : tvD cL_seen 247 (.iload_n 2) 1 248 := tvDl_get dlk_L_seen_g2 44 rfl rfl
theorem dk_L_seen_248 : tvD cL_seen 248 (.invokevirtual 215) 3 251 := tvDl_get dlk_L_seen_g2 45 rfl rfl
theorem dk_L_seen_251 : tvD cL_seen 251 (.iastore) 1 252 := tvDl_get dlk_L_seen_g2 46 rfl rfl
theorem dk_L_seen_252 : tvD cL_seen 252 (.aload_n 1) 1 253 := tvDl_get dlk_L_seen_g2 47 rfl rfl
theorem dk_L_seen_253 : tvD cL_seen 253 (.sipush 142) 3 256 := tvDl_get dlk_L_seen_g2 48 rfl rfl
theorem dk_L_seen_256 : tvD cL_seen 256 (.iconst 3) 1 257 := tvDl_get dlk_L_seen_g2 49 rfl rfl
theorem dk_L_seen_257 : tvD cL_seen 257 (.iload_n 2) 1 258 := tvDl_get dlk_L_seen_g2 50 rfl rfl
theorem dk_L_seen_258 : tvD cL_seen 258 (.imul) 1 259 := tvDl_get dlk_L_seen_g2 51 rfl rfl
theorem dk_L_seen_259 : tvD cL_seen 259 (.iadd) 1 260 := tvDl_get dlk_L_seen_g2 52 rfl rfl
theorem dk_L_seen_260 : tvD cL_seen 260 (.aload_n 0) 1 261 := tvDl_get dlk_L_seen_g2 53 rfl rfl
theorem dk_L_seen_261 : tvD cL_seen 261 (.iload_n 2) 1 262 := tvDl_get dlk_L_seen_g2 54 rfl rfl
theorem dk_L_seen_262 : tvD cL_seen 262 (.invokevirtual 218) 3 265 := tvDl_get dlk_L_seen_g2 55 rfl rfl
theorem dk_L_seen_265 : tvD cL_seen 265 (.iastore) 1 266 := tvDl_get dlk_L_seen_g2 56 rfl rfl
theorem dk_L_seen_266 : tvD cL_seen 266 (.iinc 2 1) 3 269 := tvDl_get dlk_L_seen_g2 57 rfl rfl
theorem dk_L_seen_269 : tvJ cL_seen 269 .goto 216 272 := tvJl_get dlk_L_seen_g2 58 rfl (by decide) rfl
theorem dk_L_seen_272 : tvD cL_seen 272 (.aload_n 1) 1 273 := tvDl_get dlk_L_seen_g2 59 rfl rfl
def dl_L_seen_g3 : List (Nat × Instr × Nat) := [(273, .areturn, 1)]
theorem dlk_L_seen_g3 : tvDl cL_seen dl_L_seen_g3 = true := by decide +kernel
theorem dk_L_seen_273 : tvD cL_seen 273 (.areturn) 1 274 := tvDl_get dlk_L_seen_g3 0 rfl rfl
