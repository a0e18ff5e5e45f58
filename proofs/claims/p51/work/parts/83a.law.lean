/-! ===== a vault is well ===== -/
/-- nothing but the rehearsal has changed -/
def zM (M M1 : tvM) : Prop := (∀ a, ¬ (21 ≤ a ∧ a < 41) → M1.1 a = M.1 a) ∧ (∀ a, ¬ (21 ≤ a ∧ a < 41) → M1.2.1 a = M.2.1 a)
theorem zM_rf (M : tvM) : zM M M := ⟨fun _ _ => rfl, fun _ _ => rfl⟩
theorem zM.tr {M M1 M2 : tvM} (h : zM M M1) (h2 : zM M1 M2) : zM M M2 := ⟨fun a q => (h2.1 a q).trans (h.1 a q), fun a q => (h2.2 a q).trans (h.2 a q)⟩
theorem zM_pu (M : tvM) (c : Nat → Nat → Int32) (l : Int64) : zM M (puC M 21 c l) := ⟨fun a q => funext fun k => puC_o M 21 c l (by omega) k, fun a q => tvU_ne _ _ _ (by omega)⟩
theorem zM.ok {B : Nat} {M M1 : tvM} {s : Nat → Nat} (h : zM M M1) (hR : pOk B (pV M 1) (pL M 1) s) : pOk B (pV M1 1) (pL M1 1) s := by
  rw [show pL M1 1 = pL M 1 from congrFun (h.2 1 (by omega)) 8]
  exact pOk_cc hR fun p k hr => congrFun (h.1 _ (by unfold pRel at hr; omega)) k
theorem z_until {B : Nat} {M : tvM} {s : Nat → Nat} (hR : pOk B (pV M 1) (pL M 1) s) {i : Nat} (hi : i < s 10) : ∃ u, wOut wFirst (f_X8_minutesUntilOpen M (nI i)) u M ∧ ((s (36 + 13 * i + 3) ≠ 2 ∧ u = -900002) ∨ (s (36 + 13 * i + 3) = 2 ∧ ∃ K, pOpK s i K ∧ u = nI K)) := by
  have s10 := hR.1.2.1.2.2.2.2.2.2.2.2.1
  by_cases q : s (36 + 13 * i + 3) = 2
  · obtain ⟨K, hK⟩ := pOpK_ex hR (i := i) (by omega)
    exact ⟨nI K, Or.inl (q_until' hR hi q hK), Or.inr ⟨q, K, hK, rfl⟩⟩
  · exact ⟨-900002, Or.inr ⟨("java/util/NoSuchElementException", -900002), by simp, (q_until0' hR hi q).1, rfl⟩, Or.inl ⟨q, rfl⟩⟩
def zQ (s : Nat → Nat) (b k o : Nat) : Bool := decide ((s (36 + 13 * b + 0) = k ∧ s (36 + 13 * b + 1) = o) ∨ (s (36 + 13 * b + 0) ≠ k ∧ s (36 + 13 * b + 1) = k ∧ s (36 + 13 * b + 0) = o))
theorem z_pair {B : Nat} {M : tvM} {s : Nat → Nat} (hR : pOk B (pV M 1) (pL M 1) s) {b k o : Nat} (hb : b < s 10) (hk : k < 10) (ho : o < 10) : (∃ z, f_X8_otherHolder M (nI b) (nI k) = (none, z, M) ∧ ((z = nI o ∧ (if zQ s b k o then (1 : Int32) else 0) = 1) ∨ (¬ z = nI o ∧ (if zQ s b k o then (1 : Int32) else 0) = 0))) ∨ (f_X8_otherHolder M (nI b) (nI k) = (some "java/lang/IllegalArgumentException", 0, M) ∧ (if zQ s b k o then (1 : Int32) else 0) = 0) := by
  have hv := hR.1.1
  unfold zQ
  by_cases q0 : s (36 + 13 * b + 0) = k
  · refine Or.inl ⟨_, q_otherHolder1' hR hb q0, ?_⟩
    by_cases q : s (36 + 13 * b + 1) = o
    · exact Or.inl ⟨by rw [q], by rw [if_pos (decide_eq_true (Or.inl ⟨q0, q⟩))]⟩
    · exact Or.inr ⟨fun e => q ((pn_eq (hv _) (by omega)).1 e), by rw [if_neg (fun e => by rcases of_decide_eq_true e with ⟨_, h⟩ | ⟨h, _, _⟩; exact q h; exact h q0)]⟩
  · by_cases q1 : s (36 + 13 * b + 1) = k
    · refine Or.inl ⟨_, q_otherHolder2' hR hb q0 q1, ?_⟩
      by_cases q : s (36 + 13 * b + 0) = o
      · exact Or.inl ⟨by rw [q], by rw [if_pos (decide_eq_true (Or.inr ⟨q0, q1, q⟩))]⟩
      · exact Or.inr ⟨fun e => q ((pn_eq (hv _) (by omega)).1 e), by rw [if_neg (fun e => by rcases of_decide_eq_true e with ⟨h, _⟩ | ⟨_, _, h⟩; exact q0 h; exact q h)]⟩
    · exact Or.inr ⟨q_otherHolder3' hR hb (by omega) q0 q1, by rw [if_neg (fun e => by rcases of_decide_eq_true e with ⟨h, _⟩ | ⟨_, h, _⟩; exact q0 h; exact q1 h)]⟩
def zAny (p : Nat → Bool) : Nat → Nat
  | 0 => 0
  | n + 1 => if p n = true then 1 else zAny p n
theorem zAny_01 (p : Nat → Bool) (n : Nat) : zAny p n = 0 ∨ zAny p n = 1 := by
  induction n with
  | zero => exact Or.inl rfl
  | succ n ih =>
    rw [zAny]
    split
    · exact Or.inr rfl
    · exact ih
theorem zAny_no {p : Nat → Bool} {n : Nat} (h : ∀ i, i < n → ¬ p i = true) : zAny p n = 0 := by
  induction n with
  | zero => rfl
  | succ n ih => rw [zAny, if_neg (h n (by omega)), ih fun i hi => h i (by omega)]
theorem zAny_yes {p : Nat → Bool} {n i : Nat} (hi : i < n) (h : p i = true) : zAny p n = 1 := by
  induction n with
  | zero => omega
  | succ n ih =>
    rw [zAny]
    split
    · rfl
    · rename_i q
      refine ih ?_
      rcases Nat.lt_or_ge i n with h1 | h1
      · exact h1
      · obtain rfl : i = n := by omega
        exact absurd h q
def zP (s : Nat → Nat) (b k o : Nat) : Bool := decide (o ≠ k) && zQ s b k o
theorem zAny_s (p : Nat → Bool) (n : Nat) : nI (zAny p n) ||| nI (if p n = true then 1 else 0) = nI (zAny p (n + 1)) := by
  rw [zAny]
  rcases zAny_01 p n with h | h <;> rw [h] <;> split <;> rfl
theorem zP_all {s : Nat → Nat} (hX : pXi (0, 0) s) (hv : ∀ k, s k < 2147483648) {b k : Nat} (hb : b < s 10) (h10 : s 10 ≤ 10) (hk : k < s 9) (h9 : s 9 ≤ 8) : zAny (zP s b k) (s 9) = if pBo s (nI k) b = true then 1 else 0 := by
  obtain ⟨x1, x2, x3, -⟩ := hX.2.1 b (by omega) hb
  unfold pBo
  by_cases q0 : s (36 + 13 * b + 0) = k
  · rw [if_pos (by rw [show 36 + 13 * b = 36 + 13 * b + 0 from rfl, q0]; simp)]
    refine zAny_yes x2 ?_
    unfold zP zQ
    rw [Bool.and_eq_true]
    exact ⟨decide_eq_true (by omega), decide_eq_true (Or.inl ⟨q0, rfl⟩)⟩
  · by_cases q1 : s (36 + 13 * b + 1) = k
    · rw [if_pos (by rw [q1]; simp)]
      refine zAny_yes x1 ?_
      unfold zP zQ
      rw [Bool.and_eq_true]
      exact ⟨decide_eq_true q0, decide_eq_true (Or.inr ⟨q0, q1, rfl⟩)⟩
    · rw [if_neg (fun e => by
        rw [Bool.or_eq_true] at e
        rcases e with e | e
        · exact q0 ((pn_eq (hv _) (by omega)).1 (of_decide_eq_true e))
        · exact q1 ((pn_eq (hv _) (by omega)).1 (of_decide_eq_true e)))]
      refine zAny_no fun i _ e => ?_
      unfold zP zQ at e
      rw [Bool.and_eq_true] at e
      rcases of_decide_eq_true e.2 with ⟨h, _⟩ | ⟨_, h, _⟩
      · exact q0 h
      · exact q1 h
theorem tvRxz {G : tvG} {y : MethodName} {cc : ByteArray} {n : Nat} {ret : Option FieldType} {d mc ms : Nat} {args : List Value} {M M1 : tvM} {f : Int32 × tvM} {v : Int32} (h : tvRun G y cc n ret d mc ms tvP0 tvP0 args M (.inl (some (.int f.1))) f.2) (e : f = (v, M1)) : tvRun G y cc n ret d mc ms tvP0 tvP0 args M (.inl (some (.int v))) M1 := by
  subst e
  exact h

theorem ml_RL_223 : Cond.methodLink RL 223 yL_minutesUntilOpenBySimulation ∈ tvGW := tvgc (tvc_6 (List.mem_of_getElem? (i := 221) (by decide +kernel))) rfl
theorem yi_L_minutesUntilOpenBySimulation : Cond.static yL_minutesUntilOpenBySimulation ∈ tvGW := tvgc (tvc_6 (List.mem_of_getElem? (i := 222) (by decide +kernel))) rfl
theorem ml_RL_221 : Cond.methodLink RL 221 yL_minutesUntilOpen ∈ tvGW := tvgc (tvc_2 (List.mem_of_getElem? (i := 192) (by decide +kernel))) rfl
theorem yi_L_minutesUntilOpen : Cond.static yL_minutesUntilOpen ∈ tvGW := tvgc (tvc_2 (List.mem_of_getElem? (i := 193) (by decide +kernel))) rfl
theorem ml_RL_228 : Cond.methodLink RL 228 yL_isPair ∈ tvGW := tvgc (tvc_7 (List.mem_of_getElem? (i := 7) (by decide +kernel))) rfl
theorem yi_L_isPair : Cond.static yL_isPair ∈ tvGW := tvgc (tvc_7 (List.mem_of_getElem? (i := 8) (by decide +kernel))) rfl
theorem ml_RL_232 : Cond.methodLink RL 232 yX8_boxesOf ∈ tvGW := tvgc (tvc_7 (List.mem_of_getElem? (i := 10) (by decide +kernel))) rfl
theorem yk_L_isWell : tvYk yL_isWell cL_isWell 8 (some .boolean) 1 := ⟨tvgc (tvc_6 (List.mem_of_getElem? (i := 220) (by decide +kernel))) rfl, tvgc (tvc_1 (List.mem_of_getElem? (i := 0) (by decide +kernel))) rfl, by decide +kernel, by decide +kernel, plainFor_of_name (by decide +kernel)⟩
theorem ml_RL_235 : Cond.methodLink RL 235 yX8_totalValue ∈ tvGW := tvgc (tvc_7 (List.mem_of_getElem? (i := 19) (by decide +kernel))) rfl
theorem ml_RL_238 : Cond.methodLink RL 238 yX8_lowMinutesByCounting ∈ tvGW := tvgc (tvc_7 (List.mem_of_getElem? (i := 27) (by decide +kernel))) rfl
theorem ml_RL_241 : Cond.methodLink RL 241 yX8_isConsistent ∈ tvGW := tvgc (tvc_7 (List.mem_of_getElem? (i := 36) (by decide +kernel))) rfl
def dl_L_isWell_g0 : List (Nat × Instr × Nat) := [(0, .lconst 0, 1), (1, .lstore_n 1, 1), (2, .iconst 0, 1), (3, .istore_n 3, 1), (4, .iload_n 3, 1), (5, .aload_n 0, 1), (6, .invokevirtual 127, 3), (9, .if_icmp .ge 188, 3), (12, .aload_n 0, 1), (13, .iload_n 3, 1), (14, .invokevirtual 199, 3), (17, .istore 4, 2), (19, .aload_n 0, 1), (20, .iload_n 3, 1), (21, .invokestatic 221, 3), (24, .istore 5, 2), (26, .iconst 0, 1), (27, .istore 6, 2), (29, .iload 6, 2), (31, .aload_n 0, 1), (32, .iload_n 3, 1), (33, .invokevirtual 206, 3), (36, .if_icmp .ge 20, 3), (39, .lload_n 1, 1), (40, .aload_n 0, 1), (41, .iload_n 3, 1), (42, .iload 6, 2), (44, .invokevirtual 209, 3), (47, .i2l, 1), (48, .ladd, 1), (49, .lstore_n 1, 1), (50, .iinc 6 1, 3), (53, .goto (-24), 3), (56, .iload 4, 2), (58, .bipush 104, 2), (60, .if_icmp .ne 7, 3), (63, .iconst 1, 1), (64, .goto 4, 3), (67, .iconst 0, 1), (68, .aload_n 0, 1), (69, .iload_n 3, 1), (70, .invokestatic 202, 3), (73, .ifCond .lt 7, 3), (76, .iconst 1, 1), (77, .goto 4, 3), (80, .iconst 0, 1), (81, .if_icmp .ne 76, 3), (84, .iload 4, 2), (86, .bipush 112, 2), (88, .if_icmp .ne 7, 3), (91, .iconst 1, 1), (92, .goto 4, 3), (95, .iconst 0, 1), (96, .aload_n 0, 1), (97, .iload_n 3, 1), (98, .invokestatic 204, 3), (101, .ifCond .lt 7, 3), (104, .iconst 1, 1), (105, .goto 4, 3), (108, .iconst 0, 1)]
theorem dlk_L_isWell_g0 : tvDl cL_isWell dl_L_isWell_g0 = true := by decide +kernel
theorem dk_L_isWell_0 : tvD cL_isWell 0 (.lconst 0) 1 1 := tvDl_get dlk_L_isWell_g0 0 rfl rfl
theorem dk_L_isWell_1 : tvD cL_isWell 1 (.lstore_n 1) 1 2 := tvDl_get dlk_L_isWell_g0 1 rfl rfl
theorem dk_L_isWell_2 : tvD cL_isWell 2 (.iconst 0) 1 3 := tvDl_get dlk_L_isWell_g0 2 rfl rfl
theorem dk_L_isWell_3 : tvD cL_isWell 3 (.istore_n 3) 1 4 := tvDl_get dlk_L_isWell_g0 3 rfl rfl
theorem dk_L_isWell_4 : tvD cL_isWell 4 (.iload_n 3) 1 5 := tvDl_get dlk_L_isWell_g0 4 rfl rfl
theorem dk_L_isWell_5 : tvD cL_isWell 5 (.aload_n 0) 1 6 := tvDl_get dlk_L_isWell_g0 5 rfl rfl
theorem dk_L_isWell_6 : tvD cL_isWell 6 (.invokevirtual 127) 3 9 := tvDl_get dlk_L_isWell_g0 6 rfl rfl
theorem dk_L_isWell_9 : tvJ cL_isWell 9 (.if_icmp .ge) 197 12 := tvJl_get dlk_L_isWell_g0 7 rfl (by decide) rfl
theorem dk_L_isWell_12 : tvD cL_isWell 12 (.aload_n 0) 1 13 := tvDl_get dlk_L_isWell_g0 8 rfl rfl
theorem dk_L_isWell_13 : tvD cL_isWell 13 (.iload_n 3) 1 14 := tvDl_get dlk_L_isWell_g0 9 rfl rfl
theorem dk_L_isWell_14 : tvD cL_isWell 14 (.invokevirtual 199) 3 17 := tvDl_get dlk_L_isWell_g0 10 rfl rfl
theorem dk_L_isWell_17 : tvD cL_isWell 17 (.istore 4) 2 19 := tvDl_get dlk_L_isWell_g0 11 rfl rfl
theorem dk_L_isWell_19 : tvD cL_isWell 19 (.aload_n 0) 1 20 := tvDl_get dlk_L_isWell_g0 12 rfl rfl
theorem dk_L_isWell_20 : tvD cL_isWell 20 (.iload_n 3) 1 21 := tvDl_get dlk_L_isWell_g0 13 rfl rfl
theorem dk_L_isWell_21 : tvD cL_isWell 21 (.invokestatic 221) 3 24 := tvDl_get dlk_L_isWell_g0 14 rfl rfl
theorem dk_L_isWell_24 : tvD cL_isWell 24 (.istore 5) 2 26 := tvDl_get dlk_L_isWell_g0 15 rfl rfl
theorem dk_L_isWell_26 : tvD cL_isWell 26 (.iconst 0) 1 27 := tvDl_get dlk_L_isWell_g0 16 rfl rfl
theorem dk_L_isWell_27 : tvD cL_isWell 27 (.istore 6) 2 29 := tvDl_get dlk_L_isWell_g0 17 rfl rfl
theorem dk_L_isWell_29 : tvD cL_isWell 29 (.iload 6) 2 31 := tvDl_get dlk_L_isWell_g0 18 rfl rfl
theorem dk_L_isWell_31 : tvD cL_isWell 31 (.aload_n 0) 1 32 := tvDl_get dlk_L_isWell_g0 19 rfl rfl
theorem dk_L_isWell_32 : tvD cL_isWell 32 (.iload_n 3) 1 33 := tvDl_get dlk_L_isWell_g0 20 rfl rfl
theorem dk_L_isWell_33 : tvD cL_isWell 33 (.invokevirtual 206) 3 36 := tvDl_get dlk_L_isWell_g0 21 rfl rfl
theorem dk_L_isWell_36 : tvJ cL_isWell 36 (.if_icmp .ge) 56 39 := tvJl_get dlk_L_isWell_g0 22 rfl (by decide) rfl
theorem dk_L_isWell_39 : tvD cL_isWell 39 (.lload_n 1) 1 40 := tvDl_get dlk_L_isWell_g0 23 rfl rfl
theorem dk_L_isWell_40 : tvD cL_isWell 40 (.aload_n 0) 1 41 := tvDl_get dlk_L_isWell_g0 24 rfl rfl
theorem dk_L_isWell_41 : tvD cL_isWell 41 (.iload_n 3) 1 42 := tvDl_get dlk_L_isWell_g0 25 rfl rfl
theorem dk_L_isWell_42 : tvD cL_isWell 42 (.iload 6) 2 44 := tvDl_get dlk_L_isWell_g0 26 rfl rfl
theorem dk_L_isWell_44 : tvD cL_isWell 44 (.invokevirtual 209) 3 47 := tvDl_get dlk_L_isWell_g0 27 rfl rfl
theorem dk_L_isWell_47 : tvD cL_isWell 47 (.i2l) 1 48 := tvDl_get dlk_L_isWell_g0 28 rfl rfl
theorem dk_L_isWell_48 : tvD cL_isWell 48 (.ladd) 1 49 := tvDl_get dlk_L_isWell_g0 29 rfl rfl
theorem dk_L_isWell_49 : tvD cL_isWell 49 (.lstore_n 1) 1 50 := tvDl_get dlk_L_isWell_g0 30 rfl rfl
theorem dk_L_isWell_50 : tvD cL_isWell 50 (.iinc 6 1) 3 53 := tvDl_get dlk_L_isWell_g0 31 rfl rfl
theorem dk_L_isWell_53 : tvJ cL_isWell 53 .goto 29 56 := tvJl_get dlk_L_isWell_g0 32 rfl (by decide) rfl
theorem dk_L_isWell_56 : tvD cL_isWell 56 (.iload 4) 2 58 := tvDl_get dlk_L_isWell_g0 33 rfl rfl
theorem dk_L_isWell_58 : tvD cL_isWell 58 (.bipush 104) 2 60 := tvDl_get dlk_L_isWell_g0 34 rfl rfl
theorem dk_L_isWell_60 : tvJ cL_isWell 60 (.if_icmp .ne) 67 63 := tvJl_get dlk_L_isWell_g0 35 rfl (by decide) rfl
theorem dk_L_isWell_63 : tvD cL_isWell 63 (.iconst 1) 1 64 := tvDl_get dlk_L_isWell_g0 36 rfl rfl
theorem dk_L_isWell_64 : tvJ cL_isWell 64 .goto 68 67 := tvJl_get dlk_L_isWell_g0 37 rfl (by decide) rfl
theorem dk_L_isWell_67 : tvD cL_isWell 67 (.iconst 0) 1 68 := tvDl_get dlk_L_isWell_g0 38 rfl rfl
theorem dk_L_isWell_68 : tvD cL_isWell 68 (.aload_n 0) 1 69 := tvDl_get dlk_L_isWell_g0 39 rfl rfl
theorem dk_L_isWell_69 : tvD cL_isWell 69 (.iload_n 3) 1 70 := tvDl_get dlk_L_isWell_g0 40 rfl rfl
theorem dk_L_isWell_70 : tvD cL_isWell 70 (.invokestatic 202) 3 73 := tvDl_get dlk_L_isWell_g0 41 rfl rfl
theorem dk_L_isWell_73 : tvJ cL_isWell 73 (.ifCond .lt) 80 76 := tvJl_get dlk_L_isWell_g0 42 rfl (by decide) rfl
theorem dk_L_isWell_76 : tvD cL_isWell 76 (.iconst 1) 1 77 := tvDl_get dlk_L_isWell_g0 43 rfl rfl
theorem dk_L_isWell_77 : tvJ cL_isWell 77 .goto 81 80 := tvJl_get dlk_L_isWell_g0 44 rfl (by decide) rfl
theorem dk_L_isWell_80 : tvD cL_isWell 80 (.iconst 0) 1 81 := tvDl_get dlk_L_isWell_g0 45 rfl rfl
theorem dk_L_isWell_81 : tvJ cL_isWell 81 (.if_icmp .ne) 157 84 := tvJl_get dlk_L_isWell_g0 46 rfl (by decide) rfl
theorem dk_L_isWell_84 : tvD cL_isWell 84 (.iload 4) 2 86 := tvDl_get dlk_L_isWell_g0 47 rfl rfl
theorem dk_L_isWell_86 : tvD cL_isWell 86 (.bipush 112) 2 88 := tvDl_get dlk_L_isWell_g0 48 rfl rfl
theorem dk_L_isWell_88 : tvJ cL_isWell 88 (.if_icmp .ne) 95 91 := tvJl_get dlk_L_isWell_g0 49 rfl (by decide) rfl
theorem dk_L_isWell_91 : tvD cL_isWell 91 (.iconst 1) 1 92 := tvDl_get dlk_L_isWell_g0 50 rfl rfl
theorem dk_L_isWell_92 : tvJ cL_isWell 92 .goto 96 95 := tvJl_get dlk_L_isWell_g0 51 rfl (by decide) rfl
theorem dk_L_isWell_95 : tvD cL_isWell 95 (.iconst 0) 1 96 := tvDl_get dlk_L_isWell_g0 52 rfl rfl
theorem dk_L_isWell_96 : tvD cL_isWell 96 (.aload_n 0) 1 97 := tvDl_get dlk_L_isWell_g0 53 rfl rfl
theorem dk_L_isWell_97 : tvD cL_isWell 97 (.iload_n 3) 1 98 := tvDl_get dlk_L_isWell_g0 54 rfl rfl
theorem dk_L_isWell_98 : tvD cL_isWell 98 (.invokestatic 204) 3 101 := tvDl_get dlk_L_isWell_g0 55 rfl rfl
theorem dk_L_isWell_101 : tvJ cL_isWell 101 (.ifCond .lt) 108 104 := tvJl_get dlk_L_isWell_g0 56 rfl (by decide) rfl
theorem dk_L_isWell_104 : tvD cL_isWell 104 (.iconst 1) 1 105 := tvDl_get dlk_L_isWell_g0 57 rfl rfl
theorem dk_L_isWell_105 : tvJ cL_isWell 105 .goto 109 108 := tvJl_get dlk_L_isWell_g0 58 rfl (by decide) rfl
theorem dk_L_isWell_108 : tvD cL_isWell 108 (.iconst 0) 1 109 := tvDl_get dlk_L_isWell_g0 59 rfl rfl
def dl_L_isWell_g1 : List (Nat × Instr × Nat) := [(109, .if_icmp .ne 48, 3), (112, .iload 4, 2), (114, .bipush 112, 2), (116, .if_icmp .ne 7, 3), (119, .iconst 1, 1), (120, .goto 4, 3), (123, .iconst 0, 1), (124, .iload 5, 2), (126, .iconst 1, 1), (127, .if_icmp .lt 7, 3), (130, .iconst 1, 1), (131, .goto 4, 3), (134, .iconst 0, 1), (135, .if_icmp .ne 22, 3), (138, .iload 5, 2), (140, .aload_n 0, 1), (141, .iload_n 3, 1), (142, .invokestatic 223, 3), (145, .if_icmp .ne 12, 3), (148, .aload_n 0, 1), (149, .iload_n 3, 1), (150, .invokevirtual 206, 3), (153, .iconst 5, 1), (154, .if_icmp .le 5, 3), (159, .iload 4, 2), (161, .bipush 104, 2), (163, .if_icmp .ne 28, 3), (166, .aload_n 0, 1), (167, .iload_n 3, 1), (168, .aload_n 0, 1), (169, .iload_n 3, 1), (170, .aload_n 0, 1), (171, .iload_n 3, 1), (172, .invokevirtual 56, 3), (175, .invokevirtual 225, 3), (178, .invokevirtual 225, 3), (181, .aload_n 0, 1), (182, .iload_n 3, 1), (183, .invokevirtual 56, 3), (186, .if_icmp .eq 5, 3), (191, .iinc 3 1, 3), (194, .goto (-190), 3), (197, .iconst 0, 1), (198, .istore_n 3, 1), (199, .iload_n 3, 1), (200, .aload_n 0, 1), (201, .invokevirtual 176, 3), (204, .if_icmp .ge 141, 3), (207, .iconst 0, 1), (208, .istore 4, 2), (210, .iconst 0, 1), (211, .istore 5, 2), (213, .iload 5, 2), (215, .aload_n 0, 1), (216, .invokevirtual 127, 3), (219, .if_icmp .ge 73, 3), (222, .iconst 0, 1), (223, .istore 6, 2), (225, .iconst 0, 1), (226, .istore 7, 2)]
theorem dlk_L_isWell_g1 : tvDl cL_isWell dl_L_isWell_g1 = true := by decide +kernel
theorem dk_L_isWell_109 : tvJ cL_isWell 109 (.if_icmp .ne) 157 112 := tvJl_get dlk_L_isWell_g1 0 rfl (by decide) rfl
theorem dk_L_isWell_112 : tvD cL_isWell 112 (.iload 4) 2 114 := tvDl_get dlk_L_isWell_g1 1 rfl rfl
theorem dk_L_isWell_114 : tvD cL_isWell 114 (.bipush 112) 2 116 := tvDl_get dlk_L_isWell_g1 2 rfl rfl
theorem dk_L_isWell_116 : tvJ cL_isWell 116 (.if_icmp .ne) 123 119 := tvJl_get dlk_L_isWell_g1 3 rfl (by decide) rfl
theorem dk_L_isWell_119 : tvD cL_isWell 119 (.iconst 1) 1 120 := tvDl_get dlk_L_isWell_g1 4 rfl rfl
theorem dk_L_isWell_120 : tvJ cL_isWell 120 .goto 124 123 := tvJl_get dlk_L_isWell_g1 5 rfl (by decide) rfl
theorem dk_L_isWell_123 : tvD cL_isWell 123 (.iconst 0) 1 124 := tvDl_get dlk_L_isWell_g1 6 rfl rfl
theorem dk_L_isWell_124 : tvD cL_isWell 124 (.iload 5) 2 126 := tvDl_get dlk_L_isWell_g1 7 rfl rfl
theorem dk_L_isWell_126 : tvD cL_isWell 126 (.iconst 1) 1 127 := tvDl_get dlk_L_isWell_g1 8 rfl rfl
theorem dk_L_isWell_127 : tvJ cL_isWell 127 (.if_icmp .lt) 134 130 := tvJl_get dlk_L_isWell_g1 9 rfl (by decide) rfl
theorem dk_L_isWell_130 : tvD cL_isWell 130 (.iconst 1) 1 131 := tvDl_get dlk_L_isWell_g1 10 rfl rfl
theorem dk_L_isWell_131 : tvJ cL_isWell 131 .goto 135 134 := tvJl_get dlk_L_isWell_g1 11 rfl (by decide) rfl
theorem dk_L_isWell_134 : tvD cL_isWell 134 (.iconst 0) 1 135 := tvDl_get dlk_L_isWell_g1 12 rfl rfl
theorem dk_L_isWell_135 : tvJ cL_isWell 135 (.if_icmp .ne) 157 138 := tvJl_get dlk_L_isWell_g1 13 rfl (by decide) rfl
theorem dk_L_isWell_138 : tvD cL_isWell 138 (.iload 5) 2 140 := tvDl_get dlk_L_isWell_g1 14 rfl rfl
theorem dk_L_isWell_140 : tvD cL_isWell 140 (.aload_n 0) 1 141 := tvDl_get dlk_L_isWell_g1 15 rfl rfl
theorem dk_L_isWell_141 : tvD cL_isWell 141 (.iload_n 3) 1 142 := tvDl_get dlk_L_isWell_g1 16 rfl rfl
theorem dk_L_isWell_142 : tvD cL_isWell 142 (.invokestatic 223) 3 145 := tvDl_get dlk_L_isWell_g1 17 rfl rfl
theorem dk_L_isWell_145 : tvJ cL_isWell 145 (.if_icmp .ne) 157 148 := tvJl_get dlk_L_isWell_g1 18 rfl (by decide) rfl
theorem dk_L_isWell_148 : tvD cL_isWell 148 (.aload_n 0) 1 149 := tvDl_get dlk_L_isWell_g1 19 rfl rfl
theorem dk_L_isWell_149 : tvD cL_isWell 149 (.iload_n 3) 1 150 := tvDl_get dlk_L_isWell_g1 20 rfl rfl
theorem dk_L_isWell_150 : tvD cL_isWell 150 (.invokevirtual 206) 3 153 := tvDl_get dlk_L_isWell_g1 21 rfl rfl
theorem dk_L_isWell_153 : tvD cL_isWell 153 (.iconst 5) 1 154 := tvDl_get dlk_L_isWell_g1 22 rfl rfl
theorem dk_L_isWell_154 : tvJ cL_isWell 154 (.if_icmp .le) 159 157 := tvJl_get dlk_L_isWell_g1 23 rfl (by decide) rfl
theorem dk_L_isWell_159 : tvD cL_isWell 159 (.iload 4) 2 161 := tvDl_get dlk_L_isWell_g1 24 rfl rfl
theorem dk_L_isWell_161 : tvD cL_isWell 161 (.bipush 104) 2 163 := tvDl_get dlk_L_isWell_g1 25 rfl rfl
theorem dk_L_isWell_163 : tvJ cL_isWell 163 (.if_icmp .ne) 191 166 := tvJl_get dlk_L_isWell_g1 26 rfl (by decide) rfl
theorem dk_L_isWell_166 : tvD cL_isWell 166 (.aload_n 0) 1 167 := tvDl_get dlk_L_isWell_g1 27 rfl rfl
theorem dk_L_isWell_167 : tvD cL_isWell 167 (.iload_n 3) 1 168 := tvDl_get dlk_L_isWell_g1 28 rfl rfl
theorem dk_L_isWell_168 : tvD cL_isWell 168 (.aload_n 0) 1 169 := tvDl_get dlk_L_isWell_g1 29 rfl rfl
theorem dk_L_isWell_169 : tvD cL_isWell 169 (.iload_n 3) 1 170 := tvDl_get dlk_L_isWell_g1 30 rfl rfl
theorem dk_L_isWell_170 : tvD cL_isWell 170 (.aload_n 0) 1 171 := tvDl_get dlk_L_isWell_g1 31 rfl rfl
theorem dk_L_isWell_171 : tvD cL_isWell 171 (.iload_n 3) 1 172 := tvDl_get dlk_L_isWell_g1 32 rfl rfl
theorem dk_L_isWell_172 : tvD cL_isWell 172 (.invokevirtual 56) 3 175 := tvDl_get dlk_L_isWell_g1 33 rfl rfl
theorem dk_L_isWell_175 : tvD cL_isWell 175 (.invokevirtual 225) 3 178 := tvDl_get dlk_L_isWell_g1 34 rfl rfl
theorem dk_L_isWell_178 : tvD cL_isWell 178 (.invokevirtual 225) 3 181 := tvDl_get dlk_L_isWell_g1 35 rfl rfl
theorem dk_L_isWell_181 : tvD cL_isWell 181 (.aload_n 0) 1 182 := tvDl_get dlk_L_isWell_g1 36 rfl rfl
theorem dk_L_isWell_182 : tvD cL_isWell 182 (.iload_n 3) 1 183 := tvDl_get dlk_L_isWell_g1 37 rfl rfl
theorem dk_L_isWell_183 : tvD cL_isWell 183 (.invokevirtual 56) 3 186 := tvDl_get dlk_L_isWell_g1 38 rfl rfl
theorem dk_L_isWell_186 : tvJ cL_isWell 186 (.if_icmp .eq) 191 189 := tvJl_get dlk_L_isWell_g1 39 rfl (by decide) rfl
theorem dk_L_isWell_191 : tvD cL_isWell 191 (.iinc 3 1) 3 194 := tvDl_get dlk_L_isWell_g1 40 rfl rfl
theorem dk_L_isWell_194 : tvJ cL_isWell 194 .goto 4 197 := tvJl_get dlk_L_isWell_g1 41 rfl (by decide) rfl
theorem dk_L_isWell_197 : tvD cL_isWell 197 (.iconst 0) 1 198 := tvDl_get dlk_L_isWell_g1 42 rfl rfl
theorem dk_L_isWell_198 : tvD cL_isWell 198 (.istore_n 3) 1 199 := tvDl_get dlk_L_isWell_g1 43 rfl rfl
theorem dk_L_isWell_199 : tvD cL_isWell 199 (.iload_n 3) 1 200 := tvDl_get dlk_L_isWell_g1 44 rfl rfl
theorem dk_L_isWell_200 : tvD cL_isWell 200 (.aload_n 0) 1 201 := tvDl_get dlk_L_isWell_g1 45 rfl rfl
theorem dk_L_isWell_201 : tvD cL_isWell 201 (.invokevirtual 176) 3 204 := tvDl_get dlk_L_isWell_g1 46 rfl rfl
theorem dk_L_isWell_204 : tvJ cL_isWell 204 (.if_icmp .ge) 345 207 := tvJl_get dlk_L_isWell_g1 47 rfl (by decide) rfl
theorem dk_L_isWell_207 : tvD cL_isWell 207 (.iconst 0) 1 208 := tvDl_get dlk_L_isWell_g1 48 rfl rfl
theorem dk_L_isWell_208 : tvD cL_isWell 208 (.istore 4) 2 210 := tvDl_get dlk_L_isWell_g1 49 rfl rfl
theorem dk_L_isWell_210 : tvD cL_isWell 210 (.iconst 0) 1 211 := tvDl_get dlk_L_isWell_g1 50 rfl rfl
theorem dk_L_isWell_211 : tvD cL_isWell 211 (.istore 5) 2 213 := tvDl_get dlk_L_isWell_g1 51 rfl rfl
theorem dk_L_isWell_213 : tvD cL_isWell 213 (.iload 5) 2 215 := tvDl_get dlk_L_isWell_g1 52 rfl rfl
theorem dk_L_isWell_215 : tvD cL_isWell 215 (.aload_n 0) 1 216 := tvDl_get dlk_L_isWell_g1 53 rfl rfl
theorem dk_L_isWell_216 : tvD cL_isWell 216 (.invokevirtual 127) 3 219 := tvDl_get dlk_L_isWell_g1 54 rfl rfl
theorem dk_L_isWell_219 : tvJ cL_isWell 219 (.if_icmp .ge) 292 222 := tvJl_get dlk_L_isWell_g1 55 rfl (by decide) rfl
theorem dk_L_isWell_222 : tvD cL_isWell 222 (.iconst 0) 1 223 := tvDl_get dlk_L_isWell_g1 56 rfl rfl
theorem dk_L_isWell_223 : tvD cL_isWell 223 (.istore 6) 2 225 := tvDl_get dlk_L_isWell_g1 57 rfl rfl
theorem dk_L_isWell_225 : tvD cL_isWell 225 (.iconst 0) 1 226 := tvDl_get dlk_L_isWell_g1 58 rfl rfl
theorem dk_L_isWell_226 : tvD cL_isWell 226 (.istore 7) 2 228 := tvDl_get dlk_L_isWell_g1 59 rfl rfl
def dl_L_isWell_g2 : List (Nat × Instr × Nat) := [(228, .iload 7, 2), (230, .aload_n 0, 1), (231, .invokevirtual 176, 3), (234, .if_icmp .ge 37, 3), (237, .iload 6, 2), (239, .iload 7, 2), (241, .iload_n 3, 1), (242, .if_icmp .eq 19, 3), (245, .aload_n 0, 1), (246, .iload 5, 2), (248, .iload_n 3, 1), (249, .iload 7, 2), (251, .invokestatic 228, 3), (254, .ifCond .eq 7, 3), (257, .iconst 1, 1), (258, .goto 4, 3), (261, .iconst 0, 1), (262, .ior, 1), (263, .istore 6, 2), (265, .iinc 7 1, 3), (268, .goto (-40), 3), (271, .iload 4, 2), (273, .iload 6, 2), (275, .ifCond .eq 7, 3), (278, .iconst 1, 1), (279, .goto 4, 3), (282, .iconst 0, 1), (283, .iadd, 1), (284, .istore 4, 2), (286, .iinc 5 1, 3), (289, .goto (-76), 3), (292, .aload_n 0, 1), (293, .iload_n 3, 1), (294, .invokevirtual 193, 3), (297, .ifCond .lt 40, 3), (300, .aload_n 0, 1), (301, .iload_n 3, 1), (302, .invokevirtual 193, 3), (305, .iconst 2, 1), (306, .if_icmp .gt 31, 3), (309, .aload_n 0, 1), (310, .iload_n 3, 1), (311, .invokevirtual 196, 3), (314, .ifCond .lt 23, 3), (317, .aload_n 0, 1), (318, .iload_n 3, 1), (319, .invokevirtual 196, 3), (322, .bipush 30, 2), (324, .if_icmp .gt 13, 3), (327, .aload_n 0, 1), (328, .iload_n 3, 1), (329, .invokevirtual 232, 3), (332, .iload 4, 2), (334, .if_icmp .eq 5, 3), (339, .iinc 3 1, 3), (342, .goto (-143), 3), (345, .iconst 1, 1), (346, .istore_n 3, 1), (347, .iload_n 3, 1), (348, .aload_n 0, 1)]
theorem dlk_L_isWell_g2 : tvDl cL_isWell dl_L_isWell_g2 = true := by decide +kernel
theorem dk_L_isWell_228 : tvD cL_isWell 228 (.iload 7) 2 230 := tvDl_get dlk_L_isWell_g2 0 rfl rfl
theorem dk_L_isWell_230 : tvD cL_isWell 230 (.aload_n 0) 1 231 := tvDl_get dlk_L_isWell_g2 1 rfl rfl
theorem dk_L_isWell_231 : tvD cL_isWell 231 (.invokevirtual 176) 3 234 := tvDl_get dlk_L_isWell_g2 2 rfl rfl
theorem dk_L_isWell_234 : tvJ cL_isWell 234 (.if_icmp .ge) 271 237 := tvJl_get dlk_L_isWell_g2 3 rfl (by decide) rfl
theorem dk_L_isWell_237 : tvD cL_isWell 237 (.iload 6) 2 239 := tvDl_get dlk_L_isWell_g2 4 rfl rfl
theorem dk_L_isWell_239 : tvD cL_isWell 239 (.iload 7) 2 241 := tvDl_get dlk_L_isWell_g2 5 rfl rfl
theorem dk_L_isWell_241 : tvD cL_isWell 241 (.iload_n 3) 1 242 := tvDl_get dlk_L_isWell_g2 6 rfl rfl
theorem dk_L_isWell_242 : tvJ cL_isWell 242 (.if_icmp .eq) 261 245 := tvJl_get dlk_L_isWell_g2 7 rfl (by decide) rfl
theorem dk_L_isWell_245 : tvD cL_isWell 245 (.aload_n 0) 1 246 := tvDl_get dlk_L_isWell_g2 8 rfl rfl
theorem dk_L_isWell_246 : tvD cL_isWell 246 (.iload 5) 2 248 := tvDl_get dlk_L_isWell_g2 9 rfl rfl
theorem dk_L_isWell_248 : tvD cL_isWell 248 (.iload_n 3) 1 249 := tvDl_get dlk_L_isWell_g2 10 rfl rfl
theorem dk_L_isWell_249 : tvD cL_isWell 249 (.iload 7) 2 251 := tvDl_get dlk_L_isWell_g2 11 rfl rfl
theorem dk_L_isWell_251 : tvD cL_isWell 251 (.invokestatic 228) 3 254 := tvDl_get dlk_L_isWell_g2 12 rfl rfl
theorem dk_L_isWell_254 : tvJ cL_isWell 254 (.ifCond .eq) 261 257 := tvJl_get dlk_L_isWell_g2 13 rfl (by decide) rfl
theorem dk_L_isWell_257 : tvD cL_isWell 257 (.iconst 1) 1 258 := tvDl_get dlk_L_isWell_g2 14 rfl rfl
theorem dk_L_isWell_258 : tvJ cL_isWell 258 .goto 262 261 := tvJl_get dlk_L_isWell_g2 15 rfl (by decide) rfl
theorem dk_L_isWell_261 : tvD cL_isWell 261 (.iconst 0) 1 262 := tvDl_get dlk_L_isWell_g2 16 rfl rfl
theorem dk_L_isWell_262 : tvD cL_isWell 262 (.ior) 1 263 := tvDl_get dlk_L_isWell_g2 17 rfl rfl
theorem dk_L_isWell_263 : tvD cL_isWell 263 (.istore 6) 2 265 := tvDl_get dlk_L_isWell_g2 18 rfl rfl
theorem dk_L_isWell_265 : tvD cL_isWell 265 (.iinc 7 1) 3 268 := tvDl_get dlk_L_isWell_g2 19 rfl rfl
theorem dk_L_isWell_268 : tvJ cL_isWell 268 .goto 228 271 := tvJl_get dlk_L_isWell_g2 20 rfl (by decide) rfl
theorem dk_L_isWell_271 : tvD cL_isWell 271 (.iload 4) 2 273 := tvDl_get dlk_L_isWell_g2 21 rfl rfl
theorem dk_L_isWell_273 : tvD cL_isWell 273 (.iload 6) 2 275 := tvDl_get dlk_L_isWell_g2 22 rfl rfl
theorem dk_L_isWell_275 : tvJ cL_isWell 275 (.ifCond .eq) 282 278 := tvJl_get dlk_L_isWell_g2 23 rfl (by decide) rfl
theorem dk_L_isWell_278 : tvD cL_isWell 278 (.iconst 1) 1 279 := tvDl_get dlk_L_isWell_g2 24 rfl rfl
theorem dk_L_isWell_279 : tvJ cL_isWell 279 .goto 283 282 := tvJl_get dlk_L_isWell_g2 25 rfl (by decide) rfl
theorem dk_L_isWell_282 : tvD cL_isWell 282 (.iconst 0) 1 283 := tvDl_get dlk_L_isWell_g2 26 rfl rfl
theorem dk_L_isWell_283 : tvD cL_isWell 283 (.iadd) 1 284 := tvDl_get dlk_L_isWell_g2 27 rfl rfl
theorem dk_L_isWell_284 : tvD cL_isWell 284 (.istore 4) 2 286 := tvDl_get dlk_L_isWell_g2 28 rfl rfl
theorem dk_L_isWell_286 : tvD cL_isWell 286 (.iinc 5 1) 3 289 := tvDl_get dlk_L_isWell_g2 29 rfl rfl
theorem dk_L_isWell_289 : tvJ cL_isWell 289 .goto 213 292 := tvJl_get dlk_L_isWell_g2 30 rfl (by decide) rfl
theorem dk_L_isWell_292 : tvD cL_isWell 292 (.aload_n 0) 1 293 := tvDl_get dlk_L_isWell_g2 31 rfl rfl
theorem dk_L_isWell_293 : tvD cL_isWell 293 (.iload_n 3) 1 294 := tvDl_get dlk_L_isWell_g2 32 rfl rfl
theorem dk_L_isWell_294 : tvD cL_isWell 294 (.invokevirtual 193) 3 297 := tvDl_get dlk_L_isWell_g2 33 rfl rfl
theorem dk_L_isWell_297 : tvJ cL_isWell 297 (.ifCond .lt) 337 300 := tvJl_get dlk_L_isWell_g2 34 rfl (by decide) rfl
theorem dk_L_isWell_300 : tvD cL_isWell 300 (.aload_n 0) 1 301 := tvDl_get dlk_L_isWell_g2 35 rfl rfl
theorem dk_L_isWell_301 : tvD cL_isWell 301 (.iload_n 3) 1 302 := tvDl_get dlk_L_isWell_g2 36 rfl rfl
theorem dk_L_isWell_302 : tvD cL_isWell 302 (.invokevirtual 193) 3 305 := tvDl_get dlk_L_isWell_g2 37 rfl rfl
theorem dk_L_isWell_305 : tvD cL_isWell 305 (.iconst 2) 1 306 := tvDl_get dlk_L_isWell_g2 38 rfl rfl
theorem dk_L_isWell_306 : tvJ cL_isWell 306 (.if_icmp .gt) 337 309 := tvJl_get dlk_L_isWell_g2 39 rfl (by decide) rfl
theorem dk_L_isWell_309 : tvD cL_isWell 309 (.aload_n 0) 1 310 := tvDl_get dlk_L_isWell_g2 40 rfl rfl
theorem dk_L_isWell_310 : tvD cL_isWell 310 (.iload_n 3) 1 311 := tvDl_get dlk_L_isWell_g2 41 rfl rfl
theorem dk_L_isWell_311 : tvD cL_isWell 311 (.invokevirtual 196) 3 314 := tvDl_get dlk_L_isWell_g2 42 rfl rfl
theorem dk_L_isWell_314 : tvJ cL_isWell 314 (.ifCond .lt) 337 317 := tvJl_get dlk_L_isWell_g2 43 rfl (by decide) rfl
theorem dk_L_isWell_317 : tvD cL_isWell 317 (.aload_n 0) 1 318 := tvDl_get dlk_L_isWell_g2 44 rfl rfl
theorem dk_L_isWell_318 : tvD cL_isWell 318 (.iload_n 3) 1 319 := tvDl_get dlk_L_isWell_g2 45 rfl rfl
theorem dk_L_isWell_319 : tvD cL_isWell 319 (.invokevirtual 196) 3 322 := tvDl_get dlk_L_isWell_g2 46 rfl rfl
theorem dk_L_isWell_322 : tvD cL_isWell 322 (.bipush 30) 2 324 := tvDl_get dlk_L_isWell_g2 47 rfl rfl
theorem dk_L_isWell_324 : tvJ cL_isWell 324 (.if_icmp .gt) 337 327 := tvJl_get dlk_L_isWell_g2 48 rfl (by decide) rfl
theorem dk_L_isWell_327 : tvD cL_isWell 327 (.aload_n 0) 1 328 := tvDl_get dlk_L_isWell_g2 49 rfl rfl
theorem dk_L_isWell_328 : tvD cL_isWell 328 (.iload_n 3) 1 329 := tvDl_get dlk_L_isWell_g2 50 rfl rfl
theorem dk_L_isWell_329 : tvD cL_isWell 329 (.invokevirtual 232) 3 332 := tvDl_get dlk_L_isWell_g2 51 rfl rfl
theorem dk_L_isWell_332 : tvD cL_isWell 332 (.iload 4) 2 334 := tvDl_get dlk_L_isWell_g2 52 rfl rfl
theorem dk_L_isWell_334 : tvJ cL_isWell 334 (.if_icmp .eq) 339 337 := tvJl_get dlk_L_isWell_g2 53 rfl (by decide) rfl
theorem dk_L_isWell_339 : tvD cL_isWell 339 (.iinc 3 1) 3 342 := tvDl_get dlk_L_isWell_g2 54 rfl rfl
theorem dk_L_isWell_342 : tvJ cL_isWell 342 .goto 199 345 := tvJl_get dlk_L_isWell_g2 55 rfl (by decide) rfl
theorem dk_L_isWell_345 : tvD cL_isWell 345 (.iconst 1) 1 346 := tvDl_get dlk_L_isWell_g2 56 rfl rfl
theorem dk_L_isWell_346 : tvD cL_isWell 346 (.istore_n 3) 1 347 := tvDl_get dlk_L_isWell_g2 57 rfl rfl
theorem dk_L_isWell_347 : tvD cL_isWell 347 (.iload_n 3) 1 348 := tvDl_get dlk_L_isWell_g2 58 rfl rfl
theorem dk_L_isWell_348 : tvD cL_isWell 348 (.aload_n 0) 1 349 := tvDl_get dlk_L_isWell_g2 59 rfl rfl
def dl_L_isWell_g3 : List (Nat × Instr × Nat) := [(349, .invokevirtual 179, 3), (352, .if_icmp .ge 26, 3), (355, .aload_n 0, 1), (356, .iload_n 3, 1), (357, .invokevirtual 215, 3), (360, .aload_n 0, 1), (361, .iload_n 3, 1), (362, .iconst 1, 1), (363, .isub, 1), (364, .invokevirtual 215, 3), (367, .if_icmp .ge 5, 3), (372, .iinc 3 1, 3), (375, .goto (-28), 3), (378, .lload_n 1, 1), (379, .aload_n 0, 1), (380, .invokevirtual 235, 3), (383, .lcmp, 1), (384, .ifCond .ne 65, 3), (387, .lload_n 1, 1), (388, .aload_n 0, 1), (389, .invokevirtual 182, 3), (392, .lcmp, 1), (393, .ifCond .ne 56, 3), (396, .aload_n 0, 1), (397, .invokevirtual 173, 3), (400, .ifCond .lt 49, 3), (403, .aload_n 0, 1), (404, .invokevirtual 173, 3), (407, .bipush 100, 2), (409, .if_icmp .ge 40, 3), (412, .aload_n 0, 1), (413, .invokevirtual 179, 3), (416, .bipush 12, 2), (418, .if_icmp .gt 31, 3), (421, .aload_n 0, 1), (422, .sipush 333, 3), (425, .invokevirtual 186, 3), (428, .aload_n 0, 1), (429, .sipush 333, 3), (432, .invokevirtual 238, 3), (435, .if_icmp .ne 14, 3), (438, .aload_n 0, 1), (439, .invokevirtual 241, 3), (442, .ifCond .eq 7, 3), (445, .iconst 1, 1), (446, .goto 4, 3), (450, .ireturn, 1)]
theorem dlk_L_isWell_g3 : tvDl cL_isWell dl_L_isWell_g3 = true := by decide +kernel
theorem dk_L_isWell_349 : tvD cL_isWell 349 (.invokevirtual 179) 3 352 := tvDl_get dlk_L_isWell_g3 0 rfl rfl
theorem dk_L_isWell_352 : tvJ cL_isWell 352 (.if_icmp .ge) 378 355 := tvJl_get dlk_L_isWell_g3 1 rfl (by decide) rfl
theorem dk_L_isWell_355 : tvD cL_isWell 355 (.aload_n 0) 1 356 := tvDl_get dlk_L_isWell_g3 2 rfl rfl
theorem dk_L_isWell_356 : tvD cL_isWell 356 (.iload_n 3) 1 357 := tvDl_get dlk_L_isWell_g3 3 rfl rfl
theorem dk_L_isWell_357 : tvD cL_isWell 357 (.invokevirtual 215) 3 360 := tvDl_get dlk_L_isWell_g3 4 rfl rfl
theorem dk_L_isWell_360 : tvD cL_isWell 360 (.aload_n 0) 1 361 := tvDl_get dlk_L_isWell_g3 5 rfl rfl
theorem dk_L_isWell_361 : tvD cL_isWell 361 (.iload_n 3) 1 362 := tvDl_get dlk_L_isWell_g3 6 rfl rfl
theorem dk_L_isWell_362 : tvD cL_isWell 362 (.iconst 1) 1 363 := tvDl_get dlk_L_isWell_g3 7 rfl rfl
theorem dk_L_isWell_363 : tvD cL_isWell 363 (.isub) 1 364 := tvDl_get dlk_L_isWell_g3 8 rfl rfl
theorem dk_L_isWell_364 : tvD cL_isWell 364 (.invokevirtual 215) 3 367 := tvDl_get dlk_L_isWell_g3 9 rfl rfl
theorem dk_L_isWell_367 : tvJ cL_isWell 367 (.if_icmp .ge) 372 370 := tvJl_get dlk_L_isWell_g3 10 rfl (by decide) rfl
theorem dk_L_isWell_372 : tvD cL_isWell 372 (.iinc 3 1) 3 375 := tvDl_get dlk_L_isWell_g3 11 rfl rfl
theorem dk_L_isWell_375 : tvJ cL_isWell 375 .goto 347 378 := tvJl_get dlk_L_isWell_g3 12 rfl (by decide) rfl
theorem dk_L_isWell_378 : tvD cL_isWell 378 (.lload_n 1) 1 379 := tvDl_get dlk_L_isWell_g3 13 rfl rfl
theorem dk_L_isWell_379 : tvD cL_isWell 379 (.aload_n 0) 1 380 := tvDl_get dlk_L_isWell_g3 14 rfl rfl
theorem dk_L_isWell_380 : tvD cL_isWell 380 (.invokevirtual 235) 3 383 := tvDl_get dlk_L_isWell_g3 15 rfl rfl
theorem dk_L_isWell_383 : tvD cL_isWell 383 (.lcmp) 1 384 := tvDl_get dlk_L_isWell_g3 16 rfl rfl
theorem dk_L_isWell_384 : tvJ cL_isWell 384 (.ifCond .ne) 449 387 := tvJl_get dlk_L_isWell_g3 17 rfl (by decide) rfl
theorem dk_L_isWell_387 : tvD cL_isWell 387 (.lload_n 1) 1 388 := tvDl_get dlk_L_isWell_g3 18 rfl rfl
theorem dk_L_isWell_388 : tvD cL_isWell 388 (.aload_n 0) 1 389 := tvDl_get dlk_L_isWell_g3 19 rfl rfl
theorem dk_L_isWell_389 : tvD cL_isWell 389 (.invokevirtual 182) 3 392 := tvDl_get dlk_L_isWell_g3 20 rfl rfl
theorem dk_L_isWell_392 : tvD cL_isWell 392 (.lcmp) 1 393 := tvDl_get dlk_L_isWell_g3 21 rfl rfl
theorem dk_L_isWell_393 : tvJ cL_isWell 393 (.ifCond .ne) 449 396 := tvJl_get dlk_L_isWell_g3 22 rfl (by decide) rfl
theorem dk_L_isWell_396 : tvD cL_isWell 396 (.aload_n 0) 1 397 := tvDl_get dlk_L_isWell_g3 23 rfl rfl
theorem dk_L_isWell_397 : tvD cL_isWell 397 (.invokevirtual 173) 3 400 := tvDl_get dlk_L_isWell_g3 24 rfl rfl
theorem dk_L_isWell_400 : tvJ cL_isWell 400 (.ifCond .lt) 449 403 := tvJl_get dlk_L_isWell_g3 25 rfl (by decide) rfl
theorem dk_L_isWell_403 : tvD cL_isWell 403 (.aload_n 0) 1 404 := tvDl_get dlk_L_isWell_g3 26 rfl rfl
theorem dk_L_isWell_404 : tvD cL_isWell 404 (.invokevirtual 173) 3 407 := tvDl_get dlk_L_isWell_g3 27 rfl rfl
theorem dk_L_isWell_407 : tvD cL_isWell 407 (.bipush 100) 2 409 := tvDl_get dlk_L_isWell_g3 28 rfl rfl
theorem dk_L_isWell_409 : tvJ cL_isWell 409 (.if_icmp .ge) 449 412 := tvJl_get dlk_L_isWell_g3 29 rfl (by decide) rfl
theorem dk_L_isWell_412 : tvD cL_isWell 412 (.aload_n 0) 1 413 := tvDl_get dlk_L_isWell_g3 30 rfl rfl
theorem dk_L_isWell_413 : tvD cL_isWell 413 (.invokevirtual 179) 3 416 := tvDl_get dlk_L_isWell_g3 31 rfl rfl
theorem dk_L_isWell_416 : tvD cL_isWell 416 (.bipush 12) 2 418 := tvDl_get dlk_L_isWell_g3 32 rfl rfl
theorem dk_L_isWell_418 : tvJ cL_isWell 418 (.if_icmp .gt) 449 421 := tvJl_get dlk_L_isWell_g3 33 rfl (by decide) rfl
theorem dk_L_isWell_421 : tvD cL_isWell 421 (.aload_n 0) 1 422 := tvDl_get dlk_L_isWell_g3 34 rfl rfl
theorem dk_L_isWell_422 : tvD cL_isWell 422 (.sipush 333) 3 425 := tvDl_get dlk_L_isWell_g3 35 rfl rfl
theorem dk_L_isWell_425 : tvD cL_isWell 425 (.invokevirtual 186) 3 428 := tvDl_get dlk_L_isWell_g3 36 rfl rfl
theorem dk_L_isWell_428 : tvD cL_isWell 428 (.aload_n 0) 1 429 := tvDl_get dlk_L_isWell_g3 37 rfl rfl
theorem dk_L_isWell_429 : tvD cL_isWell 429 (.sipush 333) 3 432 := tvDl_get dlk_L_isWell_g3 38 rfl rfl
theorem dk_L_isWell_432 : tvD cL_isWell 432 (.invokevirtual 238) 3 435 := tvDl_get dlk_L_isWell_g3 39 rfl rfl
theorem dk_L_isWell_435 : tvJ cL_isWell 435 (.if_icmp .ne) 449 438 := tvJl_get dlk_L_isWell_g3 40 rfl (by decide) rfl
theorem dk_L_isWell_438 : tvD cL_isWell 438 (.aload_n 0) 1 439 := tvDl_get dlk_L_isWell_g3 41 rfl rfl
theorem dk_L_isWell_439 : tvD cL_isWell 439 (.invokevirtual 241) 3 442 := tvDl_get dlk_L_isWell_g3 42 rfl rfl
theorem dk_L_isWell_442 : tvJ cL_isWell 442 (.ifCond .eq) 449 445 := tvJl_get dlk_L_isWell_g3 43 rfl (by decide) rfl
theorem dk_L_isWell_445 : tvD cL_isWell 445 (.iconst 1) 1 446 := tvDl_get dlk_L_isWell_g3 44 rfl rfl
theorem dk_L_isWell_446 : tvJ cL_isWell 446 .goto 450 449 := tvJl_get dlk_L_isWell_g3 45 rfl (by decide) rfl
theorem dk_L_isWell_450 : tvD cL_isWell 450 (.ireturn) 1 451 := tvDl_get dlk_L_isWell_g3 46 rfl rfl
