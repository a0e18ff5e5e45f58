/-! ===== does, acts ===== -/
def zE (M : tvM) : Prop := M.1 243 1 = nI 0
/-- what an action of the law comes to -/
def aP (B : Nat) (s : Nat → Nat) : tvO → va_W → tvM → Prop := fun o X1 M1 => ∃ z : Int32, o = .inl (some (.int z)) ∧ X1 = [] ∧ zE M1 ∧
  ((∃ (v : Nat) (s' : Nat → Nat) (x' n' : Nat) (S' : Nat → Nat → Nat), z = nI v ∧ v < 65536 ∧ s 9 ≤ s' 9 ∧ s 10 ≤ s' 10 ∧ pG B M1 s' x' n' S') ∨
   ((z = -900001 ∨ z = -900002 ∨ z = -900003) ∧ ∃ (x' n' : Nat) (S' : Nat → Nat → Nat), pG B M1 s x' n' S') ∨
   (z = -900004 ∧ ∃ (s' : Nat → Nat) (x' n' : Nat) (S' : Nat → Nat → Nat), s 3 ≤ s' 3 ∧ s 9 ≤ s' 9 ∧ s 10 ≤ s' 10 ∧ pG B M1 s' x' n' S' ∧ n' ≠ 0 ∧ S' (n' - 1) = s))
theorem aP_of {B B0 B1 : Nat} {M M1 : tvM} {s : Nat → Nat} {x n : Nat} {S : Nat → Nat → Nat} {lo : Nat} {e : Prop} {y : Int32} (hG : pG B0 M s x n S) (h0 : zE M) (hB0 : B0 ≤ B) (hB1 : B1 ≤ B) (hB : B ≤ 10000000) (h : kOut B1 M s lo e y M1) : aP B s (.inl (some (.int y))) [] M1 := by
  rcases h with ⟨v, s', x', n', S', -, h2, h3, h4, h5, h6, -, h8⟩ | ⟨h1, h2⟩ | ⟨-, h1, s', x', n', S', h2, h3, h4, h5, h6, h7⟩
  · exact ⟨y, rfl, rfl, (congrFun (h8.1 243 (by omega)) 1).trans h0, Or.inl ⟨v, s', x', n', S', h3, h2, h4, h5, h6.up hB1 hB⟩⟩
  · subst h2
    exact ⟨y, rfl, rfl, h0, Or.inr (Or.inl ⟨h1, x, n, S, hG.up hB0 hB⟩)⟩
  · exact ⟨y, rfl, rfl, (congrFun (h7.1 243 (by omega)) 1).trans h0, Or.inr (Or.inr ⟨h1, s', x', n', S', h2, h3, h4, h5.up hB1 hB, h6⟩)⟩
theorem wOut_ok {L : List (String × Int32)} {r : Option String × Int32 × tvM} {x : Int32} {M1 : tvM} (h : r = (none, x, M1)) : wOut L r x M1 := Or.inl h
theorem wOut_x {L : List (String × Int32)} {r : Option String × Int32 × tvM} {M1 : tvM} (e : String) (x : Int32) (hp : (e, x) ∈ L) (h : r = (some e, 0, M1)) : wOut L r x M1 := Or.inr ⟨(e, x), hp, h, rfl⟩
abbrev wRun : List (String × Int32) := [("java/lang/IllegalArgumentException", -900001), ("java/lang/UnsupportedOperationException", -900002)]
def dP (B : Nat) (s : Nat → Nat) : tvO → va_W → tvM → Prop := fun o X1 M1 => ∃ z : Int32, o = .inl (some (.int z)) ∧ zE M1 ∧
  ((∃ (v : Nat) (s' : Nat → Nat) (x' n' : Nat) (S' : Nat → Nat → Nat), z = nI v ∧ v < 65536 ∧ s 9 ≤ s' 9 ∧ s 10 ≤ s' 10 ∧ pG B M1 s' x' n' S') ∨
   ((z = -900001 ∨ z = -900002) ∧ ∃ (x' n' : Nat) (S' : Nat → Nat → Nat), pG B M1 s x' n' S'))
theorem dP_no {B : Nat} {s : Nat → Nat} : ∀ (e : String) (X1 : va_W) (M1 : tvM), ¬ dP B s (.inr e) X1 M1 := fun e X1 M1 ⟨z, h, _⟩ => by cases h
theorem dP_a {B : Nat} {s : Nat → Nat} {z : Int32} {X1 : va_W} {M1 : tvM} (h : dP B s (.inl (some (.int z))) X1 M1) : aP B s (.inl (some (.int z))) [] M1 := by
  obtain ⟨z', e, h0, h⟩ := h
  cases e
  refine ⟨z, rfl, rfl, h0, ?_⟩
  rcases h with h | ⟨h1 | h1, h2⟩
  · exact Or.inl h
  · exact Or.inr (Or.inl ⟨Or.inl h1, h2⟩)
  · exact Or.inr (Or.inl ⟨Or.inr (Or.inl h1), h2⟩)
/-- i letters of f typed -/
def zT (M M1 : tvM) (i : Nat) (f : Nat → Int32) : Prop := M1.1 243 1 = nI i ∧ (∀ k, k < i → M1.1 244 k = f k) ∧ (∀ a, a ≠ 243 → a ≠ 244 → M1.1 a = M.1 a) ∧ M1.2 = M.2
theorem zT_0 {M : tvM} {f : Nat → Int32} (h : zE M) : zT M M 0 f := ⟨h, fun k hk => absurd hk (Nat.not_lt_zero k), fun _ _ _ => rfl, rfl⟩
theorem zT_s {M M1 : tvM} {i c : Nat} {f : Nat → Int32} (h : zT M M1 i f) (hi : i < 60) (hc : f i = nI c) : ∃ M2, f_X8_type M1 (nI c) = (none, nI (i + 1), M2) ∧ zT M M2 (i + 1) f := by
  obtain ⟨h1, h2, h3, h4⟩ := h
  obtain ⟨M2, t1, t2, t3, t4, t5, t6⟩ := o_type (c := c) h1 hi
  refine ⟨M2, t1, t2, fun k hk => ?_, fun a q1 q2 => (t5 a q1 q2).trans (h3 a q1 q2), t6.trans h4⟩
  by_cases q : k = i
  · rw [q, t3, hc]
  · rw [t4 k q]
    exact h2 k (by omega)
theorem zT_G {B : Nat} {M M1 : tvM} {i : Nat} {f : Nat → Int32} {s : Nat → Nat} {x n : Nat} {S : Nat → Nat → Nat} (h : zT M M1 i f) (hG : pG B M s x n S) : pG B M1 s x n S :=
  pG_c hG (fun a q => h.2.2.1 a (by omega) (by omega)) (fun a _ => by rw [h.2.2.2])
theorem zT_D {M M1 : tvM} {i : Nat} {f : Nat → Int32} (h : zT M M1 i f) (hi : i ≤ 60) (hg : byG i f) : pNoD M1 :=
  pNoD_of (T := fun k => (f k).toNatClampNeg) h.1 hi fun k hk => by
    obtain ⟨c, h1, h2, h3⟩ := hg k hk
    rw [h.2.1 k hk, h3, pn_c (by omega)]
    exact ⟨h1, h2, rfl⟩
/-- a holder's own code is no wrong code -/
theorem z_right {B : Nat} {M : tvM} {s : Nat → Nat} (hR : pOk B (pV M 1) (pL M 1) s) (hX : pXi (0, 0) s) (a : Int32) {h : Nat} (h4 : h < 4) : f_X6_refusalOfTurn M 1 a (nI h) (nI (7 * h)) ≠ 4 := by
  have s9 := hR.1.2.1.2.2.2.2.2.2.2.1
  have c20 := hR.2.1.2.2.2.2.2.2.2.1
  have e0 : puC M 1 (pV M 1) (pL M 1) = M := puC_self M 1
  unfold f_X6_refusalOfTurn
  by_cases q : h < s 9
  · have e1 : f_X2_codeOf M 1 (nI h) = nI (7 * h) := by
      have e2 := pc_code M 1 (pL M 1) c20 s9 q
      rw [e0] at e2
      rw [e2, (hR.2.2.1 h q).1, hX.1 h h4 q]
    rw [if_pos e1]
    repeat' split
    all_goals decide
  · have e1 : f_X2_has M 1 (nI h) = 0 := by
      have e2 := pc_hh0 M 1 (pL M 1) c20 s9 (x := nI h) (fun ⟨i, hi, e⟩ => by have := (pn_eq (by omega) (by omega)).1 e; omega)
      rw [e0] at e2
      exact e2
    rw [if_pos e1]
    repeat' split
    all_goals decide
/-- a short wait is not refused -/
theorem z_wait {B : Nat} {M : tvM} {s : Nat → Nat} {x n : Nat} {S : Nat → Nat → Nat} (hB : B + 240 ≤ 10000000) (hG : pG B M s x n S) {m : Nat} (h1 : 1 ≤ m) (h2 : m ≤ 240) : pAok B M s x n S 0 (f_X8_pass M (nI m)) := by
  rcases o_pass hB hG (nI m) with h | ⟨e, he, h⟩
  · exact h
  · exfalso
    have e1 : f_X6_refusalOfWait M 1 (nI m) = 0 := by
      unfold f_X6_refusalOfWait
      rw [if_neg (fun z => by have := (pn_lt (a := m) (b := 1) (by omega) (by omega)).1 z; omega), if_pos (show nI m ≤ 240 from (pn_le (a := m) (b := 240) (by omega) (by omega)).2 h2)]
    unfold f_X8_pass at h
    rw [e1, pRef_0, if_pos rfl] at h
    cases h

theorem yk_L_does : tvYk yL_does cL_does 4 (some .int) 2 := ⟨tvgc (tvc_5 (List.mem_of_getElem? (i := 204) (by decide +kernel))) rfl, tvgc (tvc_1 (List.mem_of_getElem? (i := 0) (by decide +kernel))) rfl, by decide +kernel, by decide +kernel, plainFor_of_name (by decide +kernel)⟩
theorem ml_RL_88 : Cond.methodLink RL 88 yJ0_length_8abf5 ∈ tvGW := tvgc (tvc_5 (List.mem_of_getElem? (i := 205) (by decide +kernel))) rfl
theorem ml_RL_102 : Cond.methodLink RL 102 yL_run ∈ tvGW := tvgc (tvc_6 (List.mem_of_getElem? (i := 4) (by decide +kernel))) rfl
theorem yi_L_run : Cond.static yL_run ∈ tvGW := tvgc (tvc_6 (List.mem_of_getElem? (i := 5) (by decide +kernel))) rfl
theorem ml_RL_93 : Cond.methodLink RL 93 yJ0_charAt_5068e ∈ tvGW := tvgc (tvc_5 (List.mem_of_getElem? (i := 206) (by decide +kernel))) rfl
theorem ml_RL_97 : Cond.methodLink RL 97 yX8_type ∈ tvGW := tvgc (tvc_5 (List.mem_of_getElem? (i := 230) (by decide +kernel))) rfl
def dl_L_does_g0 : List (Nat × Instr × Nat) := [(0, .iconst 0, 1), (1, .istore_n 2, 1), (2, .iconst 0, 1), (3, .istore_n 3, 1), (4, .iload_n 3, 1), (5, .aload_n 1, 1), (6, .invokevirtual 88, 3), (9, .if_icmp .ge 21, 3), (12, .iload_n 2, 1), (13, .aload_n 0, 1), (14, .aload_n 1, 1), (15, .iload_n 3, 1), (16, .invokevirtual 93, 3), (19, .invokevirtual 97, 3), (22, .iadd, 1), (23, .istore_n 2, 1), (24, .iinc 3 1, 3), (27, .goto (-23), 3), (30, .iload_n 2, 1), (31, .ifCond .ge 8, 3), (39, .aload_n 0, 1), (40, .invokestatic 102, 3), (43, .ireturn, 1)]
theorem dlk_L_does_g0 : tvDl cL_does dl_L_does_g0 = true := by decide +kernel
theorem dk_L_does_0 : tvD cL_does 0 (.iconst 0) 1 1 := tvDl_get dlk_L_does_g0 0 rfl rfl
theorem dk_L_does_1 : tvD cL_does 1 (.istore_n 2) 1 2 := tvDl_get dlk_L_does_g0 1 rfl rfl
theorem dk_L_does_2 : tvD cL_does 2 (.iconst 0) 1 3 := tvDl_get dlk_L_does_g0 2 rfl rfl
theorem dk_L_does_3 : tvD cL_does 3 (.istore_n 3) 1 4 := tvDl_get dlk_L_does_g0 3 rfl rfl
theorem dk_L_does_4 : tvD cL_does 4 (.iload_n 3) 1 5 := tvDl_get dlk_L_does_g0 4 rfl rfl
theorem dk_L_does_5 : tvD cL_does 5 (.aload_n 1) 1 6 := tvDl_get dlk_L_does_g0 5 rfl rfl
theorem dk_L_does_6 : tvD cL_does 6 (.invokevirtual 88) 3 9 := tvDl_get dlk_L_does_g0 6 rfl rfl
theorem dk_L_does_9 : tvJ cL_does 9 (.if_icmp .ge) 30 12 := tvJl_get dlk_L_does_g0 7 rfl (by decide) rfl
theorem dk_L_does_12 : tvD cL_does 12 (.iload_n 2) 1 13 := tvDl_get dlk_L_does_g0 8 rfl rfl
theorem dk_L_does_13 : tvD cL_does 13 (.aload_n 0) 1 14 := tvDl_get dlk_L_does_g0 9 rfl rfl
theorem dk_L_does_14 : tvD cL_does 14 (.aload_n 1) 1 15 := tvDl_get dlk_L_does_g0 10 rfl rfl
theorem dk_L_does_15 : tvD cL_does 15 (.iload_n 3) 1 16 := tvDl_get dlk_L_does_g0 11 rfl rfl
theorem dk_L_does_16 : tvD cL_does 16 (.invokevirtual 93) 3 19 := tvDl_get dlk_L_does_g0 12 rfl rfl
theorem dk_L_does_19 : tvD cL_does 19 (.invokevirtual 97) 3 22 := tvDl_get dlk_L_does_g0 13 rfl rfl
theorem dk_L_does_22 : tvD cL_does 22 (.iadd) 1 23 := tvDl_get dlk_L_does_g0 14 rfl rfl
theorem dk_L_does_23 : tvD cL_does 23 (.istore_n 2) 1 24 := tvDl_get dlk_L_does_g0 15 rfl rfl
theorem dk_L_does_24 : tvD cL_does 24 (.iinc 3 1) 3 27 := tvDl_get dlk_L_does_g0 16 rfl rfl
theorem dk_L_does_27 : tvJ cL_does 27 .goto 4 30 := tvJl_get dlk_L_does_g0 17 rfl (by decide) rfl
theorem dk_L_does_30 : tvD cL_does 30 (.iload_n 2) 1 31 := tvDl_get dlk_L_does_g0 18 rfl rfl
theorem dk_L_does_31 : tvJ cL_does 31 (.ifCond .ge) 39 34 := tvJl_get dlk_L_does_g0 19 rfl (by decide) rfl
theorem dk_L_does_39 : tvD cL_does 39 (.aload_n 0) 1 40 := tvDl_get dlk_L_does_g0 20 rfl rfl
theorem dk_L_does_40 : tvD cL_does 40 (.invokestatic 102) 3 43 := tvDl_get dlk_L_does_g0 21 rfl rfl
theorem dk_L_does_43 : tvD cL_does 43 (.ireturn) 1 44 := tvDl_get dlk_L_does_g0 22 rfl rfl
