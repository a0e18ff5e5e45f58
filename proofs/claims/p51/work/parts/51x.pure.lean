/-! ===== what the actions come to ===== -/
theorem lg_self (x : Int64) : lg_cmp x x = 0 := by
  unfold lg_cmp
  rw [if_neg (Int64.lt_irrefl), if_pos rfl]
theorem tpl_s (M : tvM) (a k : Nat) (v : Int64) : (tpl M a k v).2.1 a k = v := by
  show tvU M.2.1 a k v a k = v
  rw [tvU_row, if_pos rfl]
theorem pRef_0 (M : tvM) : f_X8_refuse M 0 = (none, M) := by unfold f_X8_refuse; simp
theorem pHc0 (M : tvM) (x : Int32) : f_X8_hearCode M 0 x = (none, f_X1_keep M) := by unfold f_X8_hearCode; simp
theorem pHc4 (M : tvM) (x : Int32) : f_X8_hearCode M 4 x = (some "java/lang/UnsupportedOperationException", f_X6_hearWrongCode (f_X1_keep M) 1 x) := by unfold f_X8_hearCode f_X8_refuse; simp
theorem pRef_1 (M : tvM) : f_X8_refuse M 1 = (some "java/lang/IndexOutOfBoundsException", M) := by unfold f_X8_refuse; simp
theorem pRef_2 (M : tvM) : f_X8_refuse M 2 = (some "java/lang/IllegalArgumentException", M) := by unfold f_X8_refuse; simp
theorem pRef_3 (M : tvM) : f_X8_refuse M 3 = (some "java/lang/IllegalStateException", M) := by unfold f_X8_refuse; simp
theorem pRef_5 (M : tvM) : f_X8_refuse M 5 = (some "java/util/NoSuchElementException", M) := by unfold f_X8_refuse; simp
theorem pHc1 (M : tvM) (x : Int32) : f_X8_hearCode M 1 x = (some "java/lang/IndexOutOfBoundsException", M) := by unfold f_X8_hearCode f_X8_refuse; simp
theorem pHc2 (M : tvM) (x : Int32) : f_X8_hearCode M 2 x = (some "java/lang/IllegalArgumentException", M) := by unfold f_X8_hearCode f_X8_refuse; simp
theorem pHc3 (M : tvM) (x : Int32) : f_X8_hearCode M 3 x = (some "java/lang/IllegalStateException", M) := by unfold f_X8_hearCode f_X8_refuse; simp
theorem pNo4_addHolder (M : tvM) (a1 : Int32) : f_X6_refusalOfHolder M 1 a1 ≠ 4 := by
  unfold f_X6_refusalOfHolder
  repeat' split
  all_goals decide
theorem pNo4_addBox (M : tvM) (a1 a2 a3 : Int32) : f_X6_refusalOfBox M 1 a1 a2 a3 ≠ 4 := by
  unfold f_X6_refusalOfBox
  repeat' split
  all_goals decide
theorem pNo4_setTide (M : tvM) (a1 a2 : Int32) : f_X6_refusalOfTide M 1 a1 a2 ≠ 4 := by
  unfold f_X6_refusalOfTide
  repeat' split
  all_goals decide
theorem pNo4_deposit (M : tvM) (a1 a2 : Int32) : f_X6_refusalOfPut M 1 a1 a2 ≠ 4 := by
  unfold f_X6_refusalOfPut
  repeat' split
  all_goals decide
theorem pNo4_withdraw (M : tvM) (a1 : Int32) : f_X6_refusalOfTake M 1 a1 ≠ 4 := by
  unfold f_X6_refusalOfTake
  repeat' split
  all_goals decide
theorem pNo4_close (M : tvM) (a1 : Int32) : f_X6_refusalOfClose M 1 a1 ≠ 4 := by
  unfold f_X6_refusalOfClose
  repeat' split
  all_goals decide
theorem pNo4_pass (M : tvM) (a1 : Int32) : f_X6_refusalOfWait M 1 a1 ≠ 4 := by
  unfold f_X6_refusalOfWait
  repeat' split
  all_goals decide
/-- done, with a change kept; refused; a wrong code heard -/
def pAok (B : Nat) (M : tvM) (s : Nat → Nat) (x n : Nat) (S : Nat → Nat → Nat) (lo : Nat) (r : Option String × Int32 × tvM) : Prop := ∃ (v : Nat) (M1 : tvM) (s' : Nat → Nat), (lo ≤ v ∧ s 9 ≤ s' 9 ∧ s 10 ≤ s' 10) ∧ v < 65536 ∧ r = (none, nI v, M1) ∧ pG (B + 240) M1 s' ((x + 1) % 9) (min (n + 1) 8) (pSn s n S) ∧ pFr M M1
def pRefd (M : tvM) (ex : List String) (r : Option String × Int32 × tvM) : Prop := ∃ e ∈ ex, r = (some e, 0, M)
def pWrong (B : Nat) (M : tvM) (s : Nat → Nat) (x n : Nat) (S : Nat → Nat → Nat) (r : Option String × Int32 × tvM) : Prop := ∃ (M1 : tvM) (s' : Nat → Nat), r = (some "java/lang/UnsupportedOperationException", 0, M1) ∧ (s 3 ≤ s' 3 ∧ s 9 ≤ s' 9 ∧ s 10 ≤ s' 10) ∧ pG (B + 240) M1 s' ((x + 1) % 9) (min (n + 1) 8) (pSn s n S) ∧ pFr M M1
section
variable {B : Nat} {M : tvM} {s : Nat → Nat} {x n : Nat} {S : Nat → Nat → Nat}
theorem o_addHolder (hB : B + 240 ≤ 10000000) (hG : pG B M s x n S) (a1 : Int32) (hg : s 9 < 4 → a1 = nI (7 * s 9)) : pAok B M s x n S 0 (f_X8_addHolder M a1) ∨ pRefd M ["java/lang/IllegalArgumentException", "java/lang/IllegalStateException"] (f_X8_addHolder M a1) := by
  rcases pAct hB hG (pSim_holds 1 hG.1.1 hB a1) hg with ⟨a, v, M1, s', hl, hv, b, hG1, hF⟩ | ⟨p, hp, a⟩ | ⟨a, M1, s', b, hl, hG1, hF⟩
  · refine Or.inl ⟨v, M1, s', hl, hv, ?_, hG1, hF⟩
    unfold f_X8_addHolder
    rw [show f_X6_refusalOfHolder M 1 a1 = 0 from a, pRef_0]
    dsimp only
    rw [if_pos rfl, show f_X2_add (f_X1_keep M) 1 a1 = (nI v, M1) from b]
  · simp only [List.mem_cons, List.not_mem_nil, or_false] at hp
    refine Or.inr ?_
    rcases hp with rfl | rfl
    · refine ⟨"java/lang/IllegalArgumentException", by simp, ?_⟩
      unfold f_X8_addHolder
      rw [show f_X6_refusalOfHolder M 1 a1 = 2 from a, pRef_2]
      simp
    · refine ⟨"java/lang/IllegalStateException", by simp, ?_⟩
      unfold f_X8_addHolder
      rw [show f_X6_refusalOfHolder M 1 a1 = 3 from a, pRef_3]
      simp
  · exact absurd a (pNo4_addHolder M a1)
theorem o_addBox (hB : B + 240 ≤ 10000000) (hG : pG B M s x n S) (a1 a2 a3 : Int32)  : pAok B M s x n S 0 (f_X8_addBox M a1 a2 a3) ∨ pRefd M ["java/lang/IndexOutOfBoundsException", "java/lang/IllegalArgumentException", "java/lang/IllegalStateException"] (f_X8_addBox M a1 a2 a3) := by
  rcases pAct hB hG (pSim_boxed 1 hG.1.1 hB a1 a2 a3) trivial with ⟨a, v, M1, s', hl, hv, b, hG1, hF⟩ | ⟨p, hp, a⟩ | ⟨a, M1, s', b, hl, hG1, hF⟩
  · refine Or.inl ⟨v, M1, s', hl, hv, ?_, hG1, hF⟩
    unfold f_X8_addBox
    rw [show f_X6_refusalOfBox M 1 a1 a2 a3 = 0 from a, pRef_0]
    dsimp only
    rw [if_pos rfl, show f_X0_add (f_X1_keep M) 1 a1 a2 a3 = (nI v, M1) from b]
  · simp only [List.mem_cons, List.not_mem_nil, or_false] at hp
    refine Or.inr ?_
    rcases hp with rfl | rfl | rfl
    · refine ⟨"java/lang/IndexOutOfBoundsException", by simp, ?_⟩
      unfold f_X8_addBox
      rw [show f_X6_refusalOfBox M 1 a1 a2 a3 = 1 from a, pRef_1]
      simp
    · refine ⟨"java/lang/IllegalArgumentException", by simp, ?_⟩
      unfold f_X8_addBox
      rw [show f_X6_refusalOfBox M 1 a1 a2 a3 = 2 from a, pRef_2]
      simp
    · refine ⟨"java/lang/IllegalStateException", by simp, ?_⟩
      unfold f_X8_addBox
      rw [show f_X6_refusalOfBox M 1 a1 a2 a3 = 3 from a, pRef_3]
      simp
  · exact absurd a (pNo4_addBox M a1 a2 a3)
theorem o_setTide (hB : B + 240 ≤ 10000000) (hG : pG B M s x n S) (a1 a2 : Int32)  : pAok B M s x n S 0 (f_X8_setTide M a1 a2) ∨ pRefd M ["java/lang/IllegalArgumentException"] (f_X8_setTide M a1 a2) := by
  rcases pAct hB hG (pSim_tides 1 hG.1.1 hB a1 a2) trivial with ⟨a, v, M1, s', hl, hv, b, hG1, hF⟩ | ⟨p, hp, a⟩ | ⟨a, M1, s', b, hl, hG1, hF⟩
  · refine Or.inl ⟨v, M1, s', hl, hv, ?_, hG1, hF⟩
    unfold f_X8_setTide
    rw [show f_X6_refusalOfTide M 1 a1 a2 = 0 from a, pRef_0]
    dsimp only
    rw [if_pos rfl, show f_X7_become (f_X1_keep M) 1 a1 a2 = (nI v, M1) from b]
  · simp only [List.mem_cons, List.not_mem_nil, or_false] at hp
    refine Or.inr ?_
    subst hp
    · refine ⟨"java/lang/IllegalArgumentException", by simp, ?_⟩
      unfold f_X8_setTide
      rw [show f_X6_refusalOfTide M 1 a1 a2 = 2 from a, pRef_2]
      simp
  · exact absurd a (pNo4_setTide M a1 a2)
theorem o_turnKey (hB : B + 240 ≤ 10000000) (hG : pG B M s x n S) (a1 a2 a3 : Int32)  : pAok B M s x n S 99 (f_X8_turnKey M a1 a2 a3) ∨ pRefd M ["java/lang/IndexOutOfBoundsException", "java/lang/IllegalArgumentException", "java/lang/IllegalStateException"] (f_X8_turnKey M a1 a2 a3) ∨ (f_X6_refusalOfTurn M 1 a1 a2 a3 = 4 ∧ pWrong B M s x n S (f_X8_turnKey M a1 a2 a3)) := by
  rcases pAct hB hG (pSim_turns 1 hG.1.1 hB a1 a2 a3) trivial with ⟨a, v, M1, s', hl, hv, b, hG1, hF⟩ | ⟨p, hp, a⟩ | ⟨a, M1, s', b, hl, hG1, hF⟩
  · refine Or.inl ⟨v, M1, s', hl, hv, ?_, hG1, hF⟩
    unfold f_X8_turnKey
    rw [show f_X6_refusalOfTurn M 1 a1 a2 a3 = 0 from a, pHc0]
    dsimp only
    rw [if_pos rfl, show f_X6_turn (f_X1_keep M) 1 a1 a2 = (nI v, M1) from b]
    try simp only [pc_tnc v hv]
  · simp only [List.mem_cons, List.not_mem_nil, or_false] at hp
    refine Or.inr (Or.inl ?_)
    rcases hp with rfl | rfl | rfl
    · refine ⟨"java/lang/IndexOutOfBoundsException", by simp, ?_⟩
      unfold f_X8_turnKey
      rw [show f_X6_refusalOfTurn M 1 a1 a2 a3 = 1 from a, pHc1]
      simp
    · refine ⟨"java/lang/IllegalArgumentException", by simp, ?_⟩
      unfold f_X8_turnKey
      rw [show f_X6_refusalOfTurn M 1 a1 a2 a3 = 2 from a, pHc2]
      simp
    · refine ⟨"java/lang/IllegalStateException", by simp, ?_⟩
      unfold f_X8_turnKey
      rw [show f_X6_refusalOfTurn M 1 a1 a2 a3 = 3 from a, pHc3]
      simp
  · refine Or.inr (Or.inr ⟨a, M1, s', ?_, hl, hG1, hF⟩)
    unfold f_X8_turnKey
    rw [show f_X6_refusalOfTurn M 1 a1 a2 a3 = 4 from a, pHc4]
    rw [show f_X6_hearWrongCode (f_X1_keep M) 1 a2 = M1 from b]
    simp
theorem o_changeCode (hB : B + 240 ≤ 10000000) (hG : pG B M s x n S) (a1 a2 a3 : Int32) (hg : ∀ h, h < 4 → a1 = nI h → a3 = nI (7 * h)) : pAok B M s x n S 0 (f_X8_changeCode M a1 a2 a3) ∨ pRefd M ["java/lang/IndexOutOfBoundsException", "java/lang/IllegalArgumentException", "java/lang/IllegalStateException"] (f_X8_changeCode M a1 a2 a3) ∨ (f_X6_refusalOfCode M 1 a1 a2 a3 = 4 ∧ pWrong B M s x n S (f_X8_changeCode M a1 a2 a3)) := by
  rcases pAct hB hG (pSim_codes 1 hG.1.1 hB a1 a2 a3) hg with ⟨a, v, M1, s', hl, hv, b, hG1, hF⟩ | ⟨p, hp, a⟩ | ⟨a, M1, s', b, hl, hG1, hF⟩
  · refine Or.inl ⟨v, M1, s', hl, hv, ?_, hG1, hF⟩
    unfold f_X8_changeCode
    rw [show f_X6_refusalOfCode M 1 a1 a2 a3 = 0 from a, pHc0]
    dsimp only
    rw [if_pos rfl, show f_X6_recode (f_X1_keep M) 1 a1 a3 = (nI v, M1) from b]
  · simp only [List.mem_cons, List.not_mem_nil, or_false] at hp
    refine Or.inr (Or.inl ?_)
    rcases hp with rfl | rfl | rfl
    · refine ⟨"java/lang/IndexOutOfBoundsException", by simp, ?_⟩
      unfold f_X8_changeCode
      rw [show f_X6_refusalOfCode M 1 a1 a2 a3 = 1 from a, pHc1]
      simp
    · refine ⟨"java/lang/IllegalArgumentException", by simp, ?_⟩
      unfold f_X8_changeCode
      rw [show f_X6_refusalOfCode M 1 a1 a2 a3 = 2 from a, pHc2]
      simp
    · refine ⟨"java/lang/IllegalStateException", by simp, ?_⟩
      unfold f_X8_changeCode
      rw [show f_X6_refusalOfCode M 1 a1 a2 a3 = 3 from a, pHc3]
      simp
  · refine Or.inr (Or.inr ⟨a, M1, s', ?_, hl, hG1, hF⟩)
    unfold f_X8_changeCode
    rw [show f_X6_refusalOfCode M 1 a1 a2 a3 = 4 from a, pHc4]
    rw [show f_X6_hearWrongCode (f_X1_keep M) 1 a1 = M1 from b]
    simp
theorem o_deposit (hB : B + 240 ≤ 10000000) (hG : pG B M s x n S) (a1 a2 : Int32)  : pAok B M s x n S 0 (f_X8_deposit M a1 a2) ∨ pRefd M ["java/lang/IndexOutOfBoundsException", "java/lang/IllegalArgumentException", "java/lang/IllegalStateException"] (f_X8_deposit M a1 a2) := by
  rcases pAct hB hG (pSim_deposits 1 hG.1.1 hB a1 a2) trivial with ⟨a, v, M1, s', hl, hv, b, hG1, hF⟩ | ⟨p, hp, a⟩ | ⟨a, M1, s', b, hl, hG1, hF⟩
  · refine Or.inl ⟨v, M1, s', hl, hv, ?_, hG1, hF⟩
    unfold f_X8_deposit
    rw [show f_X6_refusalOfPut M 1 a1 a2 = 0 from a, pRef_0]
    dsimp only
    rw [if_pos rfl, show f_X6_put (f_X1_keep M) 1 a1 a2 = (nI v, M1) from b]
  · simp only [List.mem_cons, List.not_mem_nil, or_false] at hp
    refine Or.inr ?_
    rcases hp with rfl | rfl | rfl
    · refine ⟨"java/lang/IndexOutOfBoundsException", by simp, ?_⟩
      unfold f_X8_deposit
      rw [show f_X6_refusalOfPut M 1 a1 a2 = 1 from a, pRef_1]
      simp
    · refine ⟨"java/lang/IllegalArgumentException", by simp, ?_⟩
      unfold f_X8_deposit
      rw [show f_X6_refusalOfPut M 1 a1 a2 = 2 from a, pRef_2]
      simp
    · refine ⟨"java/lang/IllegalStateException", by simp, ?_⟩
      unfold f_X8_deposit
      rw [show f_X6_refusalOfPut M 1 a1 a2 = 3 from a, pRef_3]
      simp
  · exact absurd a (pNo4_deposit M a1 a2)
theorem o_withdraw (hB : B + 240 ≤ 10000000) (hG : pG B M s x n S) (a1 : Int32)  : pAok B M s x n S 0 (f_X8_withdraw M a1) ∨ pRefd M ["java/lang/IndexOutOfBoundsException", "java/lang/IllegalStateException", "java/util/NoSuchElementException"] (f_X8_withdraw M a1) := by
  rcases pAct hB hG (pSim_withdraws 1 hG.1.1 hB a1) trivial with ⟨a, v, M1, s', hl, hv, b, hG1, hF⟩ | ⟨p, hp, a⟩ | ⟨a, M1, s', b, hl, hG1, hF⟩
  · refine Or.inl ⟨v, M1, s', hl, hv, ?_, hG1, hF⟩
    unfold f_X8_withdraw
    rw [show f_X6_refusalOfTake M 1 a1 = 0 from a, pRef_0]
    dsimp only
    rw [if_pos rfl, show f_X6_take (f_X1_keep M) 1 a1 = (nI v, M1) from b]
  · simp only [List.mem_cons, List.not_mem_nil, or_false] at hp
    refine Or.inr ?_
    rcases hp with rfl | rfl | rfl
    · refine ⟨"java/lang/IndexOutOfBoundsException", by simp, ?_⟩
      unfold f_X8_withdraw
      rw [show f_X6_refusalOfTake M 1 a1 = 1 from a, pRef_1]
      simp
    · refine ⟨"java/lang/IllegalStateException", by simp, ?_⟩
      unfold f_X8_withdraw
      rw [show f_X6_refusalOfTake M 1 a1 = 3 from a, pRef_3]
      simp
    · refine ⟨"java/util/NoSuchElementException", by simp, ?_⟩
      unfold f_X8_withdraw
      rw [show f_X6_refusalOfTake M 1 a1 = 5 from a, pRef_5]
      simp
  · exact absurd a (pNo4_withdraw M a1)
theorem o_close (hB : B + 240 ≤ 10000000) (hG : pG B M s x n S) (a1 : Int32)  : pAok B M s x n S 0 (f_X8_close M a1) ∨ pRefd M ["java/lang/IndexOutOfBoundsException", "java/lang/IllegalStateException"] (f_X8_close M a1) := by
  rcases pAct hB hG (pSim_closes 1 hG.1.1 hB a1) trivial with ⟨a, v, M1, s', hl, hv, b, hG1, hF⟩ | ⟨p, hp, a⟩ | ⟨a, M1, s', b, hl, hG1, hF⟩
  · refine Or.inl ⟨v, M1, s', hl, hv, ?_, hG1, hF⟩
    unfold f_X8_close
    rw [show f_X6_refusalOfClose M 1 a1 = 0 from a, pRef_0]
    dsimp only
    rw [if_pos rfl, show f_X6_shut (f_X1_keep M) 1 a1 = (nI v, M1) from b]
  · simp only [List.mem_cons, List.not_mem_nil, or_false] at hp
    refine Or.inr ?_
    rcases hp with rfl | rfl
    · refine ⟨"java/lang/IndexOutOfBoundsException", by simp, ?_⟩
      unfold f_X8_close
      rw [show f_X6_refusalOfClose M 1 a1 = 1 from a, pRef_1]
      simp
    · refine ⟨"java/lang/IllegalStateException", by simp, ?_⟩
      unfold f_X8_close
      rw [show f_X6_refusalOfClose M 1 a1 = 3 from a, pRef_3]
      simp
  · exact absurd a (pNo4_close M a1)
theorem o_pass (hB : B + 240 ≤ 10000000) (hG : pG B M s x n S) (a1 : Int32)  : pAok B M s x n S 0 (f_X8_pass M a1) ∨ pRefd M ["java/lang/IllegalArgumentException"] (f_X8_pass M a1) := by
  rcases pAct hB hG (pSim_waits 1 hG.1.1 hB a1) trivial with ⟨a, v, M1, s', hl, hv, b, hG1, hF⟩ | ⟨p, hp, a⟩ | ⟨a, M1, s', b, hl, hG1, hF⟩
  · refine Or.inl ⟨v, M1, s', hl, hv, ?_, hG1, hF⟩
    unfold f_X8_pass
    rw [show f_X6_refusalOfWait M 1 a1 = 0 from a, pRef_0]
    dsimp only
    rw [if_pos rfl, show f_X6_letPass (f_X1_keep M) 1 a1 = (nI v, M1) from b]
  · simp only [List.mem_cons, List.not_mem_nil, or_false] at hp
    refine Or.inr ?_
    subst hp
    · refine ⟨"java/lang/IllegalArgumentException", by simp, ?_⟩
      unfold f_X8_pass
      rw [show f_X6_refusalOfWait M 1 a1 = 2 from a, pRef_2]
      simp
  · exact absurd a (pNo4_pass M a1)
end
