/-! ===== actions through the helpers ===== -/
/-- done, with the state before kept; refused; a wrong code heard, with the state before kept -/
def kOut (B : Nat) (M : tvM) (s : Nat → Nat) (lo : Nat) (e : Prop) (x : Int32) (M1 : tvM) : Prop :=
  (∃ (v : Nat) (s' : Nat → Nat) (x' n' : Nat) (S' : Nat → Nat → Nat), lo ≤ v ∧ v < 65536 ∧ x = nI v ∧ s 9 ≤ s' 9 ∧ s 10 ≤ s' 10 ∧ pG B M1 s' x' n' S' ∧ (n' ≠ 0 ∧ S' (n' - 1) = s) ∧ pFr M M1) ∨
  ((x = -900001 ∨ x = -900002 ∨ x = -900003) ∧ M1 = M) ∨
  (e ∧ x = -900004 ∧ ∃ (s' : Nat → Nat) (x' n' : Nat) (S' : Nat → Nat → Nat), s 3 ≤ s' 3 ∧ s 9 ≤ s' 9 ∧ s 10 ≤ s' 10 ∧ pG B M1 s' x' n' S' ∧ (n' ≠ 0 ∧ S' (n' - 1) = s) ∧ pFr M M1)
theorem kOut_ok {B : Nat} {M : tvM} {s : Nat → Nat} {x n : Nat} {S : Nat → Nat → Nat} {lo : Nat} {e : Prop} {L : List (String × Int32)} {r : Option String × Int32 × tvM} (h : pAok B M s x n S lo r) : ∃ y M1, wOut L r y M1 ∧ kOut (B + 240) M s lo e y M1 := by
  obtain ⟨v, M1, s', ⟨h1, h2, h3⟩, h4, h5, h6, h7⟩ := h
  exact ⟨nI v, M1, Or.inl h5, Or.inl ⟨v, s', _, _, _, h1, h4, rfl, h2, h3, h6, ⟨by omega, pSn_l s n S⟩, h7⟩⟩
theorem kOut_wr {B : Nat} {M : tvM} {s : Nat → Nat} {x n : Nat} {S : Nat → Nat → Nat} {lo : Nat} {e : Prop} {r : Option String × Int32 × tvM} (he : e) (h : pWrong B M s x n S r) : ∃ y M1, wOut wTurn r y M1 ∧ kOut (B + 240) M s lo e y M1 := by
  obtain ⟨M1, s', h5, ⟨h1, h2, h3⟩, h6, h7⟩ := h
  exact ⟨-900004, M1, Or.inr ⟨("java/lang/UnsupportedOperationException", -900004), by simp, h5, rfl⟩, Or.inr (Or.inr ⟨he, rfl, s', _, _, _, h1, h2, h3, h6, ⟨by omega, pSn_l s n S⟩, h7⟩)⟩
section
variable {B : Nat} {M : tvM} {s : Nat → Nat} {x n : Nat} {S : Nat → Nat → Nat}
theorem k_addHolder (hB : B + 240 ≤ 10000000) (hG : pG B M s x n S) (a1 : Int32) (hg : s 9 < 4 → a1 = nI (7 * s 9)) : ∃ y M1, wOut [("java/lang/IllegalArgumentException", -900001), ("java/lang/IllegalStateException", -900002)] (f_X8_addHolder M a1) y M1 ∧ kOut (B + 240) M s 0 (False) y M1 := by
  rcases o_addHolder hB hG a1 hg with h | h
  · exact kOut_ok h
  · obtain ⟨e, he, h⟩ := h
    simp only [List.mem_cons, List.not_mem_nil, or_false] at he
    rcases he with rfl | rfl
    · exact ⟨-900001, M, Or.inr ⟨("java/lang/IllegalArgumentException", -900001), by simp, h, rfl⟩, Or.inr (Or.inl ⟨Or.inl rfl, rfl⟩)⟩
    · exact ⟨-900002, M, Or.inr ⟨("java/lang/IllegalStateException", -900002), by simp, h, rfl⟩, Or.inr (Or.inl ⟨Or.inr (Or.inl rfl), rfl⟩)⟩
theorem k_addBox (hB : B + 240 ≤ 10000000) (hG : pG B M s x n S) (a1 a2 a3 : Int32) : ∃ y M1, wOut [("java/lang/IndexOutOfBoundsException", -900001), ("java/lang/IllegalArgumentException", -900002), ("java/lang/IllegalStateException", -900003)] (f_X8_addBox M a1 a2 a3) y M1 ∧ kOut (B + 240) M s 0 (False) y M1 := by
  rcases o_addBox hB hG a1 a2 a3 with h | h
  · exact kOut_ok h
  · obtain ⟨e, he, h⟩ := h
    simp only [List.mem_cons, List.not_mem_nil, or_false] at he
    rcases he with rfl | rfl | rfl
    · exact ⟨-900001, M, Or.inr ⟨("java/lang/IndexOutOfBoundsException", -900001), by simp, h, rfl⟩, Or.inr (Or.inl ⟨Or.inl rfl, rfl⟩)⟩
    · exact ⟨-900002, M, Or.inr ⟨("java/lang/IllegalArgumentException", -900002), by simp, h, rfl⟩, Or.inr (Or.inl ⟨Or.inr (Or.inl rfl), rfl⟩)⟩
    · exact ⟨-900003, M, Or.inr ⟨("java/lang/IllegalStateException", -900003), by simp, h, rfl⟩, Or.inr (Or.inl ⟨Or.inr (Or.inr rfl), rfl⟩)⟩
theorem k_setTide (hB : B + 240 ≤ 10000000) (hG : pG B M s x n S) (a1 a2 : Int32) : ∃ y M1, wOut [("java/lang/IllegalArgumentException", -900001)] (f_X8_setTide M a1 a2) y M1 ∧ kOut (B + 240) M s 0 (False) y M1 := by
  rcases o_setTide hB hG a1 a2 with h | h
  · exact kOut_ok h
  · obtain ⟨e, he, h⟩ := h
    simp only [List.mem_cons, List.not_mem_nil, or_false] at he
    subst he
    · exact ⟨-900001, M, Or.inr ⟨("java/lang/IllegalArgumentException", -900001), by simp, h, rfl⟩, Or.inr (Or.inl ⟨Or.inl rfl, rfl⟩)⟩
theorem k_turnKey (hB : B + 240 ≤ 10000000) (hG : pG B M s x n S) (a1 a2 a3 : Int32) : ∃ y M1, wOut wTurn (f_X8_turnKey M a1 a2 a3) y M1 ∧ kOut (B + 240) M s 99 (f_X6_refusalOfTurn M 1 a1 a2 a3 = 4) y M1 := by
  rcases o_turnKey hB hG a1 a2 a3 with h | h | ⟨hw, h⟩
  · exact kOut_ok h
  · obtain ⟨e, he, h⟩ := h
    simp only [List.mem_cons, List.not_mem_nil, or_false] at he
    rcases he with rfl | rfl | rfl
    · exact ⟨-900001, M, Or.inr ⟨("java/lang/IndexOutOfBoundsException", -900001), by simp, h, rfl⟩, Or.inr (Or.inl ⟨Or.inl rfl, rfl⟩)⟩
    · exact ⟨-900002, M, Or.inr ⟨("java/lang/IllegalArgumentException", -900002), by simp, h, rfl⟩, Or.inr (Or.inl ⟨Or.inr (Or.inl rfl), rfl⟩)⟩
    · exact ⟨-900003, M, Or.inr ⟨("java/lang/IllegalStateException", -900003), by simp, h, rfl⟩, Or.inr (Or.inl ⟨Or.inr (Or.inr rfl), rfl⟩)⟩
  · exact kOut_wr hw h
theorem k_changeCode (hB : B + 240 ≤ 10000000) (hG : pG B M s x n S) (a1 a2 a3 : Int32) (hg : ∀ h, h < 4 → a1 = nI h → a3 = nI (7 * h)) : ∃ y M1, wOut wTurn (f_X8_changeCode M a1 a2 a3) y M1 ∧ kOut (B + 240) M s 0 (f_X6_refusalOfCode M 1 a1 a2 a3 = 4) y M1 := by
  rcases o_changeCode hB hG a1 a2 a3 hg with h | h | ⟨hw, h⟩
  · exact kOut_ok h
  · obtain ⟨e, he, h⟩ := h
    simp only [List.mem_cons, List.not_mem_nil, or_false] at he
    rcases he with rfl | rfl | rfl
    · exact ⟨-900001, M, Or.inr ⟨("java/lang/IndexOutOfBoundsException", -900001), by simp, h, rfl⟩, Or.inr (Or.inl ⟨Or.inl rfl, rfl⟩)⟩
    · exact ⟨-900002, M, Or.inr ⟨("java/lang/IllegalArgumentException", -900002), by simp, h, rfl⟩, Or.inr (Or.inl ⟨Or.inr (Or.inl rfl), rfl⟩)⟩
    · exact ⟨-900003, M, Or.inr ⟨("java/lang/IllegalStateException", -900003), by simp, h, rfl⟩, Or.inr (Or.inl ⟨Or.inr (Or.inr rfl), rfl⟩)⟩
  · exact kOut_wr hw h
theorem k_deposit (hB : B + 240 ≤ 10000000) (hG : pG B M s x n S) (a1 a2 : Int32) : ∃ y M1, wOut [("java/lang/IndexOutOfBoundsException", -900001), ("java/lang/IllegalArgumentException", -900002), ("java/lang/IllegalStateException", -900003)] (f_X8_deposit M a1 a2) y M1 ∧ kOut (B + 240) M s 0 (False) y M1 := by
  rcases o_deposit hB hG a1 a2 with h | h
  · exact kOut_ok h
  · obtain ⟨e, he, h⟩ := h
    simp only [List.mem_cons, List.not_mem_nil, or_false] at he
    rcases he with rfl | rfl | rfl
    · exact ⟨-900001, M, Or.inr ⟨("java/lang/IndexOutOfBoundsException", -900001), by simp, h, rfl⟩, Or.inr (Or.inl ⟨Or.inl rfl, rfl⟩)⟩
    · exact ⟨-900002, M, Or.inr ⟨("java/lang/IllegalArgumentException", -900002), by simp, h, rfl⟩, Or.inr (Or.inl ⟨Or.inr (Or.inl rfl), rfl⟩)⟩
    · exact ⟨-900003, M, Or.inr ⟨("java/lang/IllegalStateException", -900003), by simp, h, rfl⟩, Or.inr (Or.inl ⟨Or.inr (Or.inr rfl), rfl⟩)⟩
theorem k_withdraw (hB : B + 240 ≤ 10000000) (hG : pG B M s x n S) (a1 : Int32) : ∃ y M1, wOut [("java/lang/IndexOutOfBoundsException", -900001), ("java/lang/IllegalStateException", -900002), ("java/util/NoSuchElementException", -900003)] (f_X8_withdraw M a1) y M1 ∧ kOut (B + 240) M s 0 (False) y M1 := by
  rcases o_withdraw hB hG a1 with h | h
  · exact kOut_ok h
  · obtain ⟨e, he, h⟩ := h
    simp only [List.mem_cons, List.not_mem_nil, or_false] at he
    rcases he with rfl | rfl | rfl
    · exact ⟨-900001, M, Or.inr ⟨("java/lang/IndexOutOfBoundsException", -900001), by simp, h, rfl⟩, Or.inr (Or.inl ⟨Or.inl rfl, rfl⟩)⟩
    · exact ⟨-900002, M, Or.inr ⟨("java/lang/IllegalStateException", -900002), by simp, h, rfl⟩, Or.inr (Or.inl ⟨Or.inr (Or.inl rfl), rfl⟩)⟩
    · exact ⟨-900003, M, Or.inr ⟨("java/util/NoSuchElementException", -900003), by simp, h, rfl⟩, Or.inr (Or.inl ⟨Or.inr (Or.inr rfl), rfl⟩)⟩
theorem k_close (hB : B + 240 ≤ 10000000) (hG : pG B M s x n S) (a1 : Int32) : ∃ y M1, wOut [("java/lang/IndexOutOfBoundsException", -900001), ("java/lang/IllegalStateException", -900002)] (f_X8_close M a1) y M1 ∧ kOut (B + 240) M s 0 (False) y M1 := by
  rcases o_close hB hG a1 with h | h
  · exact kOut_ok h
  · obtain ⟨e, he, h⟩ := h
    simp only [List.mem_cons, List.not_mem_nil, or_false] at he
    rcases he with rfl | rfl
    · exact ⟨-900001, M, Or.inr ⟨("java/lang/IndexOutOfBoundsException", -900001), by simp, h, rfl⟩, Or.inr (Or.inl ⟨Or.inl rfl, rfl⟩)⟩
    · exact ⟨-900002, M, Or.inr ⟨("java/lang/IllegalStateException", -900002), by simp, h, rfl⟩, Or.inr (Or.inl ⟨Or.inr (Or.inl rfl), rfl⟩)⟩
theorem k_pass (hB : B + 240 ≤ 10000000) (hG : pG B M s x n S) (a1 : Int32) : ∃ y M1, wOut [("java/lang/IllegalArgumentException", -900001)] (f_X8_pass M a1) y M1 ∧ kOut (B + 240) M s 0 (False) y M1 := by
  rcases o_pass hB hG a1 with h | h
  · exact kOut_ok h
  · obtain ⟨e, he, h⟩ := h
    simp only [List.mem_cons, List.not_mem_nil, or_false] at he
    subst he
    · exact ⟨-900001, M, Or.inr ⟨("java/lang/IllegalArgumentException", -900001), by simp, h, rfl⟩, Or.inr (Or.inl ⟨Or.inl rfl, rfl⟩)⟩
end
