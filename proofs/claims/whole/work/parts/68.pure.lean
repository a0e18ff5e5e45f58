def pB (R : Int32 × tvM) (k : tvM → Int32 × tvM) : Int32 × tvM := if R.1 = 0 then (0, R.2) else k R.2
def pOne (N : tvM) : Int32 × tvM := (1, N)
theorem pB_assoc (R : Int32 × tvM) (k l : tvM → Int32 × tvM) : pB (pB R k) l = pB R (fun N => pB (k N) l) := by
  unfold pB
  by_cases q : R.1 = 0
  · rw [if_pos q, if_pos q]
    rfl
  · rw [if_neg q, if_neg q]
theorem pB_one (N : tvM) (l : tvM → Int32 × tvM) : pB (pOne N) l = l N := by
  unfold pB pOne
  rw [if_neg p10]
theorem pNb (N : tvM) (c d x : Int32) : f_X9_isNumberBehind N c d x = pB (f_X9_isSign N c) (fun N => pB (f_X9_isNumber N d x) pOne) := rfl
theorem pNb_q {N : tvM} {c d x : Int32} {K : tvM → Prop} (h : q_X9_isSign N c ∧ (¬ (f_X9_isSign N c).1 = 0 → q_X9_isNumber (f_X9_isSign N c).2 d x ∧ (¬ (f_X9_isNumber (f_X9_isSign N c).2 d x).1 = 0 → K (f_X9_isNumber (f_X9_isSign N c).2 d x).2))) : q_X9_isNumberBehind N c d x ∧ (¬ (f_X9_isNumberBehind N c d x).1 = 0 → K (f_X9_isNumberBehind N c d x).2) := by
  refine ⟨⟨h.1, fun _ => trivial, fun q => ⟨(h.2 q).1, fun _ => trivial, fun _ => trivial⟩⟩, fun hn => ?_⟩
  unfold f_X9_isNumberBehind at hn ⊢
  by_cases q : (f_X9_isSign N c).1 = 0
  · rw [if_pos q] at hn
    exact absurd rfl hn
  · rw [if_neg q] at hn ⊢
    by_cases q2 : (f_X9_isNumber (f_X9_isSign N c).2 d x).1 = 0
    · rw [if_pos q2] at hn
      exact absurd rfl hn
    · rw [if_neg q2]
      exact (h.2 q).2 q2
section
variable (b : Nat) (N : tvM)
theorem pX1 : nI b + 1 = nI (b + 1 + 0) := nI_1 b
theorem pX2 : nI b + 2 = nI (b + 1 + 1) := by rw [pl_2, nI_add]
theorem pX3 : nI b + 3 = nI (b + 1 + 2) := by rw [pl_3, nI_add]
theorem pmF_e (g : Nat) : pmF b [] g = pOne := rfl
theorem pmF_d (r : List Nat) (g : Nat) : pmF b (100 :: r) g = fun N => pB (f_X9_isNumber N 1 (nI (b + 1 + g))) (pmF b r (g + 1)) := by
  funext N
  unfold pB
  show (if 100 = 100 then _ else _) = _
  rw [if_pos rfl]
theorem pmF_n (r : List Nat) (g : Nat) : pmF b (110 :: r) g = fun N => pB (f_X9_isNumber N 3 (nI (b + 1 + g))) (pmF b r (g + 1)) := by
  funext N
  unfold pB
  show (if 110 = 100 then _ else if 110 = 110 then _ else _) = _
  rw [if_neg (by decide), if_pos rfl]
theorem pmF_s {c : Nat} (h1 : c ≠ 100) (h2 : c ≠ 110) (r : List Nat) (g : Nat) : pmF b (c :: r) g = fun N => pB (f_X9_isSign N (nI c)) (pmF b r g) := by
  funext N
  unfold pB
  show (if c = 100 then _ else if c = 110 then _ else _) = _
  rw [if_neg h1, if_neg h2]
theorem pz_32 : (32 : Int32) = nI 32 := rfl
theorem pz_38 : (38 : Int32) = nI 38 := rfl
theorem pz_43 : (43 : Int32) = nI 43 := rfl
theorem pz_47 : (47 : Int32) = nI 47 := rfl
theorem pz_61 : (61 : Int32) = nI 61 := rfl
theorem pz_62 : (62 : Int32) = nI 62 := rfl
theorem pF10 : pB (f_X9_isNumber N 3 (nI b + 1)) pOne = pmF b [110] 0 N := by
  simp (disch := decide) only [pNb, pB_assoc, pB_one, pX1, pX2, pX3, pmF_e, pmF_d, pmF_n, pmF_s, pz_32, pz_38, pz_43, pz_47, pz_61, pz_62, Nat.zero_add, Nat.reduceAdd]
theorem pF16 : pB (f_X9_isNumber N 1 (nI b + 1)) pOne = pmF b [100] 0 N := by
  simp (disch := decide) only [pNb, pB_assoc, pB_one, pX1, pX2, pX3, pmF_e, pmF_d, pmF_n, pmF_s, pz_32, pz_38, pz_43, pz_47, pz_61, pz_62, Nat.zero_add, Nat.reduceAdd]
theorem pF12 : pB (f_X9_isNumber N 3 (nI b + 1)) (fun N => pB (f_X9_isNumberBehind N 47 3 (nI b + 2)) pOne) = pmF b [110, 47, 110] 0 N := by
  simp (disch := decide) only [pNb, pB_assoc, pB_one, pX1, pX2, pX3, pmF_e, pmF_d, pmF_n, pmF_s, pz_32, pz_38, pz_43, pz_47, pz_61, pz_62, Nat.zero_add, Nat.reduceAdd]
theorem pF13 : pB (f_X9_isNumber N 1 (nI b + 1)) (fun N => pB (f_X9_isNumberBehind N 32 1 (nI b + 2)) (fun N => pB (f_X9_isNumberBehind N 61 3 (nI b + 3)) pOne)) = pmF b [100, 32, 100, 61, 110] 0 N := by
  simp (disch := decide) only [pNb, pB_assoc, pB_one, pX1, pX2, pX3, pmF_e, pmF_d, pmF_n, pmF_s, pz_32, pz_38, pz_43, pz_47, pz_61, pz_62, Nat.zero_add, Nat.reduceAdd]
theorem pF14 : pB (f_X9_isNumber N 1 (nI b + 1)) (fun N => pB (f_X9_isNumberBehind N 32 3 (nI b + 2)) (fun N => pB (f_X9_isNumberBehind N 62 3 (nI b + 3)) pOne)) = pmF b [100, 32, 110, 62, 110] 0 N := by
  simp (disch := decide) only [pNb, pB_assoc, pB_one, pX1, pX2, pX3, pmF_e, pmF_d, pmF_n, pmF_s, pz_32, pz_38, pz_43, pz_47, pz_61, pz_62, Nat.zero_add, Nat.reduceAdd]
theorem pF11 : pB (f_X9_isNumber N 1 (nI b + 1)) (fun N => pB (f_X9_isNumberBehind N 38 1 (nI b + 2)) (fun N => pB (f_X9_isNumberBehind N 43 3 (nI b + 3)) pOne)) = pmF b [100, 38, 100, 43, 110] 0 N := by
  simp (disch := decide) only [pNb, pB_assoc, pB_one, pX1, pX2, pX3, pmF_e, pmF_d, pmF_n, pmF_s, pz_32, pz_38, pz_43, pz_47, pz_61, pz_62, Nat.zero_add, Nat.reduceAdd]
theorem pF15 : pB (f_X9_isNumber N 1 (nI b + 1)) (fun N => pB (f_X9_isNumberBehind N 61 3 (nI b + 2)) pOne) = pmF b [100, 61, 110] 0 N := by
  simp (disch := decide) only [pNb, pB_assoc, pB_one, pX1, pX2, pX3, pmF_e, pmF_d, pmF_n, pmF_s, pz_32, pz_38, pz_43, pz_47, pz_61, pz_62, Nat.zero_add, Nat.reduceAdd]
/-- what a form asks: as the model's functions ask it -/
theorem pQ10 (h : pmQ b [110] 0 N) : q_X9_isNumber N 3 (nI b + 1) := by
  rw [pX1]
  exact h.1
theorem pQ16 (h : pmQ b [100] 0 N) : q_X9_isNumber N 1 (nI b + 1) := by
  rw [pX1]
  exact h.1
theorem pQ12 (h : pmQ b [110, 47, 110] 0 N) : q_X9_isNumber N 3 (nI b + 1) ∧ (¬ (f_X9_isNumber N 3 (nI b + 1)).1 = 0 → q_X9_isNumberBehind (f_X9_isNumber N 3 (nI b + 1)).2 47 3 (nI b + 2)) := by
  rw [pX1, pX2]
  exact ⟨h.1, fun q => (pNb_q (K := fun _ => True) ⟨(h.2 q).1, fun z => ⟨((h.2 q).2 z).1, fun _ => trivial⟩⟩).1⟩
theorem pQ15 (h : pmQ b [100, 61, 110] 0 N) : q_X9_isNumber N 1 (nI b + 1) ∧ (¬ (f_X9_isNumber N 1 (nI b + 1)).1 = 0 → q_X9_isNumberBehind (f_X9_isNumber N 1 (nI b + 1)).2 61 3 (nI b + 2)) := by
  rw [pX1, pX2]
  exact ⟨h.1, fun q => (pNb_q (K := fun _ => True) ⟨(h.2 q).1, fun z => ⟨((h.2 q).2 z).1, fun _ => trivial⟩⟩).1⟩

theorem pQ13 (h : pmQ b [100, 32, 100, 61, 110] 0 N) : q_X9_isNumber N 1 (nI b + 1) ∧ (¬ (f_X9_isNumber N 1 (nI b + 1)).1 = 0 → q_X9_isNumberBehind (f_X9_isNumber N 1 (nI b + 1)).2 32 1 (nI b + 2) ∧ (¬ (f_X9_isNumberBehind (f_X9_isNumber N 1 (nI b + 1)).2 32 1 (nI b + 2)).1 = 0 → q_X9_isNumberBehind (f_X9_isNumberBehind (f_X9_isNumber N 1 (nI b + 1)).2 32 1 (nI b + 2)).2 61 3 (nI b + 3))) := by
  rw [pX1, pX2, pX3]
  refine ⟨h.1, fun q => ?_⟩
  have h2 := h.2 q
  exact pNb_q (K := fun N => q_X9_isNumberBehind N 61 3 (nI (b + 1 + 2))) ⟨h2.1, fun z => ⟨(h2.2 z).1, fun y => (pNb_q (K := fun _ => True) ⟨((h2.2 z).2 y).1, fun u => ⟨(((h2.2 z).2 y).2 u).1, fun _ => trivial⟩⟩).1⟩⟩
theorem pQ14 (h : pmQ b [100, 32, 110, 62, 110] 0 N) : q_X9_isNumber N 1 (nI b + 1) ∧ (¬ (f_X9_isNumber N 1 (nI b + 1)).1 = 0 → q_X9_isNumberBehind (f_X9_isNumber N 1 (nI b + 1)).2 32 3 (nI b + 2) ∧ (¬ (f_X9_isNumberBehind (f_X9_isNumber N 1 (nI b + 1)).2 32 3 (nI b + 2)).1 = 0 → q_X9_isNumberBehind (f_X9_isNumberBehind (f_X9_isNumber N 1 (nI b + 1)).2 32 3 (nI b + 2)).2 62 3 (nI b + 3))) := by
  rw [pX1, pX2, pX3]
  refine ⟨h.1, fun q => ?_⟩
  have h2 := h.2 q
  exact pNb_q (K := fun N => q_X9_isNumberBehind N 62 3 (nI (b + 1 + 2))) ⟨h2.1, fun z => ⟨(h2.2 z).1, fun y => (pNb_q (K := fun _ => True) ⟨((h2.2 z).2 y).1, fun u => ⟨(((h2.2 z).2 y).2 u).1, fun _ => trivial⟩⟩).1⟩⟩
theorem pQ11 (h : pmQ b [100, 38, 100, 43, 110] 0 N) : q_X9_isNumber N 1 (nI b + 1) ∧ (¬ (f_X9_isNumber N 1 (nI b + 1)).1 = 0 → q_X9_isNumberBehind (f_X9_isNumber N 1 (nI b + 1)).2 38 1 (nI b + 2) ∧ (¬ (f_X9_isNumberBehind (f_X9_isNumber N 1 (nI b + 1)).2 38 1 (nI b + 2)).1 = 0 → q_X9_isNumberBehind (f_X9_isNumberBehind (f_X9_isNumber N 1 (nI b + 1)).2 38 1 (nI b + 2)).2 43 3 (nI b + 3))) := by
  rw [pX1, pX2, pX3]
  refine ⟨h.1, fun q => ?_⟩
  have h2 := h.2 q
  exact pNb_q (K := fun N => q_X9_isNumberBehind N 43 3 (nI (b + 1 + 2))) ⟨h2.1, fun z => ⟨(h2.2 z).1, fun y => (pNb_q (K := fun _ => True) ⟨((h2.2 z).2 y).1, fun u => ⟨(((h2.2 z).2 y).2 u).1, fun _ => trivial⟩⟩).1⟩⟩
end
