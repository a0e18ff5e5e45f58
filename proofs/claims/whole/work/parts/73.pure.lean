theorem pDo_0 {N : tvM} {i : Nat} (hi : i ≤ 29) (hl : tgi N 256 (4 * i) = nI 104) {a0 : Int32} (h0 : tgi N 256 (4 * i + 1 + 0) = a0) : f_X9_does N (nI (4 * i)) = f_X9_holds N a0 := by
  have e0 : (nI (4 * i) + 1).toNatClampNeg = 4 * i + 1 + 0 := by rw [show (1 : Int32) = nI 1 from rfl, nI_add, pn_c (by omega)]
  unfold f_X9_does
  rw [pn_c (show 4 * i < 2147483648 by omega), hl, if_neg (show ¬ nI 104 = 97 by decide), if_neg (show ¬ nI 104 = 98 by decide), if_neg (show ¬ nI 104 = 99 by decide), if_neg (show ¬ nI 104 = 100 by decide), if_neg (show ¬ nI 104 = 101 by decide), if_neg (show ¬ nI 104 = 102 by decide), if_neg (show ¬ nI 104 = 103 by decide), if_pos (show nI 104 = 104 from rfl), e0, h0]
theorem pDq_0 {N : tvM} {i : Nat} (hi : i ≤ 29) (hl : tgi N 256 (4 * i) = nI 104) {a0 : Int32} (h0 : tgi N 256 (4 * i + 1 + 0) = a0) (hq : q_X9_holds N a0) : q_X9_does N (nI (4 * i)) := by
  have e0 : (nI (4 * i) + 1).toNatClampNeg = 4 * i + 1 + 0 := by rw [show (1 : Int32) = nI 1 from rfl, nI_add, pn_c (by omega)]
  have v1 : vp_in (nI (4 * i) + 1) 124 := by rw [nI_1]; exact vp_in_nI (by omega) (by omega)
  have v2 : vp_in (nI (4 * i) + 2) 124 := by rw [show (2 : Int32) = nI 2 from rfl, nI_add]; exact vp_in_nI (by omega) (by omega)
  have v3 : vp_in (nI (4 * i) + 3) 124 := by rw [show (3 : Int32) = nI 3 from rfl, nI_add]; exact vp_in_nI (by omega) (by omega)
  unfold q_X9_does
  rw [pn_c (show 4 * i < 2147483648 by omega), hl, e0, h0]
  exact ⟨v1, v2, v3, vp_in_nI (by omega) (by omega), ⟨fun z => absurd z (by decide), fun _ => ⟨fun z => absurd z (by decide), fun _ => ⟨fun z => absurd z (by decide), fun _ => ⟨fun z => absurd z (by decide), fun _ => ⟨fun z => absurd z (by decide), fun _ => ⟨fun z => absurd z (by decide), fun _ => ⟨fun z => absurd z (by decide), fun _ => ⟨fun _ => ⟨hq, trivial⟩, fun z => absurd rfl z⟩⟩⟩⟩⟩⟩⟩⟩⟩
theorem pRc_0 (M : tvM) (a0 a1 a2 : Int32) : f_X6_refusalOfCommand M 1 (nI 0) a0 a1 a2 = f_X6_refusalOfHolder M 1 a0 ∧ f_X6_carryOut M 1 (nI 0) a0 a1 a2 = (f_X2_add M 1 a0).2 := by
  unfold f_X6_refusalOfCommand f_X6_carryOut
  constructor
  · rw [if_pos (show nI 0 = 0 from rfl)]
  · rw [if_pos (show nI 0 = 0 from rfl)]
theorem pDo_1 {N : tvM} {i : Nat} (hi : i ≤ 29) (hl : tgi N 256 (4 * i) = nI 98) {a0 a1 a2 : Int32} (h0 : tgi N 256 (4 * i + 1 + 0) = a0) (h1 : tgi N 256 (4 * i + 1 + 1) = a1) (h2 : tgi N 256 (4 * i + 1 + 2) = a2) : f_X9_does N (nI (4 * i)) = f_X9_boxed N a0 a1 a2 := by
  have e0 : (nI (4 * i) + 1).toNatClampNeg = 4 * i + 1 + 0 := by rw [show (1 : Int32) = nI 1 from rfl, nI_add, pn_c (by omega)]
  have e1 : (nI (4 * i) + 2).toNatClampNeg = 4 * i + 1 + 1 := by rw [show (2 : Int32) = nI 2 from rfl, nI_add, pn_c (by omega)]
  have e2 : (nI (4 * i) + 3).toNatClampNeg = 4 * i + 1 + 2 := by rw [show (3 : Int32) = nI 3 from rfl, nI_add, pn_c (by omega)]
  unfold f_X9_does
  rw [pn_c (show 4 * i < 2147483648 by omega), hl, if_neg (show ¬ nI 98 = 97 by decide), if_pos (show nI 98 = 98 from rfl), e0, h0, e1, h1, e2, h2]
theorem pDq_1 {N : tvM} {i : Nat} (hi : i ≤ 29) (hl : tgi N 256 (4 * i) = nI 98) {a0 a1 a2 : Int32} (h0 : tgi N 256 (4 * i + 1 + 0) = a0) (h1 : tgi N 256 (4 * i + 1 + 1) = a1) (h2 : tgi N 256 (4 * i + 1 + 2) = a2) (hq : q_X9_boxed N a0 a1 a2) : q_X9_does N (nI (4 * i)) := by
  have e0 : (nI (4 * i) + 1).toNatClampNeg = 4 * i + 1 + 0 := by rw [show (1 : Int32) = nI 1 from rfl, nI_add, pn_c (by omega)]
  have e1 : (nI (4 * i) + 2).toNatClampNeg = 4 * i + 1 + 1 := by rw [show (2 : Int32) = nI 2 from rfl, nI_add, pn_c (by omega)]
  have e2 : (nI (4 * i) + 3).toNatClampNeg = 4 * i + 1 + 2 := by rw [show (3 : Int32) = nI 3 from rfl, nI_add, pn_c (by omega)]
  have v1 : vp_in (nI (4 * i) + 1) 124 := by rw [nI_1]; exact vp_in_nI (by omega) (by omega)
  have v2 : vp_in (nI (4 * i) + 2) 124 := by rw [show (2 : Int32) = nI 2 from rfl, nI_add]; exact vp_in_nI (by omega) (by omega)
  have v3 : vp_in (nI (4 * i) + 3) 124 := by rw [show (3 : Int32) = nI 3 from rfl, nI_add]; exact vp_in_nI (by omega) (by omega)
  unfold q_X9_does
  rw [pn_c (show 4 * i < 2147483648 by omega), hl, e0, h0, e1, h1, e2, h2]
  exact ⟨v1, v2, v3, vp_in_nI (by omega) (by omega), ⟨fun z => absurd z (by decide), fun _ => ⟨fun _ => ⟨hq, trivial⟩, fun z => absurd rfl z⟩⟩⟩
theorem pRc_1 (M : tvM) (a0 a1 a2 : Int32) : f_X6_refusalOfCommand M 1 (nI 1) a0 a1 a2 = f_X6_refusalOfBox M 1 a0 a1 a2 ∧ f_X6_carryOut M 1 (nI 1) a0 a1 a2 = (f_X0_add M 1 a0 a1 a2).2 := by
  unfold f_X6_refusalOfCommand f_X6_carryOut
  constructor
  · rw [if_neg (show ¬ nI 1 = 0 by decide), if_pos (show nI 1 = 1 from rfl)]
  · rw [if_neg (show ¬ nI 1 = 0 by decide), if_pos (show nI 1 = 1 from rfl)]
theorem pDo_2 {N : tvM} {i : Nat} (hi : i ≤ 29) (hl : tgi N 256 (4 * i) = nI 105) {a0 a1 : Int32} (h0 : tgi N 256 (4 * i + 1 + 0) = a0) (h1 : tgi N 256 (4 * i + 1 + 1) = a1) : f_X9_does N (nI (4 * i)) = f_X9_tides N a0 a1 := by
  have e0 : (nI (4 * i) + 1).toNatClampNeg = 4 * i + 1 + 0 := by rw [show (1 : Int32) = nI 1 from rfl, nI_add, pn_c (by omega)]
  have e1 : (nI (4 * i) + 2).toNatClampNeg = 4 * i + 1 + 1 := by rw [show (2 : Int32) = nI 2 from rfl, nI_add, pn_c (by omega)]
  unfold f_X9_does
  rw [pn_c (show 4 * i < 2147483648 by omega), hl, if_neg (show ¬ nI 105 = 97 by decide), if_neg (show ¬ nI 105 = 98 by decide), if_neg (show ¬ nI 105 = 99 by decide), if_neg (show ¬ nI 105 = 100 by decide), if_neg (show ¬ nI 105 = 101 by decide), if_neg (show ¬ nI 105 = 102 by decide), if_neg (show ¬ nI 105 = 103 by decide), if_neg (show ¬ nI 105 = 104 by decide), if_pos (show nI 105 = 105 from rfl), e0, h0, e1, h1]
theorem pDq_2 {N : tvM} {i : Nat} (hi : i ≤ 29) (hl : tgi N 256 (4 * i) = nI 105) {a0 a1 : Int32} (h0 : tgi N 256 (4 * i + 1 + 0) = a0) (h1 : tgi N 256 (4 * i + 1 + 1) = a1) : q_X9_does N (nI (4 * i)) := by
  have e0 : (nI (4 * i) + 1).toNatClampNeg = 4 * i + 1 + 0 := by rw [show (1 : Int32) = nI 1 from rfl, nI_add, pn_c (by omega)]
  have e1 : (nI (4 * i) + 2).toNatClampNeg = 4 * i + 1 + 1 := by rw [show (2 : Int32) = nI 2 from rfl, nI_add, pn_c (by omega)]
  have v1 : vp_in (nI (4 * i) + 1) 124 := by rw [nI_1]; exact vp_in_nI (by omega) (by omega)
  have v2 : vp_in (nI (4 * i) + 2) 124 := by rw [show (2 : Int32) = nI 2 from rfl, nI_add]; exact vp_in_nI (by omega) (by omega)
  have v3 : vp_in (nI (4 * i) + 3) 124 := by rw [show (3 : Int32) = nI 3 from rfl, nI_add]; exact vp_in_nI (by omega) (by omega)
  unfold q_X9_does
  rw [pn_c (show 4 * i < 2147483648 by omega), hl, e0, h0, e1, h1]
  exact ⟨v1, v2, v3, vp_in_nI (by omega) (by omega), ⟨fun z => absurd z (by decide), fun _ => ⟨fun z => absurd z (by decide), fun _ => ⟨fun z => absurd z (by decide), fun _ => ⟨fun z => absurd z (by decide), fun _ => ⟨fun z => absurd z (by decide), fun _ => ⟨fun z => absurd z (by decide), fun _ => ⟨fun z => absurd z (by decide), fun _ => ⟨fun z => absurd z (by decide), fun _ => ⟨fun _ => trivial, fun z => absurd rfl z⟩⟩⟩⟩⟩⟩⟩⟩⟩⟩
theorem pRc_2 (M : tvM) (a0 a1 a2 : Int32) : f_X6_refusalOfCommand M 1 (nI 2) a0 a1 a2 = f_X6_refusalOfTide M 1 a0 a1 ∧ f_X6_carryOut M 1 (nI 2) a0 a1 a2 = (f_X7_become M 1 a0 a1).2 := by
  unfold f_X6_refusalOfCommand f_X6_carryOut
  constructor
  · rw [if_neg (show ¬ nI 2 = 0 by decide), if_neg (show ¬ nI 2 = 1 by decide), if_pos (show nI 2 = 2 from rfl)]
  · rw [if_neg (show ¬ nI 2 = 0 by decide), if_neg (show ¬ nI 2 = 1 by decide), if_pos (show nI 2 = 2 from rfl)]
theorem pDo_3 {N : tvM} {i : Nat} (hi : i ≤ 29) (hl : tgi N 256 (4 * i) = nI 116) {a0 a1 a2 : Int32} (h0 : tgi N 256 (4 * i + 1 + 0) = a0) (h1 : tgi N 256 (4 * i + 1 + 1) = a1) (h2 : tgi N 256 (4 * i + 1 + 2) = a2) : f_X9_does N (nI (4 * i)) = f_X9_turns N a0 a1 a2 := by
  have e0 : (nI (4 * i) + 1).toNatClampNeg = 4 * i + 1 + 0 := by rw [show (1 : Int32) = nI 1 from rfl, nI_add, pn_c (by omega)]
  have e1 : (nI (4 * i) + 2).toNatClampNeg = 4 * i + 1 + 1 := by rw [show (2 : Int32) = nI 2 from rfl, nI_add, pn_c (by omega)]
  have e2 : (nI (4 * i) + 3).toNatClampNeg = 4 * i + 1 + 2 := by rw [show (3 : Int32) = nI 3 from rfl, nI_add, pn_c (by omega)]
  unfold f_X9_does
  rw [pn_c (show 4 * i < 2147483648 by omega), hl, if_neg (show ¬ nI 116 = 97 by decide), if_neg (show ¬ nI 116 = 98 by decide), if_neg (show ¬ nI 116 = 99 by decide), if_neg (show ¬ nI 116 = 100 by decide), if_neg (show ¬ nI 116 = 101 by decide), if_neg (show ¬ nI 116 = 102 by decide), if_neg (show ¬ nI 116 = 103 by decide), if_neg (show ¬ nI 116 = 104 by decide), if_neg (show ¬ nI 116 = 105 by decide), if_neg (show ¬ nI 116 = 106 by decide), if_neg (show ¬ nI 116 = 107 by decide), if_neg (show ¬ nI 116 = 108 by decide), if_neg (show ¬ nI 116 = 109 by decide), if_neg (show ¬ nI 116 = 110 by decide), if_neg (show ¬ nI 116 = 111 by decide), if_neg (show ¬ nI 116 = 112 by decide), if_neg (show ¬ nI 116 = 113 by decide), if_neg (show ¬ nI 116 = 114 by decide), if_neg (show ¬ nI 116 = 115 by decide), if_pos (show nI 116 = 116 from rfl), e0, h0, e1, h1, e2, h2]
theorem pDq_3 {N : tvM} {i : Nat} (hi : i ≤ 29) (hl : tgi N 256 (4 * i) = nI 116) {a0 a1 a2 : Int32} (h0 : tgi N 256 (4 * i + 1 + 0) = a0) (h1 : tgi N 256 (4 * i + 1 + 1) = a1) (h2 : tgi N 256 (4 * i + 1 + 2) = a2) (hq : q_X9_turns N a0 a1 a2) : q_X9_does N (nI (4 * i)) := by
  have e0 : (nI (4 * i) + 1).toNatClampNeg = 4 * i + 1 + 0 := by rw [show (1 : Int32) = nI 1 from rfl, nI_add, pn_c (by omega)]
  have e1 : (nI (4 * i) + 2).toNatClampNeg = 4 * i + 1 + 1 := by rw [show (2 : Int32) = nI 2 from rfl, nI_add, pn_c (by omega)]
  have e2 : (nI (4 * i) + 3).toNatClampNeg = 4 * i + 1 + 2 := by rw [show (3 : Int32) = nI 3 from rfl, nI_add, pn_c (by omega)]
  have v1 : vp_in (nI (4 * i) + 1) 124 := by rw [nI_1]; exact vp_in_nI (by omega) (by omega)
  have v2 : vp_in (nI (4 * i) + 2) 124 := by rw [show (2 : Int32) = nI 2 from rfl, nI_add]; exact vp_in_nI (by omega) (by omega)
  have v3 : vp_in (nI (4 * i) + 3) 124 := by rw [show (3 : Int32) = nI 3 from rfl, nI_add]; exact vp_in_nI (by omega) (by omega)
  unfold q_X9_does
  rw [pn_c (show 4 * i < 2147483648 by omega), hl, e0, h0, e1, h1, e2, h2]
  exact ⟨v1, v2, v3, vp_in_nI (by omega) (by omega), ⟨fun z => absurd z (by decide), fun _ => ⟨fun z => absurd z (by decide), fun _ => ⟨fun z => absurd z (by decide), fun _ => ⟨fun z => absurd z (by decide), fun _ => ⟨fun z => absurd z (by decide), fun _ => ⟨fun z => absurd z (by decide), fun _ => ⟨fun z => absurd z (by decide), fun _ => ⟨fun z => absurd z (by decide), fun _ => ⟨fun z => absurd z (by decide), fun _ => ⟨fun z => absurd z (by decide), fun _ => ⟨fun z => absurd z (by decide), fun _ => ⟨fun z => absurd z (by decide), fun _ => ⟨fun z => absurd z (by decide), fun _ => ⟨fun z => absurd z (by decide), fun _ => ⟨fun z => absurd z (by decide), fun _ => ⟨fun z => absurd z (by decide), fun _ => ⟨fun z => absurd z (by decide), fun _ => ⟨fun z => absurd z (by decide), fun _ => ⟨fun z => absurd z (by decide), fun _ => ⟨fun _ => ⟨hq, trivial⟩, fun z => absurd rfl z⟩⟩⟩⟩⟩⟩⟩⟩⟩⟩⟩⟩⟩⟩⟩⟩⟩⟩⟩⟩⟩
theorem pRc_3 (M : tvM) (a0 a1 a2 : Int32) : f_X6_refusalOfCommand M 1 (nI 3) a0 a1 a2 = f_X6_refusalOfTurn M 1 a0 a1 a2 ∧ f_X6_carryOut M 1 (nI 3) a0 a1 a2 = (f_X6_turn M 1 a0 a1).2 := by
  unfold f_X6_refusalOfCommand f_X6_carryOut
  constructor
  · rw [if_neg (show ¬ nI 3 = 0 by decide), if_neg (show ¬ nI 3 = 1 by decide), if_neg (show ¬ nI 3 = 2 by decide), if_pos (show nI 3 = 3 from rfl)]
  · rw [if_neg (show ¬ nI 3 = 0 by decide), if_neg (show ¬ nI 3 = 1 by decide), if_neg (show ¬ nI 3 = 2 by decide), if_pos (show nI 3 = 3 from rfl)]
theorem pDo_4 {N : tvM} {i : Nat} (hi : i ≤ 29) (hl : tgi N 256 (4 * i) = nI 99) {a0 a1 a2 : Int32} (h0 : tgi N 256 (4 * i + 1 + 0) = a0) (h1 : tgi N 256 (4 * i + 1 + 1) = a1) (h2 : tgi N 256 (4 * i + 1 + 2) = a2) : f_X9_does N (nI (4 * i)) = f_X9_codes N a0 a1 a2 := by
  have e0 : (nI (4 * i) + 1).toNatClampNeg = 4 * i + 1 + 0 := by rw [show (1 : Int32) = nI 1 from rfl, nI_add, pn_c (by omega)]
  have e1 : (nI (4 * i) + 2).toNatClampNeg = 4 * i + 1 + 1 := by rw [show (2 : Int32) = nI 2 from rfl, nI_add, pn_c (by omega)]
  have e2 : (nI (4 * i) + 3).toNatClampNeg = 4 * i + 1 + 2 := by rw [show (3 : Int32) = nI 3 from rfl, nI_add, pn_c (by omega)]
  unfold f_X9_does
  rw [pn_c (show 4 * i < 2147483648 by omega), hl, if_neg (show ¬ nI 99 = 97 by decide), if_neg (show ¬ nI 99 = 98 by decide), if_pos (show nI 99 = 99 from rfl), e0, h0, e1, h1, e2, h2]
theorem pDq_4 {N : tvM} {i : Nat} (hi : i ≤ 29) (hl : tgi N 256 (4 * i) = nI 99) {a0 a1 a2 : Int32} (h0 : tgi N 256 (4 * i + 1 + 0) = a0) (h1 : tgi N 256 (4 * i + 1 + 1) = a1) (h2 : tgi N 256 (4 * i + 1 + 2) = a2) (hq : q_X9_codes N a0 a1 a2) : q_X9_does N (nI (4 * i)) := by
  have e0 : (nI (4 * i) + 1).toNatClampNeg = 4 * i + 1 + 0 := by rw [show (1 : Int32) = nI 1 from rfl, nI_add, pn_c (by omega)]
  have e1 : (nI (4 * i) + 2).toNatClampNeg = 4 * i + 1 + 1 := by rw [show (2 : Int32) = nI 2 from rfl, nI_add, pn_c (by omega)]
  have e2 : (nI (4 * i) + 3).toNatClampNeg = 4 * i + 1 + 2 := by rw [show (3 : Int32) = nI 3 from rfl, nI_add, pn_c (by omega)]
  have v1 : vp_in (nI (4 * i) + 1) 124 := by rw [nI_1]; exact vp_in_nI (by omega) (by omega)
  have v2 : vp_in (nI (4 * i) + 2) 124 := by rw [show (2 : Int32) = nI 2 from rfl, nI_add]; exact vp_in_nI (by omega) (by omega)
  have v3 : vp_in (nI (4 * i) + 3) 124 := by rw [show (3 : Int32) = nI 3 from rfl, nI_add]; exact vp_in_nI (by omega) (by omega)
  unfold q_X9_does
  rw [pn_c (show 4 * i < 2147483648 by omega), hl, e0, h0, e1, h1, e2, h2]
  exact ⟨v1, v2, v3, vp_in_nI (by omega) (by omega), ⟨fun z => absurd z (by decide), fun _ => ⟨fun z => absurd z (by decide), fun _ => ⟨fun _ => ⟨hq, trivial⟩, fun z => absurd rfl z⟩⟩⟩⟩
theorem pRc_4 (M : tvM) (a0 a1 a2 : Int32) : f_X6_refusalOfCommand M 1 (nI 4) a0 a1 a2 = f_X6_refusalOfCode M 1 a0 a1 a2 ∧ f_X6_carryOut M 1 (nI 4) a0 a1 a2 = (f_X6_recode M 1 a0 a2).2 := by
  unfold f_X6_refusalOfCommand f_X6_carryOut
  constructor
  · rw [if_neg (show ¬ nI 4 = 0 by decide), if_neg (show ¬ nI 4 = 1 by decide), if_neg (show ¬ nI 4 = 2 by decide), if_neg (show ¬ nI 4 = 3 by decide), if_pos (show nI 4 = 4 from rfl)]
  · rw [if_neg (show ¬ nI 4 = 0 by decide), if_neg (show ¬ nI 4 = 1 by decide), if_neg (show ¬ nI 4 = 2 by decide), if_neg (show ¬ nI 4 = 3 by decide), if_pos (show nI 4 = 4 from rfl)]
theorem pDo_5 {N : tvM} {i : Nat} (hi : i ≤ 29) (hl : tgi N 256 (4 * i) = nI 112) {a0 a1 : Int32} (h0 : tgi N 256 (4 * i + 1 + 0) = a0) (h1 : tgi N 256 (4 * i + 1 + 1) = a1) : f_X9_does N (nI (4 * i)) = f_X9_deposits N a0 a1 := by
  have e0 : (nI (4 * i) + 1).toNatClampNeg = 4 * i + 1 + 0 := by rw [show (1 : Int32) = nI 1 from rfl, nI_add, pn_c (by omega)]
  have e1 : (nI (4 * i) + 2).toNatClampNeg = 4 * i + 1 + 1 := by rw [show (2 : Int32) = nI 2 from rfl, nI_add, pn_c (by omega)]
  unfold f_X9_does
  rw [pn_c (show 4 * i < 2147483648 by omega), hl, if_neg (show ¬ nI 112 = 97 by decide), if_neg (show ¬ nI 112 = 98 by decide), if_neg (show ¬ nI 112 = 99 by decide), if_neg (show ¬ nI 112 = 100 by decide), if_neg (show ¬ nI 112 = 101 by decide), if_neg (show ¬ nI 112 = 102 by decide), if_neg (show ¬ nI 112 = 103 by decide), if_neg (show ¬ nI 112 = 104 by decide), if_neg (show ¬ nI 112 = 105 by decide), if_neg (show ¬ nI 112 = 106 by decide), if_neg (show ¬ nI 112 = 107 by decide), if_neg (show ¬ nI 112 = 108 by decide), if_neg (show ¬ nI 112 = 109 by decide), if_neg (show ¬ nI 112 = 110 by decide), if_neg (show ¬ nI 112 = 111 by decide), if_pos (show nI 112 = 112 from rfl), e0, h0, e1, h1]
theorem pDq_5 {N : tvM} {i : Nat} (hi : i ≤ 29) (hl : tgi N 256 (4 * i) = nI 112) {a0 a1 : Int32} (h0 : tgi N 256 (4 * i + 1 + 0) = a0) (h1 : tgi N 256 (4 * i + 1 + 1) = a1) (hq : q_X9_deposits N a0 a1) : q_X9_does N (nI (4 * i)) := by
  have e0 : (nI (4 * i) + 1).toNatClampNeg = 4 * i + 1 + 0 := by rw [show (1 : Int32) = nI 1 from rfl, nI_add, pn_c (by omega)]
  have e1 : (nI (4 * i) + 2).toNatClampNeg = 4 * i + 1 + 1 := by rw [show (2 : Int32) = nI 2 from rfl, nI_add, pn_c (by omega)]
  have v1 : vp_in (nI (4 * i) + 1) 124 := by rw [nI_1]; exact vp_in_nI (by omega) (by omega)
  have v2 : vp_in (nI (4 * i) + 2) 124 := by rw [show (2 : Int32) = nI 2 from rfl, nI_add]; exact vp_in_nI (by omega) (by omega)
  have v3 : vp_in (nI (4 * i) + 3) 124 := by rw [show (3 : Int32) = nI 3 from rfl, nI_add]; exact vp_in_nI (by omega) (by omega)
  unfold q_X9_does
  rw [pn_c (show 4 * i < 2147483648 by omega), hl, e0, h0, e1, h1]
  exact ⟨v1, v2, v3, vp_in_nI (by omega) (by omega), ⟨fun z => absurd z (by decide), fun _ => ⟨fun z => absurd z (by decide), fun _ => ⟨fun z => absurd z (by decide), fun _ => ⟨fun z => absurd z (by decide), fun _ => ⟨fun z => absurd z (by decide), fun _ => ⟨fun z => absurd z (by decide), fun _ => ⟨fun z => absurd z (by decide), fun _ => ⟨fun z => absurd z (by decide), fun _ => ⟨fun z => absurd z (by decide), fun _ => ⟨fun z => absurd z (by decide), fun _ => ⟨fun z => absurd z (by decide), fun _ => ⟨fun z => absurd z (by decide), fun _ => ⟨fun z => absurd z (by decide), fun _ => ⟨fun z => absurd z (by decide), fun _ => ⟨fun z => absurd z (by decide), fun _ => ⟨fun _ => ⟨hq, trivial⟩, fun z => absurd rfl z⟩⟩⟩⟩⟩⟩⟩⟩⟩⟩⟩⟩⟩⟩⟩⟩⟩
theorem pRc_5 (M : tvM) (a0 a1 a2 : Int32) : f_X6_refusalOfCommand M 1 (nI 5) a0 a1 a2 = f_X6_refusalOfPut M 1 a0 a1 ∧ f_X6_carryOut M 1 (nI 5) a0 a1 a2 = (f_X6_put M 1 a0 a1).2 := by
  unfold f_X6_refusalOfCommand f_X6_carryOut
  constructor
  · rw [if_neg (show ¬ nI 5 = 0 by decide), if_neg (show ¬ nI 5 = 1 by decide), if_neg (show ¬ nI 5 = 2 by decide), if_neg (show ¬ nI 5 = 3 by decide), if_neg (show ¬ nI 5 = 4 by decide), if_pos (show nI 5 = 5 from rfl)]
  · rw [if_neg (show ¬ nI 5 = 0 by decide), if_neg (show ¬ nI 5 = 1 by decide), if_neg (show ¬ nI 5 = 2 by decide), if_neg (show ¬ nI 5 = 3 by decide), if_neg (show ¬ nI 5 = 4 by decide), if_pos (show nI 5 = 5 from rfl)]
theorem pDo_6 {N : tvM} {i : Nat} (hi : i ≤ 29) (hl : tgi N 256 (4 * i) = nI 97) {a0 : Int32} (h0 : tgi N 256 (4 * i + 1 + 0) = a0) : f_X9_does N (nI (4 * i)) = f_X9_withdraws N a0 := by
  have e0 : (nI (4 * i) + 1).toNatClampNeg = 4 * i + 1 + 0 := by rw [show (1 : Int32) = nI 1 from rfl, nI_add, pn_c (by omega)]
  unfold f_X9_does
  rw [pn_c (show 4 * i < 2147483648 by omega), hl, if_pos (show nI 97 = 97 from rfl), e0, h0]
theorem pDq_6 {N : tvM} {i : Nat} (hi : i ≤ 29) (hl : tgi N 256 (4 * i) = nI 97) {a0 : Int32} (h0 : tgi N 256 (4 * i + 1 + 0) = a0) (hq : q_X9_withdraws N a0) : q_X9_does N (nI (4 * i)) := by
  have e0 : (nI (4 * i) + 1).toNatClampNeg = 4 * i + 1 + 0 := by rw [show (1 : Int32) = nI 1 from rfl, nI_add, pn_c (by omega)]
  have v1 : vp_in (nI (4 * i) + 1) 124 := by rw [nI_1]; exact vp_in_nI (by omega) (by omega)
  have v2 : vp_in (nI (4 * i) + 2) 124 := by rw [show (2 : Int32) = nI 2 from rfl, nI_add]; exact vp_in_nI (by omega) (by omega)
  have v3 : vp_in (nI (4 * i) + 3) 124 := by rw [show (3 : Int32) = nI 3 from rfl, nI_add]; exact vp_in_nI (by omega) (by omega)
  unfold q_X9_does
  rw [pn_c (show 4 * i < 2147483648 by omega), hl, e0, h0]
  exact ⟨v1, v2, v3, vp_in_nI (by omega) (by omega), ⟨fun _ => ⟨hq, trivial⟩, fun z => absurd rfl z⟩⟩
theorem pRc_6 (M : tvM) (a0 a1 a2 : Int32) : f_X6_refusalOfCommand M 1 (nI 6) a0 a1 a2 = f_X6_refusalOfTake M 1 a0 ∧ f_X6_carryOut M 1 (nI 6) a0 a1 a2 = (f_X6_take M 1 a0).2 := by
  unfold f_X6_refusalOfCommand f_X6_carryOut
  constructor
  · rw [if_neg (show ¬ nI 6 = 0 by decide), if_neg (show ¬ nI 6 = 1 by decide), if_neg (show ¬ nI 6 = 2 by decide), if_neg (show ¬ nI 6 = 3 by decide), if_neg (show ¬ nI 6 = 4 by decide), if_neg (show ¬ nI 6 = 5 by decide), if_pos (show nI 6 = 6 from rfl)]
  · rw [if_neg (show ¬ nI 6 = 0 by decide), if_neg (show ¬ nI 6 = 1 by decide), if_neg (show ¬ nI 6 = 2 by decide), if_neg (show ¬ nI 6 = 3 by decide), if_neg (show ¬ nI 6 = 4 by decide), if_neg (show ¬ nI 6 = 5 by decide), if_pos (show nI 6 = 6 from rfl)]
theorem pDo_7 {N : tvM} {i : Nat} (hi : i ≤ 29) (hl : tgi N 256 (4 * i) = nI 108) {a0 : Int32} (h0 : tgi N 256 (4 * i + 1 + 0) = a0) : f_X9_does N (nI (4 * i)) = f_X9_closes N a0 := by
  have e0 : (nI (4 * i) + 1).toNatClampNeg = 4 * i + 1 + 0 := by rw [show (1 : Int32) = nI 1 from rfl, nI_add, pn_c (by omega)]
  unfold f_X9_does
  rw [pn_c (show 4 * i < 2147483648 by omega), hl, if_neg (show ¬ nI 108 = 97 by decide), if_neg (show ¬ nI 108 = 98 by decide), if_neg (show ¬ nI 108 = 99 by decide), if_neg (show ¬ nI 108 = 100 by decide), if_neg (show ¬ nI 108 = 101 by decide), if_neg (show ¬ nI 108 = 102 by decide), if_neg (show ¬ nI 108 = 103 by decide), if_neg (show ¬ nI 108 = 104 by decide), if_neg (show ¬ nI 108 = 105 by decide), if_neg (show ¬ nI 108 = 106 by decide), if_neg (show ¬ nI 108 = 107 by decide), if_pos (show nI 108 = 108 from rfl), e0, h0]
theorem pDq_7 {N : tvM} {i : Nat} (hi : i ≤ 29) (hl : tgi N 256 (4 * i) = nI 108) {a0 : Int32} (h0 : tgi N 256 (4 * i + 1 + 0) = a0) (hq : q_X9_closes N a0) : q_X9_does N (nI (4 * i)) := by
  have e0 : (nI (4 * i) + 1).toNatClampNeg = 4 * i + 1 + 0 := by rw [show (1 : Int32) = nI 1 from rfl, nI_add, pn_c (by omega)]
  have v1 : vp_in (nI (4 * i) + 1) 124 := by rw [nI_1]; exact vp_in_nI (by omega) (by omega)
  have v2 : vp_in (nI (4 * i) + 2) 124 := by rw [show (2 : Int32) = nI 2 from rfl, nI_add]; exact vp_in_nI (by omega) (by omega)
  have v3 : vp_in (nI (4 * i) + 3) 124 := by rw [show (3 : Int32) = nI 3 from rfl, nI_add]; exact vp_in_nI (by omega) (by omega)
  unfold q_X9_does
  rw [pn_c (show 4 * i < 2147483648 by omega), hl, e0, h0]
  exact ⟨v1, v2, v3, vp_in_nI (by omega) (by omega), ⟨fun z => absurd z (by decide), fun _ => ⟨fun z => absurd z (by decide), fun _ => ⟨fun z => absurd z (by decide), fun _ => ⟨fun z => absurd z (by decide), fun _ => ⟨fun z => absurd z (by decide), fun _ => ⟨fun z => absurd z (by decide), fun _ => ⟨fun z => absurd z (by decide), fun _ => ⟨fun z => absurd z (by decide), fun _ => ⟨fun z => absurd z (by decide), fun _ => ⟨fun z => absurd z (by decide), fun _ => ⟨fun z => absurd z (by decide), fun _ => ⟨fun _ => ⟨hq, trivial⟩, fun z => absurd rfl z⟩⟩⟩⟩⟩⟩⟩⟩⟩⟩⟩⟩⟩
theorem pRc_7 (M : tvM) (a0 a1 a2 : Int32) : f_X6_refusalOfCommand M 1 (nI 7) a0 a1 a2 = f_X6_refusalOfClose M 1 a0 ∧ f_X6_carryOut M 1 (nI 7) a0 a1 a2 = (f_X6_shut M 1 a0).2 := by
  unfold f_X6_refusalOfCommand f_X6_carryOut
  constructor
  · rw [if_neg (show ¬ nI 7 = 0 by decide), if_neg (show ¬ nI 7 = 1 by decide), if_neg (show ¬ nI 7 = 2 by decide), if_neg (show ¬ nI 7 = 3 by decide), if_neg (show ¬ nI 7 = 4 by decide), if_neg (show ¬ nI 7 = 5 by decide), if_neg (show ¬ nI 7 = 6 by decide), if_pos (show nI 7 = 7 from rfl)]
  · rw [if_neg (show ¬ nI 7 = 0 by decide), if_neg (show ¬ nI 7 = 1 by decide), if_neg (show ¬ nI 7 = 2 by decide), if_neg (show ¬ nI 7 = 3 by decide), if_neg (show ¬ nI 7 = 4 by decide), if_neg (show ¬ nI 7 = 5 by decide), if_neg (show ¬ nI 7 = 6 by decide), if_pos (show nI 7 = 7 from rfl)]
theorem pDo_8 {N : tvM} {i : Nat} (hi : i ≤ 29) (hl : tgi N 256 (4 * i) = nI 119) {a0 : Int32} (h0 : tgi N 256 (4 * i + 1 + 0) = a0) : f_X9_does N (nI (4 * i)) = f_X9_waits N a0 := by
  have e0 : (nI (4 * i) + 1).toNatClampNeg = 4 * i + 1 + 0 := by rw [show (1 : Int32) = nI 1 from rfl, nI_add, pn_c (by omega)]
  unfold f_X9_does
  rw [pn_c (show 4 * i < 2147483648 by omega), hl, if_neg (show ¬ nI 119 = 97 by decide), if_neg (show ¬ nI 119 = 98 by decide), if_neg (show ¬ nI 119 = 99 by decide), if_neg (show ¬ nI 119 = 100 by decide), if_neg (show ¬ nI 119 = 101 by decide), if_neg (show ¬ nI 119 = 102 by decide), if_neg (show ¬ nI 119 = 103 by decide), if_neg (show ¬ nI 119 = 104 by decide), if_neg (show ¬ nI 119 = 105 by decide), if_neg (show ¬ nI 119 = 106 by decide), if_neg (show ¬ nI 119 = 107 by decide), if_neg (show ¬ nI 119 = 108 by decide), if_neg (show ¬ nI 119 = 109 by decide), if_neg (show ¬ nI 119 = 110 by decide), if_neg (show ¬ nI 119 = 111 by decide), if_neg (show ¬ nI 119 = 112 by decide), if_neg (show ¬ nI 119 = 113 by decide), if_neg (show ¬ nI 119 = 114 by decide), if_neg (show ¬ nI 119 = 115 by decide), if_neg (show ¬ nI 119 = 116 by decide), e0, h0]
theorem pDq_8 {N : tvM} {i : Nat} (hi : i ≤ 29) (hl : tgi N 256 (4 * i) = nI 119) {a0 : Int32} (h0 : tgi N 256 (4 * i + 1 + 0) = a0) (hq : q_X9_waits N a0) : q_X9_does N (nI (4 * i)) := by
  have e0 : (nI (4 * i) + 1).toNatClampNeg = 4 * i + 1 + 0 := by rw [show (1 : Int32) = nI 1 from rfl, nI_add, pn_c (by omega)]
  have v1 : vp_in (nI (4 * i) + 1) 124 := by rw [nI_1]; exact vp_in_nI (by omega) (by omega)
  have v2 : vp_in (nI (4 * i) + 2) 124 := by rw [show (2 : Int32) = nI 2 from rfl, nI_add]; exact vp_in_nI (by omega) (by omega)
  have v3 : vp_in (nI (4 * i) + 3) 124 := by rw [show (3 : Int32) = nI 3 from rfl, nI_add]; exact vp_in_nI (by omega) (by omega)
  unfold q_X9_does
  rw [pn_c (show 4 * i < 2147483648 by omega), hl, e0, h0]
  exact ⟨v1, v2, v3, vp_in_nI (by omega) (by omega), ⟨fun z => absurd z (by decide), fun _ => ⟨fun z => absurd z (by decide), fun _ => ⟨fun z => absurd z (by decide), fun _ => ⟨fun z => absurd z (by decide), fun _ => ⟨fun z => absurd z (by decide), fun _ => ⟨fun z => absurd z (by decide), fun _ => ⟨fun z => absurd z (by decide), fun _ => ⟨fun z => absurd z (by decide), fun _ => ⟨fun z => absurd z (by decide), fun _ => ⟨fun z => absurd z (by decide), fun _ => ⟨fun z => absurd z (by decide), fun _ => ⟨fun z => absurd z (by decide), fun _ => ⟨fun z => absurd z (by decide), fun _ => ⟨fun z => absurd z (by decide), fun _ => ⟨fun z => absurd z (by decide), fun _ => ⟨fun z => absurd z (by decide), fun _ => ⟨fun z => absurd z (by decide), fun _ => ⟨fun z => absurd z (by decide), fun _ => ⟨fun z => absurd z (by decide), fun _ => ⟨fun z => absurd z (by decide), fun _ => ⟨hq, trivial⟩⟩⟩⟩⟩⟩⟩⟩⟩⟩⟩⟩⟩⟩⟩⟩⟩⟩⟩⟩⟩⟩
theorem pRc_8 (M : tvM) (a0 a1 a2 : Int32) : f_X6_refusalOfCommand M 1 (nI 8) a0 a1 a2 = f_X6_refusalOfWait M 1 a0 ∧ f_X6_carryOut M 1 (nI 8) a0 a1 a2 = (f_X6_letPass M 1 a0).2 := by
  unfold f_X6_refusalOfCommand f_X6_carryOut
  constructor
  · rw [if_neg (show ¬ nI 8 = 0 by decide), if_neg (show ¬ nI 8 = 1 by decide), if_neg (show ¬ nI 8 = 2 by decide), if_neg (show ¬ nI 8 = 3 by decide), if_neg (show ¬ nI 8 = 4 by decide), if_neg (show ¬ nI 8 = 5 by decide), if_neg (show ¬ nI 8 = 6 by decide), if_neg (show ¬ nI 8 = 7 by decide)]
  · rw [if_neg (show ¬ nI 8 = 0 by decide), if_neg (show ¬ nI 8 = 1 by decide), if_neg (show ¬ nI 8 = 2 by decide), if_neg (show ¬ nI 8 = 3 by decide), if_neg (show ¬ nI 8 = 4 by decide), if_neg (show ¬ nI 8 = 5 by decide), if_neg (show ¬ nI 8 = 6 by decide), if_neg (show ¬ nI 8 = 7 by decide)]
