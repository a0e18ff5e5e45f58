/-- the command (v, a0, a1, a2) at place i of the program, carried out from the state s on both sides -/
def pStp (B : Nat) (c : Nat → Nat → Int32) (l : Int64) (s : Nat → Nat) (v i : Nat) (a0 a1 a2 : Int32) (Mk M' : tvM) (t : Int32) : Prop :=
  (f_X6_refusalOfCommand (puC Mk 1 c l) 1 (nI v) a0 a1 a2 = 0 ∧ ∃ (c' : Nat → Nat → Int32) (l' : Int64) (s' : Nat → Nat) (w : Nat), f_X6_carryOut (puC Mk 1 c l) 1 (nI v) a0 a1 a2 = puC Mk 1 c' l' ∧ q_X9_does (puN M' s t) (nI (4 * i)) ∧ f_X9_does (puN M' s t) (nI (4 * i)) = (nI w, puN M' s' (nI 0)) ∧ pOk (B + 240) c' l' s') ∨
  (∃ (r : Int32) (k : Nat) (s' : Nat → Nat), f_X6_refusalOfCommand (puC Mk 1 c l) 1 (nI v) a0 a1 a2 = r ∧ r ≠ 0 ∧ (r = 4 ↔ k = 4) ∧ 1 ≤ k ∧ k ≤ 4 ∧ q_X9_does (puN M' s t) (nI (4 * i)) ∧ f_X9_does (puN M' s t) (nI (4 * i)) = (nI 0, puN M' s' (nI k)) ∧ ∀ j, s' j < 2147483648)
theorem pStp_0 {B : Nat} {c : Nat → Nat → Int32} {l : Int64} {s : Nat → Nat} (hR : pOk B c l s) (hB : B + 240 ≤ 10000000) {i : Nat} (hi : i ≤ 29) (Mk M' : tvM) (t a0 a1 a2 : Int32) (hl : tgi (puN M' s t) 256 (4 * i) = nI 104) (h0 : tgi (puN M' s t) 256 (4 * i + 1 + 0) = a0) : pStp B c l s 0 i a0 a1 a2 Mk M' t := by
  rcases pSim_holds 1 hR hB a0 Mk Mk M' t with ⟨a1', w, c', l', s', hv, a3, a4, a5, a6⟩ | ⟨p, hp, a1', a4, a5⟩ | ⟨a1', c', l', s', a3, a4, a5, a6⟩
  · exact Or.inl ⟨(pRc_0 _ a0 a1 a2).1.trans a1', c', l', s', w, (pRc_0 _ a0 a1 a2).2.trans (congrArg Prod.snd a3), pDq_0 hi hl h0 a4, (pDo_0 hi hl h0).trans a5, a6⟩
  · simp only [List.mem_cons, List.not_mem_nil, or_false] at hp
    rcases hp with rfl | rfl
    · exact Or.inr ⟨_, _, s, (pRc_0 _ a0 a1 a2).1.trans a1', by decide, by decide, by decide, by decide, pDq_0 hi hl h0 a4, (pDo_0 hi hl h0).trans a5, hR.1.1⟩
    · exact Or.inr ⟨_, _, s, (pRc_0 _ a0 a1 a2).1.trans a1', by decide, by decide, by decide, by decide, pDq_0 hi hl h0 a4, (pDo_0 hi hl h0).trans a5, hR.1.1⟩
  · exact Or.inr ⟨4, 4, s', (pRc_0 _ a0 a1 a2).1.trans a1', by decide, by decide, by decide, by decide, pDq_0 hi hl h0 a4, (pDo_0 hi hl h0).trans a5, a6.1.1⟩
theorem pStp_1 {B : Nat} {c : Nat → Nat → Int32} {l : Int64} {s : Nat → Nat} (hR : pOk B c l s) (hB : B + 240 ≤ 10000000) {i : Nat} (hi : i ≤ 29) (Mk M' : tvM) (t a0 a1 a2 : Int32) (hl : tgi (puN M' s t) 256 (4 * i) = nI 98) (h0 : tgi (puN M' s t) 256 (4 * i + 1 + 0) = a0) (h1 : tgi (puN M' s t) 256 (4 * i + 1 + 1) = a1) (h2 : tgi (puN M' s t) 256 (4 * i + 1 + 2) = a2) : pStp B c l s 1 i a0 a1 a2 Mk M' t := by
  rcases pSim_boxed 1 hR hB a0 a1 a2 Mk Mk M' t with ⟨a1', w, c', l', s', hv, a3, a4, a5, a6⟩ | ⟨p, hp, a1', a4, a5⟩ | ⟨a1', c', l', s', a3, a4, a5, a6⟩
  · exact Or.inl ⟨(pRc_1 _ a0 a1 a2).1.trans a1', c', l', s', w, (pRc_1 _ a0 a1 a2).2.trans (congrArg Prod.snd a3), pDq_1 hi hl h0 h1 h2 a4, (pDo_1 hi hl h0 h1 h2).trans a5, a6⟩
  · simp only [List.mem_cons, List.not_mem_nil, or_false] at hp
    rcases hp with rfl | rfl | rfl
    · exact Or.inr ⟨_, _, s, (pRc_1 _ a0 a1 a2).1.trans a1', by decide, by decide, by decide, by decide, pDq_1 hi hl h0 h1 h2 a4, (pDo_1 hi hl h0 h1 h2).trans a5, hR.1.1⟩
    · exact Or.inr ⟨_, _, s, (pRc_1 _ a0 a1 a2).1.trans a1', by decide, by decide, by decide, by decide, pDq_1 hi hl h0 h1 h2 a4, (pDo_1 hi hl h0 h1 h2).trans a5, hR.1.1⟩
    · exact Or.inr ⟨_, _, s, (pRc_1 _ a0 a1 a2).1.trans a1', by decide, by decide, by decide, by decide, pDq_1 hi hl h0 h1 h2 a4, (pDo_1 hi hl h0 h1 h2).trans a5, hR.1.1⟩
  · exact Or.inr ⟨4, 4, s', (pRc_1 _ a0 a1 a2).1.trans a1', by decide, by decide, by decide, by decide, pDq_1 hi hl h0 h1 h2 a4, (pDo_1 hi hl h0 h1 h2).trans a5, a6.1.1⟩
theorem pStp_2 {B : Nat} {c : Nat → Nat → Int32} {l : Int64} {s : Nat → Nat} (hR : pOk B c l s) (hB : B + 240 ≤ 10000000) {i : Nat} (hi : i ≤ 29) (Mk M' : tvM) (t a0 a1 a2 : Int32) (hl : tgi (puN M' s t) 256 (4 * i) = nI 105) (h0 : tgi (puN M' s t) 256 (4 * i + 1 + 0) = a0) (h1 : tgi (puN M' s t) 256 (4 * i + 1 + 1) = a1) : pStp B c l s 2 i a0 a1 a2 Mk M' t := by
  rcases pSim_tides 1 hR hB a0 a1 Mk Mk M' t with ⟨a1', w, c', l', s', hv, a3, a4, a5, a6⟩ | ⟨p, hp, a1', a4, a5⟩ | ⟨a1', c', l', s', a3, a4, a5, a6⟩
  · exact Or.inl ⟨(pRc_2 _ a0 a1 a2).1.trans a1', c', l', s', w, (pRc_2 _ a0 a1 a2).2.trans (congrArg Prod.snd a3), pDq_2 hi hl h0 h1 , (pDo_2 hi hl h0 h1).trans a5, a6⟩
  · simp only [List.mem_cons, List.not_mem_nil, or_false] at hp
    subst hp
    · exact Or.inr ⟨_, _, s, (pRc_2 _ a0 a1 a2).1.trans a1', by decide, by decide, by decide, by decide, pDq_2 hi hl h0 h1 , (pDo_2 hi hl h0 h1).trans a5, hR.1.1⟩
  · exact Or.inr ⟨4, 4, s', (pRc_2 _ a0 a1 a2).1.trans a1', by decide, by decide, by decide, by decide, pDq_2 hi hl h0 h1 , (pDo_2 hi hl h0 h1).trans a5, a6.1.1⟩
theorem pStp_3 {B : Nat} {c : Nat → Nat → Int32} {l : Int64} {s : Nat → Nat} (hR : pOk B c l s) (hB : B + 240 ≤ 10000000) {i : Nat} (hi : i ≤ 29) (Mk M' : tvM) (t a0 a1 a2 : Int32) (hl : tgi (puN M' s t) 256 (4 * i) = nI 116) (h0 : tgi (puN M' s t) 256 (4 * i + 1 + 0) = a0) (h1 : tgi (puN M' s t) 256 (4 * i + 1 + 1) = a1) (h2 : tgi (puN M' s t) 256 (4 * i + 1 + 2) = a2) : pStp B c l s 3 i a0 a1 a2 Mk M' t := by
  rcases pSim_turns 1 hR hB a0 a1 a2 Mk Mk M' t with ⟨a1', w, c', l', s', hv, a3, a4, a5, a6⟩ | ⟨p, hp, a1', a4, a5⟩ | ⟨a1', c', l', s', a3, a4, a5, a6⟩
  · exact Or.inl ⟨(pRc_3 _ a0 a1 a2).1.trans a1', c', l', s', w, (pRc_3 _ a0 a1 a2).2.trans (congrArg Prod.snd a3), pDq_3 hi hl h0 h1 h2 a4, (pDo_3 hi hl h0 h1 h2).trans a5, a6⟩
  · simp only [List.mem_cons, List.not_mem_nil, or_false] at hp
    rcases hp with rfl | rfl | rfl
    · exact Or.inr ⟨_, _, s, (pRc_3 _ a0 a1 a2).1.trans a1', by decide, by decide, by decide, by decide, pDq_3 hi hl h0 h1 h2 a4, (pDo_3 hi hl h0 h1 h2).trans a5, hR.1.1⟩
    · exact Or.inr ⟨_, _, s, (pRc_3 _ a0 a1 a2).1.trans a1', by decide, by decide, by decide, by decide, pDq_3 hi hl h0 h1 h2 a4, (pDo_3 hi hl h0 h1 h2).trans a5, hR.1.1⟩
    · exact Or.inr ⟨_, _, s, (pRc_3 _ a0 a1 a2).1.trans a1', by decide, by decide, by decide, by decide, pDq_3 hi hl h0 h1 h2 a4, (pDo_3 hi hl h0 h1 h2).trans a5, hR.1.1⟩
  · exact Or.inr ⟨4, 4, s', (pRc_3 _ a0 a1 a2).1.trans a1', by decide, by decide, by decide, by decide, pDq_3 hi hl h0 h1 h2 a4, (pDo_3 hi hl h0 h1 h2).trans a5, a6.1.1⟩
theorem pStp_4 {B : Nat} {c : Nat → Nat → Int32} {l : Int64} {s : Nat → Nat} (hR : pOk B c l s) (hB : B + 240 ≤ 10000000) {i : Nat} (hi : i ≤ 29) (Mk M' : tvM) (t a0 a1 a2 : Int32) (hl : tgi (puN M' s t) 256 (4 * i) = nI 99) (h0 : tgi (puN M' s t) 256 (4 * i + 1 + 0) = a0) (h1 : tgi (puN M' s t) 256 (4 * i + 1 + 1) = a1) (h2 : tgi (puN M' s t) 256 (4 * i + 1 + 2) = a2) : pStp B c l s 4 i a0 a1 a2 Mk M' t := by
  rcases pSim_codes 1 hR hB a0 a1 a2 Mk Mk M' t with ⟨a1', w, c', l', s', hv, a3, a4, a5, a6⟩ | ⟨p, hp, a1', a4, a5⟩ | ⟨a1', c', l', s', a3, a4, a5, a6⟩
  · exact Or.inl ⟨(pRc_4 _ a0 a1 a2).1.trans a1', c', l', s', w, (pRc_4 _ a0 a1 a2).2.trans (congrArg Prod.snd a3), pDq_4 hi hl h0 h1 h2 a4, (pDo_4 hi hl h0 h1 h2).trans a5, a6⟩
  · simp only [List.mem_cons, List.not_mem_nil, or_false] at hp
    rcases hp with rfl | rfl | rfl
    · exact Or.inr ⟨_, _, s, (pRc_4 _ a0 a1 a2).1.trans a1', by decide, by decide, by decide, by decide, pDq_4 hi hl h0 h1 h2 a4, (pDo_4 hi hl h0 h1 h2).trans a5, hR.1.1⟩
    · exact Or.inr ⟨_, _, s, (pRc_4 _ a0 a1 a2).1.trans a1', by decide, by decide, by decide, by decide, pDq_4 hi hl h0 h1 h2 a4, (pDo_4 hi hl h0 h1 h2).trans a5, hR.1.1⟩
    · exact Or.inr ⟨_, _, s, (pRc_4 _ a0 a1 a2).1.trans a1', by decide, by decide, by decide, by decide, pDq_4 hi hl h0 h1 h2 a4, (pDo_4 hi hl h0 h1 h2).trans a5, hR.1.1⟩
  · exact Or.inr ⟨4, 4, s', (pRc_4 _ a0 a1 a2).1.trans a1', by decide, by decide, by decide, by decide, pDq_4 hi hl h0 h1 h2 a4, (pDo_4 hi hl h0 h1 h2).trans a5, a6.1.1⟩
theorem pStp_5 {B : Nat} {c : Nat → Nat → Int32} {l : Int64} {s : Nat → Nat} (hR : pOk B c l s) (hB : B + 240 ≤ 10000000) {i : Nat} (hi : i ≤ 29) (Mk M' : tvM) (t a0 a1 a2 : Int32) (hl : tgi (puN M' s t) 256 (4 * i) = nI 112) (h0 : tgi (puN M' s t) 256 (4 * i + 1 + 0) = a0) (h1 : tgi (puN M' s t) 256 (4 * i + 1 + 1) = a1) : pStp B c l s 5 i a0 a1 a2 Mk M' t := by
  rcases pSim_deposits 1 hR hB a0 a1 Mk Mk M' t with ⟨a1', w, c', l', s', hv, a3, a4, a5, a6⟩ | ⟨p, hp, a1', a4, a5⟩ | ⟨a1', c', l', s', a3, a4, a5, a6⟩
  · exact Or.inl ⟨(pRc_5 _ a0 a1 a2).1.trans a1', c', l', s', w, (pRc_5 _ a0 a1 a2).2.trans (congrArg Prod.snd a3), pDq_5 hi hl h0 h1 a4, (pDo_5 hi hl h0 h1).trans a5, a6⟩
  · simp only [List.mem_cons, List.not_mem_nil, or_false] at hp
    rcases hp with rfl | rfl | rfl
    · exact Or.inr ⟨_, _, s, (pRc_5 _ a0 a1 a2).1.trans a1', by decide, by decide, by decide, by decide, pDq_5 hi hl h0 h1 a4, (pDo_5 hi hl h0 h1).trans a5, hR.1.1⟩
    · exact Or.inr ⟨_, _, s, (pRc_5 _ a0 a1 a2).1.trans a1', by decide, by decide, by decide, by decide, pDq_5 hi hl h0 h1 a4, (pDo_5 hi hl h0 h1).trans a5, hR.1.1⟩
    · exact Or.inr ⟨_, _, s, (pRc_5 _ a0 a1 a2).1.trans a1', by decide, by decide, by decide, by decide, pDq_5 hi hl h0 h1 a4, (pDo_5 hi hl h0 h1).trans a5, hR.1.1⟩
  · exact Or.inr ⟨4, 4, s', (pRc_5 _ a0 a1 a2).1.trans a1', by decide, by decide, by decide, by decide, pDq_5 hi hl h0 h1 a4, (pDo_5 hi hl h0 h1).trans a5, a6.1.1⟩
theorem pStp_6 {B : Nat} {c : Nat → Nat → Int32} {l : Int64} {s : Nat → Nat} (hR : pOk B c l s) (hB : B + 240 ≤ 10000000) {i : Nat} (hi : i ≤ 29) (Mk M' : tvM) (t a0 a1 a2 : Int32) (hl : tgi (puN M' s t) 256 (4 * i) = nI 97) (h0 : tgi (puN M' s t) 256 (4 * i + 1 + 0) = a0) : pStp B c l s 6 i a0 a1 a2 Mk M' t := by
  rcases pSim_withdraws 1 hR hB a0 Mk Mk M' t with ⟨a1', w, c', l', s', hv, a3, a4, a5, a6⟩ | ⟨p, hp, a1', a4, a5⟩ | ⟨a1', c', l', s', a3, a4, a5, a6⟩
  · exact Or.inl ⟨(pRc_6 _ a0 a1 a2).1.trans a1', c', l', s', w, (pRc_6 _ a0 a1 a2).2.trans (congrArg Prod.snd a3), pDq_6 hi hl h0 a4, (pDo_6 hi hl h0).trans a5, a6⟩
  · simp only [List.mem_cons, List.not_mem_nil, or_false] at hp
    rcases hp with rfl | rfl | rfl
    · exact Or.inr ⟨_, _, s, (pRc_6 _ a0 a1 a2).1.trans a1', by decide, by decide, by decide, by decide, pDq_6 hi hl h0 a4, (pDo_6 hi hl h0).trans a5, hR.1.1⟩
    · exact Or.inr ⟨_, _, s, (pRc_6 _ a0 a1 a2).1.trans a1', by decide, by decide, by decide, by decide, pDq_6 hi hl h0 a4, (pDo_6 hi hl h0).trans a5, hR.1.1⟩
    · exact Or.inr ⟨_, _, s, (pRc_6 _ a0 a1 a2).1.trans a1', by decide, by decide, by decide, by decide, pDq_6 hi hl h0 a4, (pDo_6 hi hl h0).trans a5, hR.1.1⟩
  · exact Or.inr ⟨4, 4, s', (pRc_6 _ a0 a1 a2).1.trans a1', by decide, by decide, by decide, by decide, pDq_6 hi hl h0 a4, (pDo_6 hi hl h0).trans a5, a6.1.1⟩
theorem pStp_7 {B : Nat} {c : Nat → Nat → Int32} {l : Int64} {s : Nat → Nat} (hR : pOk B c l s) (hB : B + 240 ≤ 10000000) {i : Nat} (hi : i ≤ 29) (Mk M' : tvM) (t a0 a1 a2 : Int32) (hl : tgi (puN M' s t) 256 (4 * i) = nI 108) (h0 : tgi (puN M' s t) 256 (4 * i + 1 + 0) = a0) : pStp B c l s 7 i a0 a1 a2 Mk M' t := by
  rcases pSim_closes 1 hR hB a0 Mk Mk M' t with ⟨a1', w, c', l', s', hv, a3, a4, a5, a6⟩ | ⟨p, hp, a1', a4, a5⟩ | ⟨a1', c', l', s', a3, a4, a5, a6⟩
  · exact Or.inl ⟨(pRc_7 _ a0 a1 a2).1.trans a1', c', l', s', w, (pRc_7 _ a0 a1 a2).2.trans (congrArg Prod.snd a3), pDq_7 hi hl h0 a4, (pDo_7 hi hl h0).trans a5, a6⟩
  · simp only [List.mem_cons, List.not_mem_nil, or_false] at hp
    rcases hp with rfl | rfl
    · exact Or.inr ⟨_, _, s, (pRc_7 _ a0 a1 a2).1.trans a1', by decide, by decide, by decide, by decide, pDq_7 hi hl h0 a4, (pDo_7 hi hl h0).trans a5, hR.1.1⟩
    · exact Or.inr ⟨_, _, s, (pRc_7 _ a0 a1 a2).1.trans a1', by decide, by decide, by decide, by decide, pDq_7 hi hl h0 a4, (pDo_7 hi hl h0).trans a5, hR.1.1⟩
  · exact Or.inr ⟨4, 4, s', (pRc_7 _ a0 a1 a2).1.trans a1', by decide, by decide, by decide, by decide, pDq_7 hi hl h0 a4, (pDo_7 hi hl h0).trans a5, a6.1.1⟩
theorem pStp_8 {B : Nat} {c : Nat → Nat → Int32} {l : Int64} {s : Nat → Nat} (hR : pOk B c l s) (hB : B + 240 ≤ 10000000) {i : Nat} (hi : i ≤ 29) (Mk M' : tvM) (t a0 a1 a2 : Int32) (hl : tgi (puN M' s t) 256 (4 * i) = nI 119) (h0 : tgi (puN M' s t) 256 (4 * i + 1 + 0) = a0) : pStp B c l s 8 i a0 a1 a2 Mk M' t := by
  rcases pSim_waits 1 hR hB a0 Mk Mk M' t with ⟨a1', w, c', l', s', hv, a3, a4, a5, a6⟩ | ⟨p, hp, a1', a4, a5⟩ | ⟨a1', c', l', s', a3, a4, a5, a6⟩
  · exact Or.inl ⟨(pRc_8 _ a0 a1 a2).1.trans a1', c', l', s', w, (pRc_8 _ a0 a1 a2).2.trans (congrArg Prod.snd a3), pDq_8 hi hl h0 a4, (pDo_8 hi hl h0).trans a5, a6⟩
  · simp only [List.mem_cons, List.not_mem_nil, or_false] at hp
    subst hp
    · exact Or.inr ⟨_, _, s, (pRc_8 _ a0 a1 a2).1.trans a1', by decide, by decide, by decide, by decide, pDq_8 hi hl h0 a4, (pDo_8 hi hl h0).trans a5, hR.1.1⟩
  · exact Or.inr ⟨4, 4, s', (pRc_8 _ a0 a1 a2).1.trans a1', by decide, by decide, by decide, by decide, pDq_8 hi hl h0 a4, (pDo_8 hi hl h0).trans a5, a6.1.1⟩
theorem pStp_all {B : Nat} {c : Nat → Nat → Int32} {l : Int64} {s : Nat → Nat} (hR : pOk B c l s) (hB : B + 240 ≤ 10000000) {v i : Nat} (hv : v < 9) (hi : i ≤ 29) (Mk M' : tvM) (t a0 a1 a2 : Int32) (hl : tgi (puN M' s t) 256 (4 * i) = nI (pLt v)) (h0 : 0 < pNa v → tgi (puN M' s t) 256 (4 * i + 1 + 0) = a0) (h1 : 1 < pNa v → tgi (puN M' s t) 256 (4 * i + 1 + 1) = a1) (h2 : 2 < pNa v → tgi (puN M' s t) 256 (4 * i + 1 + 2) = a2) : pStp B c l s v i a0 a1 a2 Mk M' t := by
  rcases (show v = 0 ∨ v = 1 ∨ v = 2 ∨ v = 3 ∨ v = 4 ∨ v = 5 ∨ v = 6 ∨ v = 7 ∨ v = 8 by omega) with rfl | rfl | rfl | rfl | rfl | rfl | rfl | rfl | rfl
  · exact pStp_0 hR hB hi Mk M' t a0 a1 a2 hl (h0 (by decide))
  · exact pStp_1 hR hB hi Mk M' t a0 a1 a2 hl (h0 (by decide)) (h1 (by decide)) (h2 (by decide))
  · exact pStp_2 hR hB hi Mk M' t a0 a1 a2 hl (h0 (by decide)) (h1 (by decide))
  · exact pStp_3 hR hB hi Mk M' t a0 a1 a2 hl (h0 (by decide)) (h1 (by decide)) (h2 (by decide))
  · exact pStp_4 hR hB hi Mk M' t a0 a1 a2 hl (h0 (by decide)) (h1 (by decide)) (h2 (by decide))
  · exact pStp_5 hR hB hi Mk M' t a0 a1 a2 hl (h0 (by decide)) (h1 (by decide))
  · exact pStp_6 hR hB hi Mk M' t a0 a1 a2 hl (h0 (by decide))
  · exact pStp_7 hR hB hi Mk M' t a0 a1 a2 hl (h0 (by decide))
  · exact pStp_8 hR hB hi Mk M' t a0 a1 a2 hl (h0 (by decide))
