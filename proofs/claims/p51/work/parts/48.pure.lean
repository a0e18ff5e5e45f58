/-! ===== copies of rows ===== -/
def pCp (M : tvM) (a0 i a j n : Nat) : tvM := (fun x k => if x = a ∧ j ≤ k ∧ k < j + n then M.1 a0 (i + (k - j)) else M.1 x k, M.2)
theorem tvCk_cp (M : tvM) (a0 i a j N : Nat) (h : a0 ≠ a ∨ j + N ≤ i ∨ i + N ≤ j) : ∀ n, n ≤ N → tvCk M a0 i a j n = pCp M a0 i a j n := by
  intro n
  induction n with
  | zero =>
    intro _
    refine Prod.ext ?_ rfl
    funext x k
    show M.1 x k = if x = a ∧ j ≤ k ∧ k < j + 0 then _ else M.1 x k
    rw [if_neg (by omega)]
  | succ n ih =>
    intro hn
    show tpi (tvCk M a0 i a j n) a (j + n) (tgi (tvCk M a0 i a j n) a0 (i + n)) = _
    rw [ih (by omega)]
    have e : tgi (pCp M a0 i a j n) a0 (i + n) = M.1 a0 (i + n) := by
      show (if a0 = a ∧ j ≤ i + n ∧ i + n < j + n then _ else M.1 a0 (i + n)) = _
      rw [if_neg (by omega)]
    rw [e]
    refine Prod.ext ?_ rfl
    funext x k
    show (if x = a ∧ k = j + n then M.1 a0 (i + n) else if x = a ∧ j ≤ k ∧ k < j + n then M.1 a0 (i + (k - j)) else M.1 x k) = (if x = a ∧ j ≤ k ∧ k < j + (n + 1) then M.1 a0 (i + (k - j)) else M.1 x k)
    by_cases h1 : x = a ∧ k = j + n
    · rw [if_pos h1, if_pos (by omega), h1.2, Nat.add_sub_cancel_left]
    · rw [if_neg h1]
      by_cases h2 : x = a ∧ j ≤ k ∧ k < j + n
      · rw [if_pos h2, if_pos (by omega)]
      · rw [if_neg h2, if_neg (by omega)]
theorem px_copies (M : tvM) {a0 a i j : Nat} (h : a0 ≠ a ∨ j + 202 ≤ i ∨ i + 202 ≤ j) (hi : i < 2147483648) (hj : j < 2147483648) : f_X9_copies M a0 (nI i) a (nI j) = pCp M a0 i a j 202 := by
  unfold f_X9_copies
  rw [pn_c hi, pn_c hj]
  exact tvCk_cp M a0 i a j 202 h 202 (Nat.le_refl _)
/-! ===== a State copied ===== -/
/-- the block b as it lies in a memory -/
def pV (M : tvM) (b : Nat) : Nat → Nat → Int32 := fun p k => M.1 (b + p) k
def pL (M : tvM) (b : Nat) : Int64 := M.2.1 b 8
/-- what counts of a block -/
def pRel (p k : Nat) : Prop := (p = 0 ∧ 4 ≤ k ∧ k ≤ 7) ∨ (p = 1 ∧ k < 2) ∨ ((p = 2 ∨ p = 6) ∧ k = 0) ∨ (3 ≤ p ∧ p ≤ 5 ∧ k < 8) ∨ (7 ≤ p ∧ p ≤ 14 ∧ k < 10) ∨ (p = 15 ∧ k < 50) ∨ (p = 16 ∧ k < 2) ∨ (17 ≤ p ∧ p ≤ 19 ∧ k < 12)
theorem pOk_cc {B : Nat} {c c' : Nat → Nat → Int32} {l : Int64} {s : Nat → Nat} (hR : pOk B c l s) (h : ∀ p k, pRel p k → c' p k = c p k) : pOk B c' l s := by
  obtain ⟨⟨hb, hs, hh, hx, he, hsum⟩, ⟨hc, hch, hcx, hcl⟩⟩ := id hR
  have hs' := hs
  obtain ⟨s0, s1, s2, s3, s45, s67, s8, s9, s10, s11, sB⟩ := hs
  have hc' := hc
  obtain ⟨c04, c05, c06, c07, cl, c10, c11, c20, c60⟩ := hc
  have r : ∀ p k, pRel p k → c' p k = c p k := h
  unfold pRel at r
  refine ⟨hR.1, ⟨?_, fun h1 h2 => pCh_c (fun p a b => r _ _ (by omega)) (fun w hw => rfl) (hch h1 h2), fun i hi => pCx_c (hx i (by omega)).2.2.2.2.1 (fun p a b => r _ _ (by omega)) (fun j hj => r _ _ (by omega)) (fun w hw => rfl) (hcx i hi), ?_⟩⟩
  · unfold pCs
    simp (disch := omega) only [r]
    exact hc'
  · obtain ⟨st, q1, q2, q3, q4⟩ := hcl
    refine ⟨st, q1, by rw [r _ _ (by omega)]; exact q2, by rw [r _ _ (by omega)]; exact q3, fun e he => ?_⟩
    rw [r 17 _ (by omega), r 18 _ (by omega), r 19 _ (by omega)]
    exact q4 e he
theorem pOk_ss {B : Nat} {c : Nat → Nat → Int32} {l : Int64} {s s' : Nat → Nat} (hR : pOk B c l s) (h : ∀ k, k < 202 → s' k = s k) (hb' : ∀ k, s' k < 2147483648) : pOk B c l s' := by
  obtain ⟨⟨hb, hs, hh, hx, he, hsum⟩, ⟨hc, hch, hcx, hcl⟩⟩ := id hR
  have hs' := hs
  obtain ⟨s0, s1, s2, s3, s45, s67, s8, s9, s10, s11, sB⟩ := hs
  have hc' := hc
  obtain ⟨c04, c05, c06, c07, cl, c10, c11, c20, c60⟩ := hc
  refine ⟨⟨hb', ?_, fun i hi => ?_, fun i hi => ?_, fun i hi => ?_, ?_⟩, ⟨?_, fun h1 h2 => ?_, fun i hi => ?_, ?_⟩⟩
  · unfold pRs at hs' ⊢
    simp (disch := omega) only [h]
    exact hs'
  · exact pRh_c (by rw [h 0 (by omega)]; omega) (by rw [h 9 (by omega)]; omega) (h _ (by omega)) (h _ (by omega)) (hh i hi)
  · exact pRx_c (by rw [h 0 (by omega)]; omega) (by rw [h 10 (by omega)]; omega) (fun w _ hw => h _ (by omega)) (hx i hi)
  · have := he i hi
    unfold pRe at this ⊢
    rw [h _ (by omega), h _ (by omega)]
    exact this
  · rw [pSu_c (s := s) (h _ (by omega)) s10 (fun i hi w hw => h _ (by omega)) (fun i hi => (hx i hi).2.2.2.2.1), h _ (by omega), h _ (by omega)]
    exact hsum
  · unfold pCs at hc' ⊢
    simp (disch := omega) only [h]
    exact hc'
  · rw [h _ (by omega)] at h2
    exact pCh_c (fun p _ _ => rfl) (fun w hw => h _ (by omega)) (hch h1 h2)
  · rw [h _ (by omega)] at hi
    exact pCx_c (hx i (by omega)).2.2.2.2.1 (fun p _ _ => rfl) (fun j hj => rfl) (fun w hw => h _ (by omega)) (hcx i hi)
  · obtain ⟨st, q1, q2, q3, q4⟩ := hcl
    refine ⟨st, q1, q2, by rw [h _ (by omega)]; exact q3, fun e he => ?_⟩
    rw [h _ (by omega)] at he
    rw [h _ (by omega), h _ (by omega), h _ (by omega)]
    exact q4 e he
/-- n places of row p taken from f -/
def pRw (c : Nat → Nat → Int32) (p n : Nat) (f : Nat → Int32) : Nat → Nat → Int32 := fun x j => if x = p ∧ j < n then f j else c x j
theorem puC_cp (M : tvM) (b : Nat) (c : Nat → Nat → Int32) (l : Int64) {p a n : Nat} (hp : p < 20) (ha : ¬ (b ≤ a ∧ a < b + 20)) : tcp (puC M b c l) a (b + p) n = puC M b (pRw c p n (M.1 a)) l := by
  refine Prod.ext ?_ rfl
  funext x j
  show (if x = b + p then (fun i => if i < n then (puC M b c l).1 a i else (puC M b c l).1 (b + p) i) else (puC M b c l).1 x) j = (if b ≤ x ∧ x < b + 20 then (if x - b = p ∧ j < n then M.1 a j else c (x - b) j) else M.1 x j)
  have e1 : (puC M b c l).1 a j = M.1 a j := by
    show (if b ≤ a ∧ a < b + 20 then _ else _) = _
    rw [if_neg ha]
  have e2 : ∀ x, (puC M b c l).1 x j = if b ≤ x ∧ x < b + 20 then c (x - b) j else M.1 x j := fun x => rfl
  by_cases h : x = b + p
  · subst h
    rw [if_pos rfl]
    show (if j < n then (puC M b c l).1 a j else (puC M b c l).1 (b + p) j) = _
    rw [e1, e2, if_pos (show b ≤ b + p ∧ b + p < b + 20 by omega), if_pos (show b ≤ b + p ∧ b + p < b + 20 by omega), Nat.add_sub_cancel_left]
    by_cases h2 : j < n
    · rw [if_pos h2, if_pos ⟨rfl, h2⟩]
    · rw [if_neg h2, if_neg (fun e => h2 e.2)]
  · rw [if_neg h, e2]
    by_cases h2 : b ≤ x ∧ x < b + 20
    · rw [if_pos h2, if_pos h2, if_neg (by omega)]
    · rw [if_neg h2, if_neg h2]
theorem puC_ol (M : tvM) (b : Nat) (c : Nat → Nat → Int32) (l : Int64) {a : Nat} (ha : a ≠ b) : tgl (puC M b c l) a 8 = M.2.1 a 8 := by
  show tvU M.2.1 b 8 l a 8 = _
  rw [tvU_ne _ _ _ ha]

set_option maxHeartbeats 4000000 in
theorem pc_copy (M : tvM) {b b2 : Nat} (h : b + 20 ≤ b2 ∨ b2 + 20 ≤ b) : ∃ c' : Nat → Nat → Int32, f_X6_copyFrom M b b2 = puC M b c' (pL M b2) ∧ ∀ p k, pRel p k → c' p k = M.1 (b2 + p) k := by
  have hM := puC_self M b
  obtain ⟨c0, hc0⟩ : ∃ z, z = (fun p k => M.1 (b + p) k) := ⟨_, rfl⟩
  obtain ⟨l0, hl0⟩ : ∃ z, z = M.2.1 b 8 := ⟨_, rfl⟩
  rw [← hc0, ← hl0] at hM
  have hg : ∀ c l p k, p < 20 → tgi (puC M b c l) (b2 + p) k = M.1 (b2 + p) k := fun c l p k hp => puC_o M b c l (by omega) k
  have hg0 : ∀ c l k, tgi (puC M b c l) b2 k = M.1 b2 k := fun c l k => puC_o M b c l (by omega) k
  have hcp : ∀ c l p q n, p < 20 → q < 20 → tcp (puC M b c l) (b2 + q) (b + p) n = puC M b (pRw c p n (M.1 (b2 + q))) l := fun c l p q n hp hq => puC_cp M b c l hp (by omega)
  have e : f_X6_copyFrom (puC M b c0 l0) b b2 = puC M b (tvU (tvU (tvU (tvU (pRw (pRw (pRw (tvU (tvU (pRw (pRw (pRw (pRw (pRw (pRw (pRw (pRw (pRw (tvU (pRw (pRw (pRw (tvU (tvU (tvU c0 1 0 (M.1 (b2 + 1) 0)) 1 1 (M.1 (b2 + 1) 1)) 2 0 (M.1 (b2 + 2) 0)) 3 8 (M.1 (b2 + 3))) 4 8 (M.1 (b2 + 4))) 5 8 (M.1 (b2 + 5))) 6 0 (M.1 (b2 + 6) 0)) 7 10 (M.1 (b2 + 7))) 8 10 (M.1 (b2 + 8))) 9 10 (M.1 (b2 + 9))) 10 10 (M.1 (b2 + 10))) 11 10 (M.1 (b2 + 11))) 12 10 (M.1 (b2 + 12))) 13 10 (M.1 (b2 + 13))) 14 10 (M.1 (b2 + 14))) 15 50 (M.1 (b2 + 15))) 16 0 (M.1 (b2 + 16) 0)) 16 1 (M.1 (b2 + 16) 1)) 17 12 (M.1 (b2 + 17))) 18 12 (M.1 (b2 + 18))) 19 12 (M.1 (b2 + 19))) 0 4 (M.1 b2 4)) 0 5 (M.1 b2 5)) 0 6 (M.1 b2 6)) 0 7 (M.1 b2 7)) (pL M b2) := by
    have hl : ∀ c l, tgl (puC M b c l) b2 8 = pL M b2 := fun c l => puC_ol M b c l (by omega)
    unfold f_X6_copyFrom f_X4_copyFrom f_X0_copyFrom f_X2_copyFrom f_X7_copyFrom
    simp (disch := omega) only [hg, hg0, hcp, puC_p, puC_p0, hl, puC_pl]
  rw [hM] at e
  refine ⟨_, e, fun p k hr => ?_⟩
  unfold pRel at hr
  unfold pRw tvU
  rcases hr with hr | hr | hr | hr | hr | hr | hr | hr
  · obtain ⟨rfl, h1, h2⟩ := hr
    rcases (show k = 4 ∨ k = 5 ∨ k = 6 ∨ k = 7 by omega) with rfl | rfl | rfl | rfl <;> simp
  · obtain ⟨rfl, h1⟩ := hr
    rcases (show k = 0 ∨ k = 1 by omega) with rfl | rfl <;> simp
  · obtain ⟨rfl | rfl, rfl⟩ := hr <;> simp
  · obtain ⟨h1, h2, h3⟩ := hr
    rcases (show p = 3 ∨ p = 4 ∨ p = 5 by omega) with rfl | rfl | rfl <;> simp [h3]
  · obtain ⟨h1, h2, h3⟩ := hr
    rcases (show p = 7 ∨ p = 8 ∨ p = 9 ∨ p = 10 ∨ p = 11 ∨ p = 12 ∨ p = 13 ∨ p = 14 by omega) with rfl | rfl | rfl | rfl | rfl | rfl | rfl | rfl <;> simp [h3]
  · obtain ⟨rfl, h3⟩ := hr
    simp [h3]
  · obtain ⟨rfl, h1⟩ := hr
    rcases (show k = 0 ∨ k = 1 by omega) with rfl | rfl <;> simp
  · obtain ⟨h1, h2, h3⟩ := hr
    rcases (show p = 17 ∨ p = 18 ∨ p = 19 by omega) with rfl | rfl | rfl <;> simp [h3]

