/-- both ways of a test -/
theorem pIf {c A B : Prop} : ((c → A) ∧ (¬ c → B)) = @ite Prop c (Classical.propDecidable c) A B := by
  apply propext
  by_cases h : c
  · simp [h]
  · simp [h]
/-! ===== a run of a loop whose states are known ===== -/
theorem pFor {σ ρ : Type} (step : σ → σ ⊕ ρ) (qs : σ → Prop) (I : Nat → σ) (N : Nat) (r : ρ) (hs : ∀ i, i < N → step (I i) = .inl (I (i + 1))) (hq : ∀ i, i ≤ N → qs (I i)) (he : step (I N) = .inr r) : ∀ F : Nat, N < F → tvIter step F (.inl (I 0)) = some r ∧ tvQ step qs F (.inl (I 0)) := by
  have key : ∀ k i, i + k = N → ∀ F : Nat, k < F → tvIter step F (.inl (I i)) = some r ∧ tvQ step qs F (.inl (I i)) := by
    intro k
    induction k with
    | zero =>
      intro i hi F hF
      obtain ⟨F, rfl⟩ : ∃ z, F = z + 1 := ⟨F - 1, by omega⟩
      have : i = N := by omega
      subst this
      refine ⟨?_, hq _ (Nat.le_refl _), ?_⟩
      · show tvIter step F (step (I i)) = some r
        rw [he]; cases F <;> rfl
      · rw [he]; cases F <;> trivial
    | succ k ih =>
      intro i hi F hF
      obtain ⟨F, rfl⟩ : ∃ z, F = z + 1 := ⟨F - 1, by omega⟩
      obtain ⟨h1, h2⟩ := ih (i + 1) (by omega) F (by omega)
      refine ⟨?_, hq _ (by omega), ?_⟩
      · show tvIter step F (step (I i)) = some r
        rw [hs i (by omega)]; exact h1
      · rw [hs i (by omega)]; exact h2
  intro F hF
  exact key N 0 (by omega) F hF
theorem pDone {σ ρ : Type} {step : σ → σ ⊕ ρ} {qs : σ → Prop} {r : ρ} (F : Nat) : tvIter step (F + 1) (.inr r) = some r ∧ tvQ step qs (F + 1) (.inr r) := ⟨rfl, trivial⟩
theorem pGet {σ ρ : Type} {step : σ → σ ⊕ ρ} {n : Nat} {e : σ ⊕ ρ} {d r : ρ} (h : tvIter step n e = some r) : (tvIter step n e).getD d = r := by
  rw [h]; rfl
/-! ===== the log ===== -/
/-- the model's row with the events from number k on moved down, up to y -/
def pShift (s : Nat → Nat) (y : Nat) : Nat → Nat := fun k => if 166 ≤ k ∧ k < y then s (k + 3) else s k
def pLog (s : Nat → Nat) (kd n : Nat) : Nat → Nat := fun k => if s 11 = 12 then (if 166 ≤ k ∧ k < 199 then s (k + 3) else if k = 199 then kd else if k = 200 then s 0 else if k = 201 then n else s k) else (if k = 166 + 3 * s 11 then kd else if k = 166 + 3 * s 11 + 1 then s 0 else if k = 166 + 3 * s 11 + 2 then n else if k = 11 then s 11 + 1 else s k)
theorem pLog_o (s : Nat → Nat) (kd n : Nat) {k : Nat} (h : k < 166) (h2 : k ≠ 11) : pLog s kd n k = s k := by
  unfold pLog
  split
  · repeat rw [if_neg (by omega)]
  · repeat rw [if_neg (by omega)]
theorem pLog_a (s : Nat → Nat) (kd n : Nat) (h : s 11 = 12) {k : Nat} (h1 : 166 ≤ k) (h2 : k < 199) : pLog s kd n k = s (k + 3) := by
  unfold pLog
  rw [if_pos h, if_pos ⟨h1, h2⟩]
theorem pLog_a1 (s : Nat → Nat) (kd n : Nat) (h : s 11 = 12) : pLog s kd n 199 = kd ∧ pLog s kd n 200 = s 0 ∧ pLog s kd n 201 = n := by
  unfold pLog
  rw [if_pos h, if_pos h, if_pos h]
  simp
theorem pLog_b0 (s : Nat → Nat) (kd n : Nat) (h : ¬ s 11 = 12) {k : Nat} (h1 : k ≠ 166 + 3 * s 11) (h2 : k ≠ 166 + 3 * s 11 + 1) (h3 : k ≠ 166 + 3 * s 11 + 2) (h4 : k ≠ 11) : pLog s kd n k = s k := by
  unfold pLog
  rw [if_neg h, if_neg h1, if_neg h2, if_neg h3, if_neg h4]
theorem pLog_b1 (s : Nat → Nat) (kd n : Nat) (h : ¬ s 11 = 12) : pLog s kd n (166 + 3 * s 11) = kd ∧ pLog s kd n (166 + 3 * s 11 + 1) = s 0 ∧ pLog s kd n (166 + 3 * s 11 + 2) = n := by
  unfold pLog
  rw [if_neg h, if_neg h, if_neg h]
  simp
theorem pLog_11 (s : Nat → Nat) (kd n : Nat) : pLog s kd n 11 = if s 11 = 12 then 12 else s 11 + 1 := by
  unfold pLog
  split
  · rename_i h
    rw [if_neg (by omega), if_neg (by omega), if_neg (by omega), if_neg (by omega), h]
  · rw [if_neg (by omega), if_neg (by omega), if_neg (by omega), if_pos rfl]
theorem pLog_b (s : Nat → Nat) {kd n : Nat} (hs : ∀ k, s k < 2147483648) (h11 : s 11 ≤ 12) (hk : kd < 2147483648) (hn : n < 2147483648) (k : Nat) : pLog s kd n k < 2147483648 := by
  unfold pLog
  have := hs k
  have := hs (k + 3)
  have := hs 0
  repeat' split
  all_goals omega
theorem pShift_s (M : tvM) (s : Nat → Nat) (t : Int32) {y : Nat} (h : 166 ≤ y) : tpi (puN M (pShift s y) t) 250 y (nI (pShift s y (y + 3))) = puN M (pShift s (y + 1)) t := by
  rw [puN_p]
  congr 1
  funext k
  unfold pun pShift
  by_cases h1 : k = y
  · subst h1
    rw [if_pos rfl, if_neg (by omega), if_pos (by omega)]
  · rw [if_neg h1]
    by_cases h2 : 166 ≤ k ∧ k < y
    · rw [if_pos h2, if_pos (by omega)]
    · rw [if_neg h2, if_neg (by omega)]
theorem px_log1 (s : Nat → Nat) (kd n : Nat) (h : s 11 = 12) : pun (pun (pun (pun (pun (pShift s 199) 11 11) 199 kd) 200 (s 0)) 201 n) 11 12 = pLog s kd n := by
  funext k
  unfold pun pLog pShift
  rw [if_pos h]
  by_cases h1 : k = 11
  · subst h1
    simp [h]
  · rw [if_neg h1]
    by_cases h2 : k = 201
    · subst h2; simp
    · rw [if_neg h2]
      by_cases h3 : k = 200
      · subst h3; simp
      · rw [if_neg h3]
        by_cases h4 : k = 199
        · subst h4; simp
        · simp [h1, h2, h3, h4]
theorem px_log2 (s : Nat → Nat) (kd n : Nat) (h : ¬ s 11 = 12) : pun (pun (pun (pun s (166 + 3 * s 11) kd) (166 + 3 * s 11 + 1) (s 0)) (166 + 3 * s 11 + 2) n) 11 (s 11 + 1) = pLog s kd n := by
  funext k
  unfold pun pLog
  rw [if_neg h]
  by_cases h1 : k = 11
  · subst h1
    rw [if_pos rfl, if_neg (by omega), if_neg (by omega), if_neg (by omega), if_pos rfl]
  · rw [if_neg h1]
    by_cases h2 : k = 166 + 3 * s 11 + 2
    · rw [if_pos h2, if_neg (by omega), if_neg (by omega), if_pos h2]
    · rw [if_neg h2]
      by_cases h3 : k = 166 + 3 * s 11 + 1
      · rw [if_pos h3, if_neg (by omega), if_pos h3]
      · rw [if_neg h3]
        by_cases h4 : k = 166 + 3 * s 11
        · rw [if_pos h4, if_pos h4]
        · rw [if_neg h4, if_neg h4, if_neg h3, if_neg h2, if_neg h1]
theorem px_happens (M : tvM) (s : Nat → Nat) (t : Int32) (kd n : Nat) (h : s 11 ≤ 12) : q_X9_happens (puN M s t) (nI kd) (nI n) ∧ f_X9_happens (puN M s t) (nI kd) (nI n) = puN M (pLog s kd n) t := by
  by_cases h12 : s 11 = 12
  · have he : e_X9_happens (puN M s t) (nI kd) (nI n) = .inl (nI (166 + 0), puN M (pShift s (166 + 0)) t) := by
      unfold e_X9_happens
      rw [puN_g, h12, if_pos (show nI 12 = 12 from rfl)]
      congr 3
      unfold pShift
      funext k
      rw [if_neg (by omega)]
    have h11 : ∀ y, pShift s y 11 = 12 := fun y => by unfold pShift; rw [if_neg (by omega), h12]
    have h0 : ∀ y, pShift s y 0 = s 0 := fun y => by unfold pShift; rw [if_neg (by omega)]
    have hl := pFor (s_X9_happens (nI kd) (nI n)) (qs_X9_happens (nI kd) (nI n)) (fun i => (nI (166 + i), puN M (pShift s (166 + i)) t)) 33 (puN M (pLog s kd n) t) (fun i hi => by
      unfold s_X9_happens sb_X9_happens
      simp only []
      rw [pl_199, if_neg (by rw [pn_le (by omega) (by omega)]; omega), nI_1, pl_3, nI_add, pn_c (by omega), pn_c (by omega), puN_g, pShift_s M s t (by omega)]
      rfl) (fun i hi => by
      unfold qs_X9_happens qb_X9_happens
      refine ⟨fun _ => ?_, fun hn => ?_⟩
      · simp only [puN_g, puN_p, h11, pl_1, pl_2, pl_3, pl_166, pn_mul, nI_add, pn_sub (show 1 ≤ 12 by omega), pun_s]
        exact ⟨vp_in_nI (by omega) (by omega), vp_in_nI (by omega) (by omega), vp_in_nI (by omega) (by omega), trivial⟩
      · rw [pl_199, pn_le (by omega) (by omega)] at hn
        simp only [pl_3, nI_add]
        exact ⟨vp_in_nI (by omega) (by omega), vp_in_nI (by omega) (by omega), trivial⟩) (by
      unfold s_X9_happens sb_X9_happens
      simp only []
      rw [pl_199, if_pos (by rw [pn_le (by omega) (by omega)]; omega)]
      simp (disch := omega) only [puN_g, puN_p, h11, h0, pl_1, pl_2, pl_3, pl_166, pn_mul, nI_add, pn_sub (show 1 ≤ 12 by omega), pun_s, pun_n, pn_c]
      rw [← px_log1 s kd n h12]) 5000 (by omega)
    rw [← he] at hl
    refine ⟨⟨?_, ⟨_, hl.1⟩, hl.2⟩, pGet hl.1⟩
    unfold qe_X9_happens
    rw [puN_g, h12]
    exact ⟨fun _ => trivial, fun q => absurd rfl q⟩
  · have hne : ¬ nI (s 11) = 12 := by
      rw [pl_12, pn_eq (by omega) (by omega)]; exact h12
    have he : e_X9_happens (puN M s t) (nI kd) (nI n) = .inr (puN M (pLog s kd n) t) := by
      unfold e_X9_happens
      rw [puN_g, if_neg hne]
      simp (disch := omega) only [puN_g, puN_p, pl_1, pl_2, pl_3, pl_166, pn_mul, nI_add, pun_s, pun_n, pn_c]
      rw [← px_log2 s kd n h12]
    have hl : tvIter (s_X9_happens (nI kd) (nI n)) 5000 (.inr (puN M (pLog s kd n) t)) = some (puN M (pLog s kd n) t) ∧ tvQ (s_X9_happens (nI kd) (nI n)) (qs_X9_happens (nI kd) (nI n)) 5000 (.inr (puN M (pLog s kd n) t)) := pDone 4999
    rw [← he] at hl
    refine ⟨⟨?_, ⟨_, hl.1⟩, hl.2⟩, pGet hl.1⟩
    unfold qe_X9_happens
    rw [puN_g]
    refine ⟨fun q => absurd q hne, fun _ => ?_⟩
    simp only [pl_1, pl_2, pl_3, pl_166, pn_mul, nI_add]
    exact ⟨vp_in_nI (by omega) (by omega), vp_in_nI (by omega) (by omega), vp_in_nI (by omega) (by omega), trivial⟩
/-- the class's ring is the model's rows -/
def pCl (c : Nat → Nat → Int32) (s : Nat → Nat) : Prop := ∃ st : Nat, st < 12 ∧ c 16 0 = nI st ∧ c 16 1 = nI (s 11) ∧ ∀ e, e < s 11 → c 17 ((st + e) % 12) = nI (s (166 + 3 * e)) ∧ c 18 ((st + e) % 12) = nI (s (166 + 3 * e + 1)) ∧ c 19 ((st + e) % 12) = nI (s (166 + 3 * e + 2))
theorem pc_slot (M : tvM) (b : Nat) {c : Nat → Nat → Int32} (l : Int64) {st x : Nat} (h : c 16 0 = nI st) (hs : st < 12) (hx : x ≤ 12) : f_X4_slotOf (puC M b c l) b (nI x) = nI ((st + x) % 12) := by
  unfold f_X4_slotOf
  simp only [puC_g16, h, nI_add, pl_12]
  rw [pn_rem (by omega) (by omega) (by omega), if_pos (by rw [pl_0, pn_le (by omega) (by omega)]; omega)]
/-- the ring with one more -/
def pcLog (c : Nat → Nat → Int32) (st n : Nat) (kd t x : Int32) : Nat → Nat → Int32 := if n = 12 then tvU (tvU (tvU (tvU c 17 ((st + n) % 12) kd) 18 ((st + n) % 12) t) 19 ((st + n) % 12) x) 16 0 (nI ((st + 1) % 12)) else tvU (tvU (tvU (tvU c 17 ((st + n) % 12) kd) 18 ((st + n) % 12) t) 19 ((st + n) % 12) x) 16 1 (nI (n + 1))
theorem pcLog_o (c : Nat → Nat → Int32) (st n : Nat) (kd t x : Int32) {p : Nat} (hp : p < 16) (k : Nat) : pcLog c st n kd t x p k = c p k := by
  unfold pcLog
  split <;> simp (disch := omega) only [pcu_r]
theorem pc_log (M : tvM) (b : Nat) {c : Nat → Nat → Int32} (l : Int64) {st n : Nat} (h : c 16 0 = nI st) (h1 : c 16 1 = nI n) (hs : st < 12) (hn : n ≤ 12) (kd t x : Int32) : f_X4_add (puC M b c l) b kd t x = puC M b (pcLog c st n kd t x) l := by
  unfold f_X4_add pcLog
  simp only [puC_g16, h1, pc_slot M b l h hs hn]
  simp (disch := omega) only [pn_c, puC_p17, puC_p18, puC_p19, puC_g16, puC_p16, pcu_r, h, h1]
  by_cases q : n = 12
  · rw [if_pos q, if_pos (by rw [pl_12, pn_le (by omega) (by omega)]; omega), pl_1, pc_slot M b l (st := st) (x := 1) (by simp (disch := omega) only [pcu_r, h]) hs (by omega)]
  · rw [if_neg q, if_neg (by rw [pl_12, pn_le (by omega) (by omega)]; omega), nI_1]
theorem pCl_log {c : Nat → Nat → Int32} {s : Nat → Nat} {st kd n : Nat} (hs : st < 12) (h : c 16 0 = nI st) (h1 : c 16 1 = nI (s 11)) (hn : s 11 ≤ 12) (he : ∀ e, e < s 11 → c 17 ((st + e) % 12) = nI (s (166 + 3 * e)) ∧ c 18 ((st + e) % 12) = nI (s (166 + 3 * e + 1)) ∧ c 19 ((st + e) % 12) = nI (s (166 + 3 * e + 2))) : pCl (pcLog c st (s 11) (nI kd) (nI (s 0)) (nI n)) (pLog s kd n) := by
  by_cases q : s 11 = 12
  · refine ⟨(st + 1) % 12, by omega, ?_, ?_, fun e h2 => ?_⟩
    · unfold pcLog; rw [if_pos q, pcu_s]
    · unfold pcLog
      rw [if_pos q, pLog_11, if_pos q]
      simp (disch := omega) only [pcu_r, pcu_k]
      rw [h1, q]
    · rw [pLog_11, if_pos q] at h2
      have hc : ∀ k, (pcLog c st (s 11) (nI kd) (nI (s 0)) (nI n) 17 k = if k = (st + 12) % 12 then nI kd else c 17 k) ∧ (pcLog c st (s 11) (nI kd) (nI (s 0)) (nI n) 18 k = if k = (st + 12) % 12 then nI (s 0) else c 18 k) ∧ (pcLog c st (s 11) (nI kd) (nI (s 0)) (nI n) 19 k = if k = (st + 12) % 12 then nI n else c 19 k) := by
        intro k
        unfold pcLog
        rw [if_pos q]
        simp (disch := omega) only [pcu_r, q, tvU_row, and_self]
      rw [(hc _).1, (hc _).2.1, (hc _).2.2]
      by_cases h3 : e = 11
      · subst h3
        obtain ⟨g1, g2, g3⟩ := pLog_a1 s kd n q
        rw [show ((st + 1) % 12 + 11) % 12 = (st + 12) % 12 by omega, if_pos rfl, if_pos rfl, if_pos rfl]
        exact ⟨by rw [g1], by rw [g2], by rw [g3]⟩
      · obtain ⟨g1, g2, g3⟩ := he (e + 1) (by omega)
        rw [show ((st + 1) % 12 + e) % 12 = (st + (e + 1)) % 12 by omega, if_neg (by omega), if_neg (by omega), if_neg (by omega), pLog_a s kd n q (by omega) (by omega), pLog_a s kd n q (by omega) (by omega), pLog_a s kd n q (by omega) (by omega)]
        exact ⟨g1, g2, g3⟩
  · refine ⟨st, hs, ?_, ?_, fun e h2 => ?_⟩
    · unfold pcLog; rw [if_neg q]; simp (disch := omega) only [pcu_r, pcu_k, h]
    · unfold pcLog
      rw [if_neg q, pLog_11, if_neg q, pcu_s]
    · rw [pLog_11, if_neg q] at h2
      have hc : ∀ k, (pcLog c st (s 11) (nI kd) (nI (s 0)) (nI n) 17 k = if k = (st + s 11) % 12 then nI kd else c 17 k) ∧ (pcLog c st (s 11) (nI kd) (nI (s 0)) (nI n) 18 k = if k = (st + s 11) % 12 then nI (s 0) else c 18 k) ∧ (pcLog c st (s 11) (nI kd) (nI (s 0)) (nI n) 19 k = if k = (st + s 11) % 12 then nI n else c 19 k) := by
        intro k
        unfold pcLog
        rw [if_neg q]
        simp (disch := omega) only [pcu_r, tvU_row, and_self]
      rw [(hc _).1, (hc _).2.1, (hc _).2.2]
      by_cases h3 : e = s 11
      · subst h3
        obtain ⟨g1, g2, g3⟩ := pLog_b1 s kd n q
        rw [if_pos rfl, if_pos rfl, if_pos rfl, g1, g2, g3]
        exact ⟨rfl, rfl, rfl⟩
      · obtain ⟨g1, g2, g3⟩ := he e (by omega)
        rw [if_neg (by omega), if_neg (by omega), if_neg (by omega), pLog_b0 s kd n q (by omega) (by omega) (by omega) (by omega), pLog_b0 s kd n q (by omega) (by omega) (by omega) (by omega), pLog_b0 s kd n q (by omega) (by omega) (by omega) (by omega)]
        exact ⟨g1, g2, g3⟩
/-- both logs take the same event -/
theorem pLog_both (M M' : tvM) (b : Nat) {c : Nat → Nat → Int32} (l : Int64) {s : Nat → Nat} (t : Int32) {T : Int32} (h : pCl c s) (hn : s 11 ≤ 12) (hT : T = nI (s 0)) (kd n : Nat) : ∃ c' : Nat → Nat → Int32, (∀ p k, p < 16 → c' p k = c p k) ∧ f_X4_add (puC M b c l) b (nI kd) T (nI n) = puC M b c' l ∧ pCl c' (pLog s kd n) ∧ q_X9_happens (puN M' s t) (nI kd) (nI n) ∧ f_X9_happens (puN M' s t) (nI kd) (nI n) = puN M' (pLog s kd n) t := by
  obtain ⟨st, h1, h2, h3, h4⟩ := h
  subst hT
  exact ⟨_, fun p k hp => pcLog_o c st (s 11) (nI kd) (nI (s 0)) (nI n) hp k, pc_log M b l h2 h3 h1 hn _ _ _, pCl_log h1 h2 h3 hn h4, (px_happens M' s t kd n hn).1, (px_happens M' s t kd n hn).2⟩

