/-! ===== first: the delays count down ===== -/
def pDn (s : Nat → Nat) : Nat → Nat → Nat
  | 0 => s
  | i + 1 => if s (36 + 13 * i + 3) = 2 ∧ 0 < s (36 + 13 * i + 6) then pun (pDn s i) (36 + 13 * i + 6) (s (36 + 13 * i + 6) - 1) else pDn s i
theorem pDn_o (s : Nat → Nat) (i : Nat) {k : Nat} (h : ∀ j, j < i → k ≠ 36 + 13 * j + 6) : pDn s i k = s k := by
  induction i with
  | zero => rfl
  | succ i ih =>
    show (if s (36 + 13 * i + 3) = 2 ∧ 0 < s (36 + 13 * i + 6) then pun (pDn s i) (36 + 13 * i + 6) (s (36 + 13 * i + 6) - 1) else pDn s i) k = s k
    split
    · rw [pun_n _ _ (h i (by omega))]; exact ih fun j hj => h j (by omega)
    · exact ih fun j hj => h j (by omega)
theorem pDn_6 (s : Nat → Nat) (i j : Nat) (h : j < i) : pDn s i (36 + 13 * j + 6) = if s (36 + 13 * j + 3) = 2 then s (36 + 13 * j + 6) - 1 else s (36 + 13 * j + 6) := by
  induction i with
  | zero => omega
  | succ i ih =>
    show (if s (36 + 13 * i + 3) = 2 ∧ 0 < s (36 + 13 * i + 6) then pun (pDn s i) (36 + 13 * i + 6) (s (36 + 13 * i + 6) - 1) else pDn s i) (36 + 13 * j + 6) = _
    by_cases e : j = i
    · subst e
      have h0 := pDn_o s j (k := 36 + 13 * j + 6) (fun j' hj' => by omega)
      split
      · rename_i q
        rw [pun_s, if_pos q.1]
      · rename_i q
        rw [h0]
        split
        · rename_i q2
          have : ¬ 0 < s (36 + 13 * j + 6) := fun e => q ⟨q2, e⟩
          omega
        · rfl
    · split
      · rw [pun_n _ _ (by omega)]; exact ih (by omega)
      · exact ih (by omega)
theorem pDown {B : Nat} {c : Nat → Nat → Int32} {l : Int64} {s : Nat → Nat} (hR : pOk B c l s) : ∀ i, i ≤ s 10 → ∃ c' : Nat → Nat → Int32, (∀ M b, tvCd (puC M b c l) b i = puC M b c' l) ∧ pOk B c' l (pDn s i) := by
  obtain ⟨⟨hb, hs, hh, hx, he, hsum⟩, ⟨hc, hch, hcx, hcl⟩⟩ := id hR
  have hs' := hs
  obtain ⟨s0, s1, s2, s3, s45, s67, s8, s9, s10, s11, sB⟩ := hs
  have hc' := hc
  obtain ⟨c04, c05, c06, c07, cl, c10, c11, c20, c60⟩ := hc
  intro i
  induction i with
  | zero => intro _; exact ⟨c, fun M b => rfl, hR⟩
  | succ i ih =>
    intro hi
    obtain ⟨c1, g1, r1⟩ := ih (by omega)
    have o3 : pDn s i (36 + 13 * i + 3) = s (36 + 13 * i + 3) := pDn_o s i (fun j hj => by omega)
    have o6 : pDn s i (36 + 13 * i + 6) = s (36 + 13 * i + 6) := pDn_o s i (fun j hj => by omega)
    have o10 : pDn s i 10 = s 10 := pDn_o s i (fun j hj => by omega)
    have hi1 : i < pDn s i 10 := by omega
    have h6 := r1.six hi1
    rw [o3, o6] at h6
    have r1' := r1
    obtain ⟨⟨hb1, hs1, hh1, hx1, he1, hsum1⟩, ⟨hc1, hch1, hcx1, hcl1⟩⟩ := r1'
    have c61 : c1 6 0 = nI (s 10) := by rw [hc1.2.2.2.2.2.2.2.2, o10]
    have hst : c1 10 i = pSt (s (36 + 13 * i + 3)) := by rw [(hcx1 i hi1).2.2.2.1, o3]
    have hcd : ∀ M b, tvCd (puC M b c l) b (i + 1) = if c1 10 i = 112 then (if c1 12 i ≤ 0 then puC M b c1 l else puC M b (tvU c1 12 i (c1 12 i - 1)) l) else puC M b c1 l := fun M b => by
      show (if f_X0_has (tvCd (puC M b c l) b i) b (nI i) = 0 then tvCd (puC M b c l) b i else if tnc (tgi (tvCd (puC M b c l) b i) (b + 10) (nI i).toNatClampNeg) = 112 then (if tgi (tvCd (puC M b c l) b i) (b + 12) (nI i).toNatClampNeg ≤ 0 then tvCd (puC M b c l) b i else tpi (tvCd (puC M b c l) b i) (b + 12) (nI i).toNatClampNeg (tgi (tvCd (puC M b c l) b i) (b + 12) (nI i).toNatClampNeg - 1)) else tvCd (puC M b c l) b i) = _
      rw [g1, pc_has1 M b l c61 s10 (by omega), if_neg (by decide), pn_c (by omega), puC_g10, puC_g12, puC_p12, hst, pSt_tnc]
    by_cases q : s (36 + 13 * i + 3) = 2 ∧ 0 < s (36 + 13 * i + 6)
    · have h12 : c1 12 i = nI (s (36 + 13 * i + 6)) := by rw [(hcx1 i hi1).2.2.2.2.2.2.1 (by rw [o3]; exact q.1), o6]
      refine ⟨tvU c1 12 i (nI (s (36 + 13 * i + 6) - 1)), fun M b => ?_, ?_⟩
      · rw [hcd, hst, if_pos ((pSt_eq _ h6.1).2.2.1.mpr q.1), h12, if_neg (by rw [pl_0, pn_le (by omega) (by omega)]; omega), pl_1, pn_sub (by omega)]
      · show pOk B _ l (if s (36 + 13 * i + 3) = 2 ∧ 0 < s (36 + 13 * i + 6) then pun (pDn s i) (36 + 13 * i + 6) (s (36 + 13 * i + 6) - 1) else pDn s i)
        rw [if_pos q]
        exact pOk_down0 r1 hi1 (by rw [o3]; exact q.1) (by omega)
    · refine ⟨c1, fun M b => ?_, ?_⟩
      · rw [hcd, hst]
        by_cases q2 : s (36 + 13 * i + 3) = 2
        · have h12 : c1 12 i = nI (s (36 + 13 * i + 6)) := by rw [(hcx1 i hi1).2.2.2.2.2.2.1 (by rw [o3]; exact q2), o6]
          have : ¬ 0 < s (36 + 13 * i + 6) := fun e => q ⟨q2, e⟩
          rw [if_pos ((pSt_eq _ h6.1).2.2.1.mpr q2), h12, if_pos (by rw [pl_0, pn_le (by omega) (by omega)]; omega)]
        · rw [if_neg (fun e => q2 ((pSt_eq _ h6.1).2.2.1.mp e))]
      · show pOk B _ l (if s (36 + 13 * i + 3) = 2 ∧ 0 < s (36 + 13 * i + 6) then pun (pDn s i) (36 + 13 * i + 6) (s (36 + 13 * i + 6) - 1) else pDn s i)
        rw [if_neg q]
        exact r1
/-! ===== third: boxes open ===== -/
def pDue (s : Nat → Nat) (i : Nat) : Prop := s (36 + 13 * i + 3) = 2 ∧ s (36 + 13 * i + 6) = 0
def pOs (s : Nat → Nat) : Nat → Nat → Nat
  | 0 => s
  | i + 1 => (if s (36 + 13 * i + 3) = 2 ∧ s (36 + 13 * i + 6) = 0 then pOpR (pOs s i) i else pOs s i)
def pOc (s : Nat → Nat) : Nat → Nat
  | 0 => 0
  | i + 1 => pOc s i + (if s (36 + 13 * i + 3) = 2 ∧ s (36 + 13 * i + 6) = 0 then 1 else 0)
theorem pOc_le (s : Nat → Nat) (i : Nat) : pOc s i ≤ i := by
  induction i with
  | zero => exact Nat.le_refl 0
  | succ i ih =>
    show pOc s i + _ ≤ i + 1
    split <;> omega
theorem pOpens {B : Nat} {c : Nat → Nat → Int32} {l : Int64} {s : Nat → Nat} (hR : pOk B c l s) (h8 : s 8 + 10 ≤ 10 * B) : ∀ i, i ≤ s 10 → ∃ c' : Nat → Nat → Int32, (∀ M b, tvOp (puC M b c l) b i = (nI (pOc s i), puC M b c' l)) ∧ pOk B c' l (pOs s i) ∧ (∀ k, k < 36 → k ≠ 11 → k ≠ 8 → pOs s i k = s k) ∧ pOs s i 8 = s 8 + pOc s i ∧ (∀ k, 36 ≤ k → k < 166 → (∀ j w, j < i → 3 ≤ w → w < 7 → k ≠ 36 + 13 * j + w) → pOs s i k = s k) ∧ (∀ j, j < i → (pDue s j → pOs s i (36 + 13 * j + 3) = 3 ∧ pOs s i (36 + 13 * j + 5) = s 0) ∧ (¬ pDue s j → ∀ w, w < 13 → pOs s i (36 + 13 * j + w) = s (36 + 13 * j + w))) ∧ (∀ M' t j, j < i → (pDue s j → q_X9_opens (puN M' (pOs s j) t) (nI j) ∧ f_X9_opens (puN M' (pOs s j) t) (nI j) = puN M' (pOs s (j + 1)) t)) := by
  obtain ⟨⟨hb, hs, hh, hx, he, hsum⟩, ⟨hc, hch, hcx, hcl⟩⟩ := id hR
  have hs' := hs
  obtain ⟨s0, s1, s2, s3, s45, s67, s8, s9, s10, s11, sB⟩ := hs
  have hc' := hc
  obtain ⟨c04, c05, c06, c07, cl, c10, c11, c20, c60⟩ := hc
  intro i
  induction i with
  | zero => intro _; exact ⟨c, fun M b => rfl, hR, fun k _ _ _ => rfl, rfl, fun k _ _ _ => rfl, fun j hj => by omega, fun M' t j hj => by omega⟩
  | succ i ih =>
    intro hi
    obtain ⟨c1, g1, r1, f1, f2, f3, f4, f5⟩ := ih (by omega)
    have hle := pOc_le s i
    have hop : ∀ M b, tvOp (puC M b c l) b (i + 1) = (nI (pOc s i) + (f_X6_openIfDue (puC M b c1 l) b (nI i)).1, (f_X6_openIfDue (puC M b c1 l) b (nI i)).2) := fun M b => by
      show ((tvOp (puC M b c l) b i).1 + (f_X6_openIfDue (tvOp (puC M b c l) b i).2 b (nI i)).1, (f_X6_openIfDue (tvOp (puC M b c l) b i).2 b (nI i)).2) = _
      rw [g1]
    have o3 : pOs s i (36 + 13 * i + 3) = s (36 + 13 * i + 3) := f3 _ (by omega) (by omega) (fun j w h1 h2 h3 => by omega)
    have o6 : pOs s i (36 + 13 * i + 6) = s (36 + 13 * i + 6) := f3 _ (by omega) (by omega) (fun j w h1 h2 h3 => by omega)
    have hi1 : i < pOs s i 10 := by rw [f1 10 (by omega) (by omega) (by omega)]; omega
    by_cases q : pDue s i
    · have e1 : pOs s (i + 1) = pOpR (pOs s i) i := by
        show (if s (36 + 13 * i + 3) = 2 ∧ s (36 + 13 * i + 6) = 0 then pOpR (pOs s i) i else pOs s i) = _
        rw [if_pos (show s (36 + 13 * i + 3) = 2 ∧ s (36 + 13 * i + 6) = 0 from q)]
      have e2 : pOc s (i + 1) = pOc s i + 1 := by
        show pOc s i + (if s (36 + 13 * i + 3) = 2 ∧ s (36 + 13 * i + 6) = 0 then 1 else 0) = _
        rw [if_pos (show s (36 + 13 * i + 3) = 2 ∧ s (36 + 13 * i + 6) = 0 from q)]
      obtain ⟨c2, s2, w1, w2, w3, w4, w5, w6, w7, w8, w9⟩ := pOpen r1 hi1 (by omega) (by rw [o3]; exact q.1) (by rw [o6]; exact q.2)
      rw [← e1] at w9
      subst w9
      refine ⟨c2, fun M b => ?_, w3, fun k h1 h2 h3 => ?_, ?_, fun k h1 h2 h3 => ?_, fun j hj => ⟨fun hd => ?_, fun hd w hw => ?_⟩, fun M' t j hj hd => ?_⟩
      · rw [hop, w1, e2, nI_add]
      · rw [w4 k h1 h2 h3]; exact f1 k h1 h2 h3
      · rw [w5, f2, e2]; omega
      · rw [w6 k h1 h2 (fun w a b => h3 i w (by omega) a b)]
        exact f3 k h1 h2 (fun j w a b c => h3 j w (by omega) b c)
      · by_cases e : j = i
        · subst e
          exact ⟨w7, by rw [w8]; exact f1 0 (by omega) (by omega) (by omega)⟩
        · rw [w6 _ (by omega) (by omega) (fun w a b => by omega), w6 _ (by omega) (by omega) (fun w a b => by omega)]
          exact (f4 j (by omega)).1 hd
      · have e : j ≠ i := fun e => hd (e ▸ q)
        rw [w6 _ (by omega) (by omega) (fun w a b => by omega)]
        exact (f4 j (by omega)).2 hd w hw
      · by_cases e : j = i
        · subst e
          exact w2 M' t
        · exact f5 M' t j (by omega) hd
    · have e1 : pOs s (i + 1) = pOs s i := by
        show (if s (36 + 13 * i + 3) = 2 ∧ s (36 + 13 * i + 6) = 0 then pOpR (pOs s i) i else pOs s i) = _
        rw [if_neg (show ¬ (s (36 + 13 * i + 3) = 2 ∧ s (36 + 13 * i + 6) = 0) from q)]
      have e2 : pOc s (i + 1) = pOc s i := by
        show pOc s i + (if s (36 + 13 * i + 3) = 2 ∧ s (36 + 13 * i + 6) = 0 then 1 else 0) = _
        rw [if_neg (show ¬ (s (36 + 13 * i + 3) = 2 ∧ s (36 + 13 * i + 6) = 0) from q)]; rfl
      have hno : ∀ M b, f_X6_openIfDue (puC M b c1 l) b (nI i) = (nI 0, puC M b c1 l) := fun M b => pOpen_no r1 hi1 (by rw [o3, o6]; exact q) M b
      rw [e1, e2]
      refine ⟨c1, fun M b => ?_, r1, f1, f2, fun k h1 h2 h3 => f3 k h1 h2 (fun j w a b c => h3 j w (by omega) b c), fun j hj => ⟨fun hd => ?_, fun hd w hw => ?_⟩, fun M' t j hj hd => ?_⟩
      · rw [hop, hno, nI_add]; rfl
      · by_cases e : j = i
        · subst e; exact absurd hd q
        · exact (f4 j (by omega)).1 hd
      · by_cases e : j = i
        · subst e; exact f3 _ (by omega) (by omega) (fun j w a b c => by omega)
        · exact (f4 j (by omega)).2 hd w hw
      · by_cases e : j = i
        · subst e; exact absurd hd q
        · exact f5 M' t j (by omega) hd

