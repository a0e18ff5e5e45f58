/-! ===== low minutes ===== -/
def pLw (p q t : Nat) : Nat := t / p * q + min (t % p) q
theorem pLw_s {p q t : Nat} (h : 0 < p) (hq : q ≤ p) : pLw p q (t + 1) = pLw p q t + (if t % p < q then 1 else 0) := by
  unfold pLw
  have e := Nat.div_add_mod t p
  have l := Nat.mod_lt t h
  generalize t / p = a at e
  generalize t % p = r at e l
  subst e
  by_cases h1 : r + 1 < p
  · rw [Nat.add_assoc, Nat.mul_add_div h, Nat.mul_add_mod, Nat.div_eq_of_lt h1, Nat.mod_eq_of_lt h1, Nat.add_zero]
    by_cases h2 : r < q
    · rw [if_pos h2]; omega
    · rw [if_neg h2]; omega
  · have e2 : p * a + r + 1 = p * (a + 1) + 0 := by rw [Nat.mul_add]; omega
    rw [e2, Nat.mul_add_div h, Nat.mul_add_mod, Nat.zero_div, Nat.zero_mod, Nat.add_zero, Nat.add_mul]
    by_cases h2 : r < q
    · rw [if_pos h2]; omega
    · rw [if_neg h2]; omega
theorem pLw_le {p q t : Nat} (h : 0 < p) (hq : q ≤ p) : pLw p q t ≤ t := by
  induction t with
  | zero => unfold pLw; rw [Nat.zero_div, Nat.zero_mod, Nat.zero_mul]; omega
  | succ t ih =>
    rw [pLw_s h hq]
    split <;> omega
def pLc (p q T : Nat) (i : Nat) : Bool := decide ((T + i) % p < q)
theorem tvCt_s (f : Nat → Bool) (n : Nat) : tvCt f (n + 1) = tvCt f n + (if f n = true then 1 else 0) := rfl
theorem tvCt_le (f : Nat → Bool) (n : Nat) : tvCt f n ≤ n := by
  induction n with
  | zero => exact Nat.le_refl _
  | succ n ih => rw [tvCt_s]; split <;> omega
theorem tvCt_c {f g : Nat → Bool} {n : Nat} (h : ∀ i, i < n → f i = g i) : tvCt f n = tvCt g n := by
  induction n with
  | zero => rfl
  | succ n ih => rw [tvCt_s, tvCt_s, ih fun i hi => h i (by omega), h n (by omega)]
theorem pLw_ct {p q T : Nat} (h : 0 < p) (hq : q ≤ p) (n : Nat) : pLw p q (T + n) = pLw p q T + tvCt (pLc p q T) n := by
  induction n with
  | zero => rfl
  | succ n ih =>
    rw [← Nat.add_assoc, pLw_s h hq, ih, tvCt_s]
    unfold pLc
    by_cases q2 : (T + n) % p < q
    · simp [q2, Nat.add_assoc]
    · simp [q2]
theorem pc_lowB (M : tvM) (b : Nat) {c : Nat → Nat → Int32} (l : Int64) {t p q : Nat} (h1 : c 1 0 = nI p) (h2 : c 1 1 = nI q) (ht : t < 2147483648) (hp : 0 < p) (hp2 : p < 2147483648) (hq : q < 2147483648) : f_X7_lowBefore (puC M b c l) b (nI t) = nI (pLw p q t) := by
  unfold f_X7_lowBefore
  rw [puC_g1, puC_g1, h1, h2, if_pos (show (0 : Int32) < nI p from by rw [pl_0, pn_lt (by omega) hp2]; exact hp), pn_rem ht hp hp2, pn_div ht hp hp2, pn_mul]
  have e : f_J9_min_7cf53 (puC M b c l) (nI (t % p)) (nI q) = nI (min (t % p) q) := by
    have l := Nat.mod_lt t hp
    unfold f_J9_min_7cf53
    by_cases q2 : q < t % p
    · rw [if_pos (by rw [pn_lt hq (by omega)]; exact q2), Nat.min_eq_right (by omega)]
    · rw [if_neg (by rw [pn_lt hq (by omega)]; exact q2), Nat.min_eq_left (by omega)]
  rw [e, nI_add]
  rfl
section
variable {B : Nat} {c : Nat → Nat → Int32} {l : Int64} {s : Nat → Nat}
theorem pc_lowF (hR : pOk B c l s) (M : tvM) {n : Nat} (hn : n ≤ 1000) : f_X7_lowByFormula (puC M 1 c l) 1 (tgi (puC M 1 c l) 1 4) (nI n) = nI (tvCt (pLc (s 1) (s 2) (s 0)) n) := by
  obtain ⟨⟨hb, hs, hh, hx, he, hsum⟩, ⟨hc, hch, hcx, hcl⟩⟩ := id hR
  have hs' := hs
  obtain ⟨s0, s1, s2, s3, s45, s67, s8, s9, s10, s11, sB⟩ := hs
  have hc' := hc
  obtain ⟨c04, c05, c06, c07, cl, c10, c11, c20, c60⟩ := hc
  unfold f_X7_lowByFormula
  rw [puC_g0, c04, nI_add, pc_lowB M 1 l c10 c11 (by omega) (by omega) (by omega) (by omega), pc_lowB M 1 l c10 c11 (by omega) (by omega) (by omega) (by omega), pLw_ct (by omega) (by omega), pn_sub (by omega), Nat.add_sub_cancel_left]
theorem pc_lowC (hR : pOk B c l s) (M : tvM) {n : Nat} (hn : n ≤ 1000) : f_X7_lowByCounting (puC M 1 c l) 1 (tgi (puC M 1 c l) 1 4) (nI n) = nI (tvCt (pLc (s 1) (s 2) (s 0)) n) := by
  obtain ⟨⟨hb, hs, hh, hx, he, hsum⟩, ⟨hc, hch, hcx, hcl⟩⟩ := id hR
  have hs' := hs
  obtain ⟨s0, s1, s2, s3, s45, s67, s8, s9, s10, s11, sB⟩ := hs
  have hc' := hc
  obtain ⟨c04, c05, c06, c07, cl, c10, c11, c20, c60⟩ := hc
  unfold f_X7_lowByCounting
  rw [pn_c (by omega)]
  congr 1
  refine tvCt_c fun i hi => ?_
  rw [puC_g0, c04, nI_add, pc_lowAt M 1 l c10 c11 (by omega) (by omega) (by omega) (by omega)]
  unfold pLc
  by_cases q : (s 0 + i) % s 1 < s 2
  · rw [if_pos q]; simp [q]
  · rw [if_neg q]; simp [q]
theorem px_lowM (hR : pOk B c l s) (M' : tvM) (t : Int32) {n : Nat} (hn : n ≤ 1000) : q_X9_lowMinutes (puN M' s t) (nI n) ∧ f_X9_lowMinutes (puN M' s t) (nI n) = (nI (tvCt (pLc (s 1) (s 2) (s 0)) n), puN M' s (nI 0)) := by
  obtain ⟨⟨hb, hs, hh, hx, he, hsum⟩, ⟨hc, hch, hcx, hcl⟩⟩ := id hR
  have hs' := hs
  obtain ⟨s0, s1, s2, s3, s45, s67, s8, s9, s10, s11, sB⟩ := hs
  have hc' := hc
  obtain ⟨c04, c05, c06, c07, cl, c10, c11, c20, c60⟩ := hc
  have g0 : ∀ m, f_X9_isIn m (nI n) 0 1000 = nI 1 := fun m => px_in1 (lo := 0) (hi := 1000) m (by omega) hn (by omega)
  have gl : ∀ i, i < n → f_X9_low (puN M' s (nI 0)) (tgi (puN M' s (nI 0)) 250 0 + nI i) = if (s 0 + i) % s 1 < s 2 then nI 1 else nI 0 := fun i hi => by
    rw [puN_g, nI_add, px_low _ _ _ (by omega) (by omega) (hb _) (hb _)]
  have he : e_X9_lowMinutes (puN M' s t) (nI n) = .inl (nI (tvCt (pLc (s 1) (s 2) (s 0)) 0), nI 0, puN M' s (nI 0)) := by
    unfold e_X9_lowMinutes
    rw [g0, if_neg (by decide), px_thr, pl_0, puN_pt]
    rfl
  have lp := pFor (s_X9_lowMinutes (nI n)) (qs_X9_lowMinutes (nI n)) (fun i => (nI (tvCt (pLc (s 1) (s 2) (s 0)) i), nI i, puN M' s (nI 0))) n (nI (tvCt (pLc (s 1) (s 2) (s 0)) n), puN M' s (nI 0)) (fun i hi => by
    have := tvCt_le (pLc (s 1) (s 2) (s 0)) i
    unfold s_X9_lowMinutes sb_X9_lowMinutes
    simp only []
    rw [if_neg (by rw [pn_le (by omega) (by omega)]; omega), gl i hi, tvCt_s]
    unfold pLc
    by_cases q : (s 0 + i) % s 1 < s 2
    · rw [if_pos q, if_neg (by decide), nI_1, nI_1]
      simp [q]
    · rw [if_neg q, if_pos (show nI 0 = 0 from rfl), nI_1]
      simp [q]) (fun i hi => by
    unfold qs_X9_lowMinutes qb_X9_lowMinutes
    exact ⟨fun _ => trivial, fun _ => ⟨px_qlow _ _ _ (by omega) (hb _), fun _ => trivial, fun _ => trivial⟩⟩) (by
    unfold s_X9_lowMinutes sb_X9_lowMinutes
    simp only []
    rw [if_pos (by rw [pn_le (by omega) (by omega)]; omega)]) 5000 (by omega)
  rw [← he] at lp
  exact ⟨⟨⟨fun _ => trivial, fun _ => trivial⟩, ⟨_, lp.1⟩, lp.2⟩, pGet lp.1⟩
theorem px_low0 (M' : tvM) (t : Int32) {x : Int32} (h : x < 0 ∨ 1000 < x) : q_X9_lowMinutes (puN M' s t) x ∧ f_X9_lowMinutes (puN M' s t) x = (nI 0, puN M' s (nI 1)) := by
  have g0 : ∀ m, f_X9_isIn m x 0 1000 = 0 := fun m => px_inB m h
  have he : e_X9_lowMinutes (puN M' s t) x = .inr (nI 0, puN M' s (nI 1)) := by
    unfold e_X9_lowMinutes
    rw [g0, if_pos rfl, px_thrn, pl_1, puN_pt]
    rfl
  have lp : pEnd (s_X9_lowMinutes x) (qs_X9_lowMinutes x) 5000 (.inr (nI 0, puN M' s (nI 1))) (nI 0, puN M' s (nI 1)) := pEnd_r _ _
  rw [← he] at lp
  exact ⟨⟨⟨fun _ => trivial, fun _ => trivial⟩, ⟨_, lp.1⟩, lp.2⟩, pGet lp.1⟩
theorem pn_0k {x : Int32} (h : ¬ (x < 0 ∨ 1000 < x)) : ∃ n : Nat, n ≤ 1000 ∧ x = nI n := by
  obtain ⟨n, hn, rfl⟩ := pn_nneg (x := x) (fun q => h (Or.inl q))
  rw [pl_0, pl_1000, pn_lt hn (by omega), pn_lt (by omega) hn] at h
  exact ⟨n, by omega, rfl⟩
theorem pc_refLow (M : tvM) {n : Nat} (hn : n ≤ 1000) : f_X8_refusalOfLowMinutes M (nI n) = 0 := by
  unfold f_X8_refusalOfLowMinutes
  rw [if_neg (pn_neg (by omega)), pl_1000, if_pos (by rw [pn_le (by omega) (by omega)]; exact hn)]
theorem pc_refLow0 (M : tvM) {x : Int32} (h : x < 0 ∨ 1000 < x) : f_X8_refusalOfLowMinutes M x = 2 := by
  unfold f_X8_refusalOfLowMinutes
  by_cases q : x < 0
  · rw [if_pos q]
  · rw [if_neg q, if_neg]
    intro r
    have := h.resolve_left q
    rw [Int32.le_iff_toInt_le] at r
    rw [Int32.lt_iff_toInt_lt] at this
    omega
theorem pAsk_lowMinutes (hR : pOk B c l s) (M : tvM) (x1 : Int32) : pAsk (puC M 1 c l) s (f_X8_lowMinutes (puC M 1 c l) x1) (fun m => f_X9_lowMinutes m x1) (fun m => q_X9_lowMinutes m x1) [("java/lang/IllegalArgumentException", 1)] := by
  by_cases h : x1 < 0 ∨ 1000 < x1
  · refine Or.inr ⟨_, List.mem_singleton.2 rfl, ?_, fun M' t => px_low0 M' t h⟩
    unfold f_X8_lowMinutes
    rw [pc_refLow0 _ h, pRef_2]
    simp
  · obtain ⟨n, hn, rfl⟩ := pn_0k h
    refine Or.inl ⟨nI (tvCt (pLc (s 1) (s 2) (s 0)) n), ?_, fun M' t => px_lowM hR M' t hn⟩
    unfold f_X8_lowMinutes
    rw [pc_refLow _ hn, pRef_0, if_pos rfl, pc_lowF hR M hn]
theorem pAsk_lowMinutesByCounting (hR : pOk B c l s) (M : tvM) (x1 : Int32) : pAsk (puC M 1 c l) s (f_X8_lowMinutesByCounting (puC M 1 c l) x1) (fun m => f_X9_lowMinutesByCounting m x1) (fun m => q_X9_lowMinutesByCounting m x1) [("java/lang/IllegalArgumentException", 1)] := by
  by_cases h : x1 < 0 ∨ 1000 < x1
  · refine Or.inr ⟨_, List.mem_singleton.2 rfl, ?_, fun M' t => ?_⟩
    · unfold f_X8_lowMinutesByCounting
      rw [pc_refLow0 _ h, pRef_2]
      simp
    · obtain ⟨q, e⟩ := px_low0 (s := s) M' t h
      exact ⟨⟨q, trivial⟩, e⟩
  · obtain ⟨n, hn, rfl⟩ := pn_0k h
    refine Or.inl ⟨nI (tvCt (pLc (s 1) (s 2) (s 0)) n), ?_, fun M' t => ?_⟩
    · unfold f_X8_lowMinutesByCounting
      rw [pc_refLow _ hn, pRef_0, if_pos rfl, pc_lowC hR M hn]
    · obtain ⟨q, e⟩ := px_lowM hR M' t hn
      exact ⟨⟨q, trivial⟩, e⟩
/-! ===== boxes of a holder ===== -/
def pBo (s : Nat → Nat) (x : Int32) (i : Nat) : Bool := decide (nI (s (36 + 13 * i)) = x) || decide (nI (s (36 + 13 * i + 1)) = x)
theorem pAsk_boxesOf (hR : pOk B c l s) (M : tvM) (x1 : Int32) : pAsk (puC M 1 c l) s (f_X8_boxesOf (puC M 1 c l) x1) (fun m => f_X9_boxesOf m x1) (fun m => q_X9_boxesOf m x1) [("java/lang/IndexOutOfBoundsException", 1)] := by
  obtain ⟨⟨hb, hs, hh, hx, he, hsum⟩, ⟨hc, hch, hcx, hcl⟩⟩ := id hR
  have hs' := hs
  obtain ⟨s0, s1, s2, s3, s45, s67, s8, s9, s10, s11, sB⟩ := hs
  have hc' := hc
  obtain ⟨c04, c05, c06, c07, cl, c10, c11, c20, c60⟩ := hc
  by_cases h1 : ∃ i, i < s 9 ∧ x1 = nI i
  · have k1 : f_X2_has (puC M 1 c l) 1 x1 = 1 := by obtain ⟨i, hi, rfl⟩ := h1; exact pc_hh1 M 1 l c20 s9 hi
    refine Or.inl ⟨nI (tvCt (pBo s x1) (s 10)), ?_, fun M' t => ?_⟩
    · unfold f_X8_boxesOf f_X8_refusalOfHolderNumber f_X0_countOf
      rw [k1, if_neg p10, pRef_0, if_pos rfl, puC_g6, c60, pn_c (by omega)]
      congr 3
      refine tvCt_c fun i hi => ?_
      obtain ⟨x7, x8, _⟩ := hcx i hi
      rw [pc_belongs M 1 l c60 s10 hi, x7, x8]
      unfold pBo
      rw [Nat.add_zero]
      by_cases q1 : nI (s (36 + 13 * i)) = x1
      · rw [if_pos q1]; simp [q1]
      · rw [if_neg q1]
        by_cases q2 : nI (s (36 + 13 * i + 1)) = x1
        · rw [if_pos q2]; simp [q1, q2]
        · rw [if_neg q2]; simp [q1, q2]
    · have g1 : f_X9_isHolder (puN M' s t) x1 = nI 1 := by obtain ⟨i, hi, rfl⟩ := h1; exact px_hol1 M' s t s9 hi
      have gl : ∀ i, i < 10 → f_X9_isOf (puN M' s (nI 0)) (nI i) x1 = if pBo s x1 i = true then 1 else 0 := fun i hi => by
        unfold f_X9_isOf
        rw [show f_X9_of (puN M' s (nI 0)) (nI i) 0 = nI (s (36 + 13 * i + 0)) from px_of M' s (nI 0) (w := 0) (by omega) (by omega), show f_X9_of (puN M' s (nI 0)) (nI i) 1 = nI (s (36 + 13 * i + 1)) from px_of M' s (nI 0) (w := 1) (by omega) (by omega)]
        unfold pBo
        rw [Nat.add_zero]
        by_cases q1 : nI (s (36 + 13 * i)) = x1
        · rw [if_pos q1]; simp [q1]
        · rw [if_neg q1]
          by_cases q2 : nI (s (36 + 13 * i + 1)) = x1
          · rw [if_pos q2]; simp [q1, q2]
          · rw [if_neg q2]; simp [q1, q2]
      have he' : e_X9_boxesOf (puN M' s t) x1 = .inl (nI (tvCt (pBo s x1) 0), nI 0, puN M' s (nI 0)) := by
        unfold e_X9_boxesOf
        rw [g1, if_neg (by decide), px_thr, pl_0, puN_pt]
        rfl
      have lp := pFor (s_X9_boxesOf x1) (qs_X9_boxesOf x1) (fun i => (nI (tvCt (pBo s x1) i), nI i, puN M' s (nI 0))) (s 10) (nI (tvCt (pBo s x1) (s 10)), puN M' s (nI 0)) (fun i hi => by
        have := tvCt_le (pBo s x1) i
        unfold s_X9_boxesOf sb_X9_boxesOf
        simp only []
        rw [puN_g, if_neg (by rw [pn_le (by omega) (by omega)]; omega), gl i (by omega), tvCt_s]
        by_cases q : pBo s x1 i = true
        · rw [if_pos q, if_neg (by decide), nI_1, nI_1, if_pos q]
        · rw [if_neg q, if_pos rfl, nI_1, if_neg q, Int32.add_zero]
          rfl) (fun i hi => by
        unfold qs_X9_boxesOf qb_X9_boxesOf
        simp only []
        rw [puN_g]
        refine ⟨fun _ => trivial, fun hn => ?_⟩
        rw [pn_le (by omega) (by omega)] at hn
        refine ⟨?_, fun _ => trivial, fun _ => trivial⟩
        unfold q_X9_isOf
        exact ⟨px_qof _ (w := 0) (by omega) (by omega), fun _ => trivial, fun _ => ⟨px_qof _ (w := 1) (by omega) (by omega), fun _ => trivial, fun _ => trivial⟩⟩) (by
        unfold s_X9_boxesOf sb_X9_boxesOf
        simp only []
        rw [puN_g, if_pos (by rw [pn_le (by omega) (by omega)]; omega)]) 5000 (by omega)
      rw [← he'] at lp
      exact ⟨⟨⟨fun _ => trivial, fun _ => trivial⟩, ⟨_, lp.1⟩, lp.2⟩, pGet lp.1⟩
  · refine Or.inr ⟨_, List.mem_singleton.2 rfl, ?_, fun M' t => ?_⟩
    · unfold f_X8_boxesOf f_X8_refusalOfHolderNumber
      rw [pc_hh0 M 1 l c20 s9 h1, if_pos rfl, pRef_1]
      simp
    · have he' : e_X9_boxesOf (puN M' s t) x1 = .inr (nI 0, puN M' s (nI 1)) := by
        unfold e_X9_boxesOf
        rw [px_hol0 M' s t x1 s9 h1, if_pos (show nI 0 = 0 from rfl), px_thrn, pl_1, puN_pt]
        rfl
      have lp : pEnd (s_X9_boxesOf x1) (qs_X9_boxesOf x1) 5000 (.inr (nI 0, puN M' s (nI 1))) (nI 0, puN M' s (nI 1)) := pEnd_r _ _
      rw [← he'] at lp
      exact ⟨⟨⟨fun _ => trivial, fun _ => trivial⟩, ⟨_, lp.1⟩, lp.2⟩, pGet lp.1⟩
/-! ===== what the pearls of a box are worth ===== -/
theorem psm_le {f : Nat → Nat} {n m : Nat} (h : ∀ i, i < n → f i ≤ m) : psm f n ≤ n * m := by
  induction n with
  | zero => exact Nat.zero_le _
  | succ n ih =>
    have h1 := ih fun i hi => h i (by omega)
    have h2 := h n (by omega)
    show psm f n + f n ≤ _
    rw [Nat.add_mul]
    omega
theorem pWo_le (hR : pOk B c l s) {i : Nat} (hi : i < 10) : pWo s i ≤ 495 := by
  have hx := hR.1.2.2.2.1 i hi
  have := psm_le (f := fun j => s (36 + 13 * i + (8 + j))) (n := s (36 + 13 * i + 7)) (m := 99) (fun j hj => hx.2.2.2.2.2.1 j (by have := hx.2.2.2.2.1; omega))
  have := hx.2.2.2.2.1
  unfold pWo
  omega
theorem tvSm_n {f : Nat → Int32} {g : Nat → Nat} {n : Nat} (h : ∀ i, i < n → f i = nI (g i)) : tvSm f n = nI (psm g n) := by
  induction n with
  | zero => rfl
  | succ n ih =>
    show tvSm f n + f n = _
    rw [ih fun i hi => h i (by omega), h n (by omega), nI_add]
    rfl
theorem tvSl_n {f : Nat → Int64} {g : Nat → Nat} {n : Nat} (h : ∀ i, i < n → f i = lN (g i)) : tvSl f n = lN (psm g n) := by
  induction n with
  | zero => rfl
  | succ n ih =>
    show tvSl f n + f n = _
    rw [ih fun i hi => h i (by omega), h n (by omega), lN_add]
    rfl
theorem pc_sumIn (hR : pOk B c l s) (M : tvM) (b : Nat) {i : Nat} (hi : i < s 10) : f_X0_sumIn (puC M b c l) b (nI i) = nI (pWo s i) := by
  obtain ⟨⟨hb, hs, hh, hx, he, hsum⟩, ⟨hc, hch, hcx, hcl⟩⟩ := id hR
  have hs' := hs
  obtain ⟨s0, s1, s2, s3, s45, s67, s8, s9, s10, s11, sB⟩ := hs
  have hc' := hc
  obtain ⟨c04, c05, c06, c07, cl, c10, c11, c20, c60⟩ := hc
  obtain ⟨x7, x8, x9, xst, xf, xs, xr, xp, xv⟩ := hcx i hi
  have h5 := (hx i (by omega)).2.2.2.2.1
  unfold f_X0_sumIn
  rw [pc_pearls M b l c60 s10 hi, xp, pn_c (hb _)]
  exact tvSm_n fun j hj => by rw [pc_value M b l c60 s10 hi (by omega), xv j hj]
theorem pc_sumAll (hR : pOk B c l s) (M : tvM) (b : Nat) : f_X0_sumOfAll (puC M b c l) b = lN (pSu s) := by
  obtain ⟨⟨hb, hs, hh, hx, he, hsum⟩, ⟨hc, hch, hcx, hcl⟩⟩ := id hR
  have hs' := hs
  obtain ⟨s0, s1, s2, s3, s45, s67, s8, s9, s10, s11, sB⟩ := hs
  have hc' := hc
  obtain ⟨c04, c05, c06, c07, cl, c10, c11, c20, c60⟩ := hc
  unfold f_X0_sumOfAll
  rw [puC_g6, c60, pn_c (by omega)]
  exact tvSl_n fun i hi => by rw [pc_sumIn hR M b hi, pn_l (by have := pWo_le hR (i := i) (by omega); omega)]
theorem pc_pearlsAll (hR : pOk B c l s) (M : tvM) (b : Nat) : f_X0_pearlsInAll (puC M b c l) b = nI (psm (fun i => s (36 + 13 * i + 7)) (s 10)) := by
  obtain ⟨⟨hb, hs, hh, hx, he, hsum⟩, ⟨hc, hch, hcx, hcl⟩⟩ := id hR
  have hs' := hs
  obtain ⟨s0, s1, s2, s3, s45, s67, s8, s9, s10, s11, sB⟩ := hs
  have hc' := hc
  obtain ⟨c04, c05, c06, c07, cl, c10, c11, c20, c60⟩ := hc
  unfold f_X0_pearlsInAll
  rw [puC_g6, c60, pn_c (by omega)]
  exact tvSm_n fun i hi => by rw [pc_pearls M b l c60 s10 hi, (hcx i hi).2.2.2.2.2.2.2.1]
theorem px_worth (hR : pOk B c l s) (M' : tvM) (t : Int32) {i : Nat} (hi : i < 10) : q_X9_worth (puN M' s t) (nI i) ∧ f_X9_worth (puN M' s t) (nI i) = nI (pWo s i) := by
  obtain ⟨⟨hb, hs, hh, hx, he, hsum⟩, ⟨hc, hch, hcx, hcl⟩⟩ := id hR
  have hs' := hs
  obtain ⟨s0, s1, s2, s3, s45, s67, s8, s9, s10, s11, sB⟩ := hs
  have hc' := hc
  obtain ⟨c04, c05, c06, c07, cl, c10, c11, c20, c60⟩ := hc
  have h5 := (hx i hi).2.2.2.2.1
  have e7 : f_X9_of (puN M' s t) (nI i) 7 = nI (s (36 + 13 * i + 7)) := px_of M' s t (w := 7) hi (by omega)
  have he' : e_X9_worth (puN M' s t) (nI i) = .inl (nI (psm (fun j => s (36 + 13 * i + (8 + j))) 0), nI 0) := rfl
  have lp := pFor (s_X9_worth (puN M' s t) (nI i)) (qs_X9_worth (puN M' s t) (nI i)) (fun j => (nI (psm (fun j => s (36 + 13 * i + (8 + j))) j), nI j)) (s (36 + 13 * i + 7)) (nI (pWo s i)) (fun j hj => by
    unfold s_X9_worth sb_X9_worth
    simp only []
    rw [e7, if_neg (by rw [pn_le (by omega) (by omega)]; omega), show (8 : Int32) + nI j = nI (8 + j) from by rw [show (8 : Int32) = nI 8 from rfl, nI_add], px_of M' s t hi (by omega), nI_add, nI_1]
    rfl) (fun j hj => by
    unfold qs_X9_worth qb_X9_worth
    simp only []
    refine ⟨px_qof _ (w := 7) hi (by omega), fun _ => trivial, fun hn => ⟨?_, trivial⟩⟩
    rw [e7, pn_le (by omega) (by omega)] at hn
    rw [show (8 : Int32) + nI j = nI (8 + j) from by rw [show (8 : Int32) = nI 8 from rfl, nI_add]]
    exact px_qof _ hi (by omega)) (by
    unfold s_X9_worth sb_X9_worth
    simp only []
    rw [e7, if_pos (by rw [pn_le (by omega) (by omega)]; omega)]
    rfl) 5000 (by omega)
  rw [← he'] at lp
  exact ⟨⟨trivial, ⟨_, lp.1⟩, lp.2⟩, pGet lp.1⟩
theorem px_total (hR : pOk B c l s) (M' : tvM) (t : Int32) : q_X9_totalValue (puN M' s t) ∧ f_X9_totalValue (puN M' s t) = (lN (pSu s), puN M' s (nI 0)) := by
  obtain ⟨⟨hb, hs, hh, hx, he, hsum⟩, ⟨hc, hch, hcx, hcl⟩⟩ := id hR
  have hs' := hs
  obtain ⟨s0, s1, s2, s3, s45, s67, s8, s9, s10, s11, sB⟩ := hs
  have hc' := hc
  obtain ⟨c04, c05, c06, c07, cl, c10, c11, c20, c60⟩ := hc
  have he' : e_X9_totalValue (puN M' s t) = .inl (lN (psm (pWo s) 0), nI 0, puN M' s (nI 0)) := by
    unfold e_X9_totalValue
    rw [show (tpi (puN M' s t) 249 5 0) = puN M' s (nI 0) from puN_pt _ _ _ _]
    rfl
  have lp := pFor s_X9_totalValue qs_X9_totalValue (fun i => (lN (psm (pWo s) i), nI i, puN M' s (nI 0))) (s 10) (lN (pSu s), puN M' s (nI 0)) (fun i hi => by
    have hw := pWo_le hR (i := i) (by omega)
    unfold s_X9_totalValue sb_X9_totalValue
    simp only []
    rw [puN_g, if_neg (by rw [pn_le (by omega) (by omega)]; omega), (px_worth hR M' _ (i := i) (by omega)).2, pn_l (by omega), lN_add, nI_1]
    rfl) (fun i hi => by
    unfold qs_X9_totalValue qb_X9_totalValue
    simp only []
    rw [puN_g]
    refine ⟨fun _ => trivial, fun hn => ?_⟩
    rw [pn_le (by omega) (by omega)] at hn
    exact ⟨(px_worth hR M' _ (i := i) (by omega)).1, trivial⟩) (by
    unfold s_X9_totalValue sb_X9_totalValue
    simp only []
    rw [puN_g, if_pos (by rw [pn_le (by omega) (by omega)]; omega)]
    rfl) 5000 (by omega)
  rw [← he'] at lp
  exact ⟨⟨trivial, ⟨_, lp.1⟩, lp.2⟩, pGet lp.1⟩
theorem px_ledger (hR : pOk B c l s) (M' : tvM) (t : Int32) : f_X9_totalValueByLedger (puN M' s t) = (lN (pSu s), puN M' s (nI 0)) := by
  obtain ⟨⟨hb, hs, hh, hx, he, hsum⟩, ⟨hc, hch, hcx, hcl⟩⟩ := id hR
  have hs' := hs
  obtain ⟨s0, s1, s2, s3, s45, s67, s8, s9, s10, s11, sB⟩ := hs
  have hc' := hc
  obtain ⟨c04, c05, c06, c07, cl, c10, c11, c20, c60⟩ := hc
  unfold f_X9_totalValueByLedger
  rw [show (tpi (puN M' s t) 249 5 0) = puN M' s (nI 0) from puN_pt _ _ _ _, puN_g, puN_g, pn_l (hb _), pn_l (hb _), lN_sub (by omega), show s 6 - s 7 = pSu s by omega]
end

