/-! ===== minutes one after the other ===== -/
def pIt (s : Nat → Nat) : Nat → Nat → Nat
  | 0 => s
  | n + 1 => pMin (pIt s n)
def pItO (s : Nat → Nat) : Nat → Nat
  | 0 => 0
  | n + 1 => pItO s n + pMO (pIt s n)
theorem pXi_itA {z : Nat × Nat} {s : Nat → Nat} (h10 : s 10 ≤ 10) (h11 : s 11 ≤ 12) (hX : pXi z s) : ∀ n, pXi z (pIt s n) ∧ pIt s n 11 ≤ 12 ∧ pIt s n 10 = s 10 := by
  intro n
  induction n with
  | zero => exact ⟨hX, h11, rfl⟩
  | succ n ih =>
    obtain ⟨a, b, c⟩ := ih
    rw [pIt]
    have := pXi_min a (by omega) b
    exact ⟨this.1, this.2, by rw [pMin_10]; exact c⟩
theorem pXi_it {z : Nat × Nat} {s : Nat → Nat} (h10 : s 10 ≤ 10) (h11 : s 11 ≤ 12) (hX : pXi z s) (n : Nat) : pXi z (pIt s n) := (pXi_itA h10 h11 hX n).1
theorem pMins {B : Nat} {c : Nat → Nat → Int32} {l : Int64} {s : Nat → Nat} (hR : pOk B c l s) : ∀ n, B + n ≤ 10000000 → ∃ c' : Nat → Nat → Int32, (∀ M b, tvLp (puC M b c l) b n = (nI (pItO s n), puC M b c' l)) ∧ pOk (B + n) c' l (pIt s n) ∧ (∀ M' t i, i < n → q_X9_minutePasses (puN M' (pIt s i) t) ∧ f_X9_minutePasses (puN M' (pIt s i) t) = puN M' (pIt s (i + 1)) t) ∧ (∀ k, k < 36 → k ≠ 0 → k ≠ 3 → k ≠ 8 → k ≠ 11 → pIt s n k = s k) ∧ pIt s n 0 = s 0 + n ∧ pIt s n 8 = s 8 + pItO s n ∧ pItO s n ≤ 10 * n := by
  intro n
  induction n with
  | zero => intro _; exact ⟨c, fun M b => rfl, hR, fun M' t i hi => by omega, fun k _ _ _ _ _ => rfl, rfl, rfl, Nat.le_refl 0⟩
  | succ n ih =>
    intro hB
    obtain ⟨c1, g1, r1, m1, k1, z1, e1, b1⟩ := ih (by omega)
    obtain ⟨c2, g2, m2, r2, k2, z2, e2, b2, -⟩ := pMinute r1 (by omega)
    have h10 : pIt s n 10 ≤ 10 := by have := r1.1.2.1; unfold pRs at this; omega
    refine ⟨c2, fun M b => ?_, r2, fun M' t i hi => ?_, fun k h1 h2 h3 h4 h5 => ?_, ?_, ?_, ?_⟩
    · show ((tvLp (puC M b c l) b n).1 + (f_X6_minute (tvLp (puC M b c l) b n).2 b).1, (f_X6_minute (tvLp (puC M b c l) b n).2 b).2) = _
      rw [g1]
      simp only []
      rw [g2, nI_add]
      rfl
    · by_cases e : i = n
      · subst e; exact m2 M' t
      · exact m1 M' t i (by omega)
    · show pMin (pIt s n) k = s k
      rw [k2 k h1 h2 h3 h4 h5]; exact k1 k h1 h2 h3 h4 h5
    · show pMin (pIt s n) 0 = _
      rw [z2, z1]; omega
    · show pMin (pIt s n) 8 = s 8 + (pItO s n + pMO (pIt s n))
      rw [e2, e1]; omega
    · show pItO s n + pMO (pIt s n) ≤ _
      omega
theorem pSim_waits {B : Nat} {c : Nat → Nat → Int32} {l : Int64} {s : Nat → Nat} (b : Nat) (hR : pOk B c l s) (hB : B + 240 ≤ 10000000) (x1 : Int32) : pSim B c l s b (fun m => f_X6_refusalOfWait m b x1) (fun m => f_X6_letPass m b x1) (fun m => m) (fun m => f_X9_waits m x1) (fun m => q_X9_waits m x1) [(2, 1)] True 0 := by
  intro M M1 M' t
  obtain ⟨⟨hb, hs, hh, hx, he, hsum⟩, ⟨hc, hch, hcx, hcl⟩⟩ := id hR
  have hs' := hs
  obtain ⟨s0, s1, s2, s3, s45, s67, s8, s9, s10, s11, sB⟩ := hs
  have hc' := hc
  obtain ⟨c04, c05, c06, c07, cl, c10, c11, c20, c60⟩ := hc
  by_cases hbad : x1 < 1 ∨ 240 < x1
  · have hin : ∀ m, f_X9_isIn m x1 1 240 = 0 := fun m => px_inB m hbad
    refine Or.inr (Or.inl ⟨(2, 1), by simp, ?_, ?_⟩)
    · show f_X6_refusalOfWait _ _ _ = 2
      unfold f_X6_refusalOfWait
      by_cases q : x1 < 1
      · rw [if_pos q]
      · rw [if_neg q, if_neg]
        intro r
        have := hbad.resolve_left q
        rw [Int32.le_iff_toInt_le] at r
        rw [Int32.lt_iff_toInt_lt] at this
        omega
    · have l0 : pEnd (s_X9_waits x1) (qs_X9_waits x1) 5000 (e_X9_waits (puN M' s t) x1) (nI 0, puN M' s (nI 1)) := by
        have : e_X9_waits (puN M' s t) x1 = .inr (nI 0, puN M' s (nI 1)) := by
          unfold e_X9_waits
          rw [hin, if_pos rfl]
          simp (disch := first | omega | exact hb _) only [pl_0, pl_1, pl_2, pl_3, pl_4, pl_5, pl_6, pl_7, pl_8, pl_9, pl_10, pl_11, pl_12, pl_13, pl_25, pl_30, pl_36, pl_50, pl_60, pl_98, pl_99, pl_100, pl_102, pl_104, pl_105, pl_108, pl_111, pl_112, pl_116, pl_119, pl_166, pl_199, pl_202, pl_239, pl_240, pl_480, pl_999, pl_1000, puN_g, puN_p, puN_pt, px_thr0, px_thr1, px_qthr0, px_qthr1, nI_add, pn_mul, pn_c, pn_le, pn_lt, pn_eq, px_of, px_sets, px_ofh, px_seth, px_qof, px_qsets, px_qofh, px_qseth, pun_s, pun_n, ↓reduceIte]
        rw [this]
        exact pEnd_r _ _
      refine ⟨⟨?_, ⟨_, l0.1⟩, l0.2⟩, pGet l0.1⟩
      unfold qe_X9_waits
      exact ⟨fun _ => trivial, fun h => absurd (hin _) h⟩
  obtain ⟨n, hn1, hn2, rfl⟩ : ∃ n : Nat, 1 ≤ n ∧ n ≤ 240 ∧ x1 = nI n := by
    obtain ⟨v, hv, rfl⟩ := pn_nneg (x := x1) (fun q => hbad (Or.inl (by
      rw [Int32.lt_iff_toInt_lt] at q ⊢
      have : (0 : Int32).toInt = 0 := by decide
      have : (1 : Int32).toInt = 1 := by decide
      omega)))
    rw [pl_1, pl_240, pn_lt hv (by omega), pn_lt (by omega) hv] at hbad
    exact ⟨v, by omega, by omega, rfl⟩
  have hin : ∀ m, f_X9_isIn m (nI n) 1 240 = nI 1 := fun m => px_in1 (lo := 1) (hi := 240) m hn1 hn2 (by omega)
  obtain ⟨c', g, r, m, k, z, e8, bd⟩ := pMins hR n (by omega)
  refine Or.inl ⟨?_, pItO s n, c', l, pIt s n, by omega, ?_, ?_⟩
  · show f_X6_refusalOfWait _ _ _ = 0
    unfold f_X6_refusalOfWait
    rw [if_neg (fun h => hbad (Or.inl h)), if_pos]
    rw [pl_240, pn_le (by omega) (by omega)]
    exact hn2
  · show tvLp _ _ _ = _
    rw [pn_c (by omega), g]
  · have l0 : pEnd (s_X9_waits (nI n)) (qs_X9_waits (nI n)) (1 + n) (e_X9_waits (puN M' s t) (nI n)) (nI (pItO s n), puN M' (pIt s n) (nI 0)) := by
      have : e_X9_waits (puN M' s t) (nI n) = .inl (nI (s 8), nI 0, puN M' (pIt s 0) (nI 0)) := by
        unfold e_X9_waits
        rw [hin, if_neg (by decide)]
        simp (disch := first | omega | exact hb _) only [pl_0, pl_1, pl_2, pl_3, pl_4, pl_5, pl_6, pl_7, pl_8, pl_9, pl_10, pl_11, pl_12, pl_13, pl_25, pl_30, pl_36, pl_50, pl_60, pl_98, pl_99, pl_100, pl_102, pl_104, pl_105, pl_108, pl_111, pl_112, pl_116, pl_119, pl_166, pl_199, pl_202, pl_239, pl_240, pl_480, pl_999, pl_1000, puN_g, puN_p, puN_pt, px_thr0, px_thr1, px_qthr0, px_qthr1, nI_add, pn_mul, pn_c, pn_le, pn_lt, pn_eq, px_of, px_sets, px_ofh, px_seth, px_qof, px_qsets, px_qofh, px_qseth, pun_s, pun_n, ↓reduceIte]
        rfl
      rw [this]
      refine pEnd_n (fun i => (nI (s 8), nI i, puN M' (pIt s i) (nI 0))) n (fun i hi => ?_) (fun i hi => ?_) (pEnd_1 (y := .inr _) ?_ ?_ (pEnd_r 0 _))
      · unfold s_X9_waits sb_X9_waits
        simp only []
        rw [if_neg (by rw [pn_le (by omega) (by omega)]; omega), (m M' _ i hi).2, nI_1]
      · unfold qs_X9_waits qb_X9_waits
        exact ⟨fun _ => trivial, fun _ => ⟨(m M' _ i hi).1, trivial⟩⟩
      · unfold s_X9_waits sb_X9_waits
        simp only []
        rw [if_pos (by rw [pn_le (by omega) (by omega)]; omega), puN_g, e8, pn_sub (by omega), Nat.add_sub_cancel_left]
      · unfold qs_X9_waits qb_X9_waits
        refine ⟨fun _ => trivial, fun hn => ?_⟩
        simp only [] at hn
        rw [pn_le (by omega) (by omega)] at hn
        omega
    have l1 := pEnd_to (F' := 5000) l0 (by omega)
    refine ⟨⟨?_, ⟨_, l1.1⟩, l1.2⟩, pGet l1.1, r.up (by omega) hB, fun _ z hX => pXi_it s10 s11 hX n, Nat.zero_le _⟩
    unfold qe_X9_waits
    exact ⟨fun _ => trivial, fun _ => trivial⟩

