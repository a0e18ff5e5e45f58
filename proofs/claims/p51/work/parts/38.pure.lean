/-! ===== one box's changes ===== -/
theorem pOk_shut0 {B : Nat} {c : Nat → Nat → Int32} {l : Int64} {s : Nat → Nat} {i : Nat} (hR : pOk B c l s) (hi : i < s 10) (v : Int32) : pOk B (tvU (tvU c 10 i 99) 13 i v) l (pun (pun (pun (pun s (36 + 13 * i + 3) 0) (36 + 13 * i + 4) 0) (36 + 13 * i + 5) 0) (36 + 13 * i + 6) 0) := by
  obtain ⟨⟨hb, hs, hh, hx, he, hsum⟩, ⟨hc, hch, hcx, hcl⟩⟩ := id hR
  have hs' := hs
  obtain ⟨s0, s1, s2, s3, s45, s67, s8, s9, s10, s11, sB⟩ := hs
  have hc' := hc
  obtain ⟨c04, c05, c06, c07, cl, c10, c11, c20, c60⟩ := hc
  have hxi := hx i (by omega)
  have hci := hcx i hi
  obtain ⟨d1, d2, d3, d4, d5, d6, d7⟩ := hxi
  obtain ⟨e1, e2, e3, e4, e5, e6, e7, e8, e9⟩ := hci
  refine pOk_bx (i := i) hR hi ?_ (fun k hk => ?_) (fun p k hk => ?_) ?_ ?_
  · exact pun_b (pun_b (pun_b (pun_b hb _ _ (by omega)) _ _ (by omega)) _ _ (by omega)) _ _ (by omega)
  · have k3 := hk 3 (by omega) (by omega)
    have k4 := hk 4 (by omega) (by omega)
    have k5 := hk 5 (by omega) (by omega)
    have k6 := hk 6 (by omega) (by omega)
    simp (disch := omega) only [pun_n]
  · rcases hk with hk | hk | hk
    · simp (disch := omega) only [pcu_r]
    · simp (disch := omega) only [pcu_r]
    · unfold tvU
      simp only [hk, and_false, if_false]
  · unfold pRx
    simp (disch := omega) only [pun_s, pun_n]
    refine ⟨d1, by omega, by omega, by omega, d5, d6, fun q => absurd hi (by omega)⟩
  · unfold pCx
    simp (disch := omega) only [pun_s, pun_n, pcu_r, pcu_s]
    exact ⟨e1, e2, e3, rfl, fun q => by omega, fun q => by omega, fun q => by omega, e8, e9⟩
theorem pOk_open0 {B : Nat} {c : Nat → Nat → Int32} {l : Int64} {s : Nat → Nat} {i : Nat} (hR : pOk B c l s) (hi : i < s 10)  : pOk B (tvU (tvU c 10 i 111) 13 i (nI (s 0))) l (pun (pun s (36 + 13 * i + 3) 3) (36 + 13 * i + 5) (s 0)) := by
  obtain ⟨⟨hb, hs, hh, hx, he, hsum⟩, ⟨hc, hch, hcx, hcl⟩⟩ := id hR
  have hs' := hs
  obtain ⟨s0, s1, s2, s3, s45, s67, s8, s9, s10, s11, sB⟩ := hs
  have hc' := hc
  obtain ⟨c04, c05, c06, c07, cl, c10, c11, c20, c60⟩ := hc
  have hxi := hx i (by omega)
  have hci := hcx i hi
  obtain ⟨d1, d2, d3, d4, d5, d6, d7⟩ := hxi
  obtain ⟨e1, e2, e3, e4, e5, e6, e7, e8, e9⟩ := hci
  refine pOk_bx (i := i) hR hi ?_ (fun k hk => ?_) (fun p k hk => ?_) ?_ ?_
  · exact pun_b (pun_b hb _ _ (by omega)) _ _ (hb _)
  · have k3 := hk 3 (by omega) (by omega)
    have k4 := hk 4 (by omega) (by omega)
    have k5 := hk 5 (by omega) (by omega)
    have k6 := hk 6 (by omega) (by omega)
    simp (disch := omega) only [pun_n]
  · rcases hk with hk | hk | hk
    · simp (disch := omega) only [pcu_r]
    · simp (disch := omega) only [pcu_r]
    · unfold tvU
      simp only [hk, and_false, if_false]
  · unfold pRx
    simp (disch := omega) only [pun_s, pun_n]
    refine ⟨d1, by omega, by omega, by omega, d5, d6, fun q => absurd hi (by omega)⟩
  · unfold pCx
    simp (disch := omega) only [pun_s, pun_n, pcu_r, pcu_s]
    exact ⟨e1, e2, e3, rfl, fun q => by omega, fun _ => trivial, fun q => by omega, e8, e9⟩
theorem pOk_half0 {B : Nat} {c : Nat → Nat → Int32} {l : Int64} {s : Nat → Nat} {i : Nat} (hR : pOk B c l s) (hi : i < s 10) {h : Nat} (hh : h < 8) : pOk B (tvU (tvU (tvU c 11 i (nI h)) 10 i 104) 13 i (nI (s 0))) l (pun (pun (pun s (36 + 13 * i + 3) 1) (36 + 13 * i + 4) h) (36 + 13 * i + 5) (s 0)) := by
  obtain ⟨⟨hb, hs, hh, hx, he, hsum⟩, ⟨hc, hch, hcx, hcl⟩⟩ := id hR
  have hs' := hs
  obtain ⟨s0, s1, s2, s3, s45, s67, s8, s9, s10, s11, sB⟩ := hs
  have hc' := hc
  obtain ⟨c04, c05, c06, c07, cl, c10, c11, c20, c60⟩ := hc
  have hxi := hx i (by omega)
  have hci := hcx i hi
  obtain ⟨d1, d2, d3, d4, d5, d6, d7⟩ := hxi
  obtain ⟨e1, e2, e3, e4, e5, e6, e7, e8, e9⟩ := hci
  refine pOk_bx (i := i) hR hi ?_ (fun k hk => ?_) (fun p k hk => ?_) ?_ ?_
  · exact pun_b (pun_b (pun_b hb _ _ (by omega)) _ _ (by omega)) _ _ (hb _)
  · have k3 := hk 3 (by omega) (by omega)
    have k4 := hk 4 (by omega) (by omega)
    have k5 := hk 5 (by omega) (by omega)
    have k6 := hk 6 (by omega) (by omega)
    simp (disch := omega) only [pun_n]
  · rcases hk with hk | hk | hk
    · simp (disch := omega) only [pcu_r]
    · simp (disch := omega) only [pcu_r]
    · unfold tvU
      simp only [hk, and_false, if_false]
  · unfold pRx
    simp (disch := omega) only [pun_s, pun_n]
    refine ⟨d1, by omega, by omega, by omega, d5, d6, fun q => absurd hi (by omega)⟩
  · unfold pCx
    simp (disch := omega) only [pun_s, pun_n, pcu_r, pcu_s]
    exact ⟨e1, e2, e3, rfl, fun _ => trivial, fun _ => trivial, fun q => by omega, e8, e9⟩
theorem pOk_pend0 {B : Nat} {c : Nat → Nat → Int32} {l : Int64} {s : Nat → Nat} {i : Nat} (hR : pOk B c l s) (hi : i < s 10)  : pOk B (tvU (tvU c 10 i 112) 12 i (c 9 i)) l (pun (pun s (36 + 13 * i + 3) 2) (36 + 13 * i + 6) (s (36 + 13 * i + 2))) := by
  obtain ⟨⟨hb, hs, hh, hx, he, hsum⟩, ⟨hc, hch, hcx, hcl⟩⟩ := id hR
  have hs' := hs
  obtain ⟨s0, s1, s2, s3, s45, s67, s8, s9, s10, s11, sB⟩ := hs
  have hc' := hc
  obtain ⟨c04, c05, c06, c07, cl, c10, c11, c20, c60⟩ := hc
  have hxi := hx i (by omega)
  have hci := hcx i hi
  obtain ⟨d1, d2, d3, d4, d5, d6, d7⟩ := hxi
  obtain ⟨e1, e2, e3, e4, e5, e6, e7, e8, e9⟩ := hci
  refine pOk_bx (i := i) hR hi ?_ (fun k hk => ?_) (fun p k hk => ?_) ?_ ?_
  · exact pun_b (pun_b hb _ _ (by omega)) _ _ (hb _)
  · have k3 := hk 3 (by omega) (by omega)
    have k4 := hk 4 (by omega) (by omega)
    have k5 := hk 5 (by omega) (by omega)
    have k6 := hk 6 (by omega) (by omega)
    simp (disch := omega) only [pun_n]
  · rcases hk with hk | hk | hk
    · simp (disch := omega) only [pcu_r]
    · simp (disch := omega) only [pcu_r]
    · unfold tvU
      simp only [hk, and_false, if_false]
  · unfold pRx
    simp (disch := omega) only [pun_s, pun_n]
    refine ⟨d1, by omega, by omega, by omega, d5, d6, fun q => absurd hi (by omega)⟩
  · unfold pCx
    simp (disch := omega) only [pun_s, pun_n, pcu_r, pcu_s]
    exact ⟨e1, e2, e3, rfl, fun q => by omega, fun q => by omega, fun _ => e3, e8, e9⟩
theorem pOk_down0 {B : Nat} {c : Nat → Nat → Int32} {l : Int64} {s : Nat → Nat} {i : Nat} (hR : pOk B c l s) (hi : i < s 10) (h2 : s (36 + 13 * i + 3) = 2) {v : Nat} (hv : v ≤ 60) : pOk B (tvU c 12 i (nI v)) l (pun s (36 + 13 * i + 6) v) := by
  obtain ⟨⟨hb, hs, hh, hx, he, hsum⟩, ⟨hc, hch, hcx, hcl⟩⟩ := id hR
  have hs' := hs
  obtain ⟨s0, s1, s2, s3, s45, s67, s8, s9, s10, s11, sB⟩ := hs
  have hc' := hc
  obtain ⟨c04, c05, c06, c07, cl, c10, c11, c20, c60⟩ := hc
  have hxi := hx i (by omega)
  have hci := hcx i hi
  obtain ⟨d1, d2, d3, d4, d5, d6, d7⟩ := hxi
  obtain ⟨e1, e2, e3, e4, e5, e6, e7, e8, e9⟩ := hci
  refine pOk_bx (i := i) hR hi ?_ (fun k hk => ?_) (fun p k hk => ?_) ?_ ?_
  · exact pun_b hb _ _ (by omega)
  · have k3 := hk 3 (by omega) (by omega)
    have k4 := hk 4 (by omega) (by omega)
    have k5 := hk 5 (by omega) (by omega)
    have k6 := hk 6 (by omega) (by omega)
    simp (disch := omega) only [pun_n]
  · rcases hk with hk | hk | hk
    · simp (disch := omega) only [pcu_r]
    · simp (disch := omega) only [pcu_r]
    · unfold tvU
      simp only [hk, and_false, if_false]
  · unfold pRx
    simp (disch := omega) only [pun_s, pun_n]
    refine ⟨d1, by omega, by omega, by omega, d5, d6, fun q => absurd hi (by omega)⟩
  · unfold pCx
    simp (disch := omega) only [pun_s, pun_n, pcu_r, pcu_s]
    exact ⟨e1, e2, e3, e4, e5, e6, fun _ => trivial, e8, e9⟩

theorem pOk_left0 {B : Nat} {c : Nat → Nat → Int32} {l : Int64} {s : Nat → Nat} {i : Nat} (hR : pOk B c l s) (hi : i < s 10) (h2 : s (36 + 13 * i + 3) ≠ 2) {v : Nat} (hv : v ≤ 60) : pOk B c l (pun s (36 + 13 * i + 6) v) := by
  obtain ⟨⟨hb, hs, hh, hx, he, hsum⟩, ⟨hc, hch, hcx, hcl⟩⟩ := id hR
  have hs' := hs
  obtain ⟨s0, s1, s2, s3, s45, s67, s8, s9, s10, s11, sB⟩ := hs
  have hc' := hc
  obtain ⟨c04, c05, c06, c07, cl, c10, c11, c20, c60⟩ := hc
  have hxi := hx i (by omega)
  have hci := hcx i hi
  obtain ⟨d1, d2, d3, d4, d5, d6, d7⟩ := hxi
  obtain ⟨e1, e2, e3, e4, e5, e6, e7, e8, e9⟩ := hci
  refine pOk_bx (i := i) hR hi (pun_b hb _ _ (by omega)) (fun k hk => ?_) (fun p k hk => rfl) ?_ ?_
  · have k6 := hk 6 (by omega) (by omega)
    simp (disch := omega) only [pun_n]
  · unfold pRx
    simp (disch := omega) only [pun_s, pun_n]
    refine ⟨d1, by omega, by omega, by omega, d5, d6, fun q => absurd hi (by omega)⟩
  · unfold pCx
    simp (disch := omega) only [pun_s, pun_n, pcu_r, pcu_s]
    exact ⟨e1, e2, e3, e4, e5, e6, fun q => absurd q h2, e8, e9⟩
theorem pOk_opened {B : Nat} {c : Nat → Nat → Int32} {l : Int64} {s : Nat → Nat} (hR : pOk B c l s) (h8 : s 8 + 1 ≤ 10 * B) : pOk B c l (pun s 8 (s 8 + 1)) := by
  obtain ⟨⟨hb, hs, hh, hx, he, hsum⟩, ⟨hc, hch, hcx, hcl⟩⟩ := id hR
  have hs' := hs
  obtain ⟨s0, s1, s2, s3, s45, s67, s8, s9, s10, s11, sB⟩ := hs
  have hc' := hc
  obtain ⟨c04, c05, c06, c07, cl, c10, c11, c20, c60⟩ := hc
  refine pOk_sc hR (pun_b hb _ _ (by omega)) ?_ (by simp (disch := omega) only [pun_n]; omega) (fun k hk => by simp (disch := omega) only [pun_n]) (fun p k hp => rfl) ?_
  · unfold pRs at hs' ⊢
    simp (disch := omega) only [pun_s, pun_n]
    omega
  · unfold pCs
    simp (disch := omega) only [pun_n, pun_s, pcu_r, pcu_k, pcu_s, true_and]
    exact ⟨c04, c05, c06, c07, cl, c10, c11, c20, c60⟩
/-- what the class reads of a box -/
theorem pOk.st {B : Nat} {c : Nat → Nat → Int32} {l : Int64} {s : Nat → Nat} {i : Nat} (hR : pOk B c l s) (hi : i < s 10) (M : tvM) (b : Nat) : f_X0_statusOf (puC M b c l) b (nI i) = pSt (s (36 + 13 * i + 3)) := by
  obtain ⟨⟨hb, hs, hh, hx, he, hsum⟩, ⟨hc, hch, hcx, hcl⟩⟩ := id hR
  have hs' := hs
  obtain ⟨s0, s1, s2, s3, s45, s67, s8, s9, s10, s11, sB⟩ := hs
  have hc' := hc
  obtain ⟨c04, c05, c06, c07, cl, c10, c11, c20, c60⟩ := hc
  rw [pc_status M b l c60 s10 hi, (hcx i hi).2.2.2.1, pSt_tnc]
theorem pOk.prl {B : Nat} {c : Nat → Nat → Int32} {l : Int64} {s : Nat → Nat} {i : Nat} (hR : pOk B c l s) (hi : i < s 10) (M : tvM) (b : Nat) : f_X0_pearlsIn (puC M b c l) b (nI i) = nI (s (36 + 13 * i + 7)) := by
  obtain ⟨⟨hb, hs, hh, hx, he, hsum⟩, ⟨hc, hch, hcx, hcl⟩⟩ := id hR
  have hs' := hs
  obtain ⟨s0, s1, s2, s3, s45, s67, s8, s9, s10, s11, sB⟩ := hs
  have hc' := hc
  obtain ⟨c04, c05, c06, c07, cl, c10, c11, c20, c60⟩ := hc
  rw [pc_pearls M b l c60 s10 hi, (hcx i hi).2.2.2.2.2.2.2.1]
theorem pOk.six {B : Nat} {c : Nat → Nat → Int32} {l : Int64} {s : Nat → Nat} {i : Nat} (hR : pOk B c l s) (hi : i < s 10) : s (36 + 13 * i + 3) ≤ 3 ∧ s (36 + 13 * i + 7) ≤ 5 ∧ s (36 + 13 * i + 2) ≤ 60 ∧ s (36 + 13 * i + 6) ≤ 60 ∧ s (36 + 13 * i + 5) ≤ s 0 := by
  obtain ⟨⟨hb, hs, hh, hx, he, hsum⟩, ⟨hc, hch, hcx, hcl⟩⟩ := id hR
  have hs' := hs
  obtain ⟨s0, s1, s2, s3, s45, s67, s8, s9, s10, s11, sB⟩ := hs
  have hc' := hc
  obtain ⟨c04, c05, c06, c07, cl, c10, c11, c20, c60⟩ := hc
  obtain ⟨d1, d2, d3, d4, d5, d6, d7⟩ := hx i (by omega)
  exact ⟨d2, d5, d1, d4, d3⟩
/-- the model's row when box i is closed -/
def pShR (s : Nat → Nat) (i : Nat) : Nat → Nat := if s (36 + 13 * i + 3) = 3 then pun (pun (pun (pun (pLog s 99 i) (36 + 13 * i + 3) 0) (36 + 13 * i + 4) 0) (36 + 13 * i + 5) 0) (36 + 13 * i + 6) 0 else pun (pun (pun (pun s (36 + 13 * i + 3) 0) (36 + 13 * i + 4) 0) (36 + 13 * i + 5) 0) (36 + 13 * i + 6) 0
theorem pXi_sh0 {z : Nat × Nat} {s : Nat → Nat} {i : Nat} (hi : i < 10) (hX : pXi z s) : pXi z (pun (pun (pun (pun s (36 + 13 * i + 3) 0) (36 + 13 * i + 4) 0) (36 + 13 * i + 5) 0) (36 + 13 * i + 6) 0) :=
  pXi_bw (w := 6) _ hi (by omega) (by omega) (pXi_bw (w := 5) _ hi (by omega) (by omega) (pXi_fi _ hi (by rw [pun_s]; decide) (pXi_st hi (by decide) hX)))
theorem pXi_shR {z : Nat × Nat} {s : Nat → Nat} {i : Nat} (hi : i < 10) (h11 : s 11 ≤ 12) (hX : pXi z s) : pXi z (pShR s i) := by
  unfold pShR
  split
  · exact pXi_sh0 hi (pXi_log _ _ h11 hX)
  · exact pXi_sh0 hi hX
/-- closing -/
theorem pShut {B : Nat} {c : Nat → Nat → Int32} {l : Int64} {s : Nat → Nat} {i : Nat} (hR : pOk B c l s) (hi : i < s 10) : ∃ (c' : Nat → Nat → Int32) (s' : Nat → Nat), (∀ M b, f_X6_shut (puC M b c l) b (nI i) = (nI (s (36 + 13 * i + 7)), puC M b c' l)) ∧ (∀ M' t, q_X9_shuts (puN M' s t) (nI i) ∧ f_X9_shuts (puN M' s t) (nI i) = puN M' s' t) ∧ pOk B c' l s' ∧ (∀ k, k < 36 → k ≠ 11 → s' k = s k) ∧ (∀ k, 36 ≤ k → k < 166 → (∀ w, 3 ≤ w → w < 7 → k ≠ 36 + 13 * i + w) → s' k = s k) ∧ s' (36 + 13 * i + 3) = 0 ∧ s' = pShR s i := by
  obtain ⟨⟨hb, hs, hh, hx, he, hsum⟩, ⟨hc, hch, hcx, hcl⟩⟩ := id hR
  have hs' := hs
  obtain ⟨s0, s1, s2, s3, s45, s67, s8, s9, s10, s11, sB⟩ := hs
  have hc' := hc
  obtain ⟨c04, c05, c06, c07, cl, c10, c11, c20, c60⟩ := hc
  have h6 := hR.six hi
  have h7 : ∀ M b, f_X0_statusOf (puC M b c l) b (nI i) = pSt (s (36 + 13 * i + 3)) := fun M b => hR.st hi M b
  by_cases q : s (36 + 13 * i + 3) = 3
  · obtain ⟨c1, k1, g1, r1⟩ := pOk_log hR (kd := 99) (n := i) (by omega) (by omega)
    have r2 := pOk_shut0 r1 (i := i) (by simp (disch := omega) only [pLog_o]; exact hi) (nI (s 0))
    have f1 : ∀ M b v, f_X0_become (puC M b c1 l) b (nI 99) (nI i) v = puC M b (tvU (tvU c1 10 i 99) 13 i v) l := fun M b v => pc_become M b l (by rw [k1 6 0 (by omega)]; exact c60) s10 hi 99 v
    have f2 : ∀ M b, f_X0_pearlsIn (puC M b (tvU (tvU c1 10 i (nI 99)) 13 i (nI (s 0))) l) b (nI i) = nI (s (36 + 13 * i + 7)) := fun M b => by
      rw [pc_pearls M b l (n := s 10) (by simp (disch := omega) only [pcu_r, k1]; exact c60) s10 hi]
      simp (disch := omega) only [pcu_r, k1]
      exact (hcx i hi).2.2.2.2.2.2.2.1
    refine ⟨_, _, fun M b => ?_, fun M' t => ⟨?_, ?_⟩, r2, fun k h1 h2 => ?_, fun k h1 h2 hk => ?_, ?_, by unfold pShR; first | rw [if_pos q] | rw [if_neg q]⟩
    · unfold f_X6_shut
      rw [h7, q, if_pos (by decide)]
      simp (disch := omega) only [pl_99, puC_g0, c04, g1, k1, f1, f2]
    · unfold q_X9_shuts
      simp (disch := first | omega | exact hb _ | (simp (disch := omega) only [pun_n, pun_s, pLog_o]; first | omega | (apply pLog_le; simp (disch := omega) only [pun_n]; omega))) only [pl_0, pl_1, pl_2, pl_3, pl_4, pl_5, pl_6, pl_7, pl_8, pl_9, pl_10, pl_11, pl_12, pl_13, pl_25, pl_30, pl_36, pl_50, pl_60, pl_98, pl_99, pl_100, pl_102, pl_104, pl_105, pl_108, pl_111, pl_112, pl_116, pl_119, pl_166, pl_199, pl_202, pl_239, pl_240, pl_480, pl_999, pl_1000, puN_g, puN_p, puN_pt, px_thr0, px_thr1, px_qthr0, px_qthr1, nI_add, pn_mul, pn_c, pn_le, pn_lt, pn_eq, px_of, px_sets, px_ofh, px_seth, px_qof, px_qsets, px_qofh, px_qseth, pun_s, pun_n, ↓reduceIte, px_rings, px_hap, px_qhap, pLog_o, pun_pun, q]
      simp
    · unfold f_X9_shuts
      simp (disch := first | omega | exact hb _ | (simp (disch := omega) only [pun_n, pun_s, pLog_o]; first | omega | (apply pLog_le; simp (disch := omega) only [pun_n]; omega))) only [pl_0, pl_1, pl_2, pl_3, pl_4, pl_5, pl_6, pl_7, pl_8, pl_9, pl_10, pl_11, pl_12, pl_13, pl_25, pl_30, pl_36, pl_50, pl_60, pl_98, pl_99, pl_100, pl_102, pl_104, pl_105, pl_108, pl_111, pl_112, pl_116, pl_119, pl_166, pl_199, pl_202, pl_239, pl_240, pl_480, pl_999, pl_1000, puN_g, puN_p, puN_pt, px_thr0, px_thr1, px_qthr0, px_qthr1, nI_add, pn_mul, pn_c, pn_le, pn_lt, pn_eq, px_of, px_sets, px_ofh, px_seth, px_qof, px_qsets, px_qofh, px_qseth, pun_s, pun_n, ↓reduceIte, px_rings, px_hap, px_qhap, pLog_o, pun_pun, q]
    · simp (disch := omega) only [pun_n, pLog_o]
    · have k3 := hk 3 (by omega) (by omega)
      have k4 := hk 4 (by omega) (by omega)
      have k5 := hk 5 (by omega) (by omega)
      have k6 := hk 6 (by omega) (by omega)
      simp (disch := omega) only [pun_n, pLog_o]
    · simp (disch := omega) only [pun_n, pun_s]
  · have r2 := pOk_shut0 hR (i := i) hi (nI (s 0))
    have f1 : ∀ M b v, f_X0_become (puC M b c l) b (nI 99) (nI i) v = puC M b (tvU (tvU c 10 i 99) 13 i v) l := fun M b v => pc_become M b l c60 s10 hi 99 v
    have f2 : ∀ M b, f_X0_pearlsIn (puC M b (tvU (tvU c 10 i (nI 99)) 13 i (nI (s 0))) l) b (nI i) = nI (s (36 + 13 * i + 7)) := fun M b => by
      rw [pc_pearls M b l (n := s 10) (by simp (disch := omega) only [pcu_r]; exact c60) s10 hi]
      simp (disch := omega) only [pcu_r]
      exact (hcx i hi).2.2.2.2.2.2.2.1
    refine ⟨_, _, fun M b => ?_, fun M' t => ⟨?_, ?_⟩, r2, fun k h1 h2 => ?_, fun k h1 h2 hk => ?_, ?_, by unfold pShR; first | rw [if_pos q] | rw [if_neg q]⟩
    · unfold f_X6_shut
      rw [h7, if_neg (fun e => q ((pSt_eq _ h6.1).2.2.2.mp e))]
      simp (disch := omega) only [pl_99, puC_g0, c04, f1, f2]
    · unfold q_X9_shuts
      simp (disch := first | omega | exact hb _ | (simp (disch := omega) only [pun_n, pun_s, pLog_o]; first | omega | (apply pLog_le; simp (disch := omega) only [pun_n]; omega))) only [pl_0, pl_1, pl_2, pl_3, pl_4, pl_5, pl_6, pl_7, pl_8, pl_9, pl_10, pl_11, pl_12, pl_13, pl_25, pl_30, pl_36, pl_50, pl_60, pl_98, pl_99, pl_100, pl_102, pl_104, pl_105, pl_108, pl_111, pl_112, pl_116, pl_119, pl_166, pl_199, pl_202, pl_239, pl_240, pl_480, pl_999, pl_1000, puN_g, puN_p, puN_pt, px_thr0, px_thr1, px_qthr0, px_qthr1, nI_add, pn_mul, pn_c, pn_le, pn_lt, pn_eq, px_of, px_sets, px_ofh, px_seth, px_qof, px_qsets, px_qofh, px_qseth, pun_s, pun_n, ↓reduceIte, px_rings, px_hap, px_qhap, pLog_o, pun_pun, q]
      simp
    · unfold f_X9_shuts
      simp (disch := first | omega | exact hb _ | (simp (disch := omega) only [pun_n, pun_s, pLog_o]; first | omega | (apply pLog_le; simp (disch := omega) only [pun_n]; omega))) only [pl_0, pl_1, pl_2, pl_3, pl_4, pl_5, pl_6, pl_7, pl_8, pl_9, pl_10, pl_11, pl_12, pl_13, pl_25, pl_30, pl_36, pl_50, pl_60, pl_98, pl_99, pl_100, pl_102, pl_104, pl_105, pl_108, pl_111, pl_112, pl_116, pl_119, pl_166, pl_199, pl_202, pl_239, pl_240, pl_480, pl_999, pl_1000, puN_g, puN_p, puN_pt, px_thr0, px_thr1, px_qthr0, px_qthr1, nI_add, pn_mul, pn_c, pn_le, pn_lt, pn_eq, px_of, px_sets, px_ofh, px_seth, px_qof, px_qsets, px_qofh, px_qseth, pun_s, pun_n, ↓reduceIte, px_rings, px_hap, px_qhap, pLog_o, pun_pun, q]
    · simp (disch := omega) only [pun_n]
    · have k3 := hk 3 (by omega) (by omega)
      have k4 := hk 4 (by omega) (by omega)
      have k5 := hk 5 (by omega) (by omega)
      have k6 := hk 6 (by omega) (by omega)
      simp (disch := omega) only [pun_n]
    · simp (disch := omega) only [pun_n, pun_s]
theorem pSim_closes {B : Nat} {c : Nat → Nat → Int32} {l : Int64} {s : Nat → Nat} (b : Nat) (hR : pOk B c l s) (hB : B + 240 ≤ 10000000) (x1 : Int32) : pSim B c l s b (fun m => f_X6_refusalOfClose m b x1) (fun m => f_X6_shut m b x1) (fun m => m) (fun m => f_X9_closes m x1) (fun m => q_X9_closes m x1) [(1, 1), (3, 2)] True 0 := by
  intro M M1 M' t
  obtain ⟨⟨hb, hs, hh, hx, he, hsum⟩, ⟨hc, hch, hcx, hcl⟩⟩ := id hR
  have hs' := hs
  obtain ⟨s0, s1, s2, s3, s45, s67, s8, s9, s10, s11, sB⟩ := hs
  have hc' := hc
  obtain ⟨c04, c05, c06, c07, cl, c10, c11, c20, c60⟩ := hc
  by_cases h1 : ∃ i, i < s 10 ∧ x1 = nI i
  case neg =>
    have g1 : ∀ t, f_X9_isBox (puN M' s t) x1 = nI 0 := fun t => px_box0 M' s t x1 s10 h1
    refine Or.inr (Or.inl ⟨(1, 1), by simp, ?_, ?_⟩)
    · simp only [f_X6_refusalOfClose, pc_has0 M b l c60 s10 h1, ↓reduceIte]
    · unfold q_X9_closes f_X9_closes
      simp (disch := first | omega | exact hb _) only [pl_0, pl_1, pl_2, pl_3, pl_4, pl_5, pl_6, pl_7, pl_8, pl_9, pl_10, pl_11, pl_12, pl_13, pl_25, pl_30, pl_36, pl_50, pl_60, pl_98, pl_99, pl_100, pl_102, pl_104, pl_105, pl_108, pl_111, pl_112, pl_116, pl_119, pl_166, pl_199, pl_202, pl_239, pl_240, pl_480, pl_999, pl_1000, puN_g, puN_p, puN_pt, px_thr0, px_thr1, px_qthr0, px_qthr1, nI_add, pn_mul, pn_c, pn_le, pn_lt, pn_eq, px_of, px_sets, px_ofh, px_seth, px_qof, px_qsets, px_qofh, px_qseth, pun_s, pun_n, ↓reduceIte, g1]
      simp
  obtain ⟨i, hi, rfl⟩ := h1
  have g1 : ∀ t, f_X9_isBox (puN M' s t) (nI i) = nI 1 := fun t => px_box1 M' s t s10 hi
  have k1 := pc_has1 M b l c60 s10 hi
  have h6 := hR.six hi
  by_cases q : s (36 + 13 * i + 3) = 0
  · refine Or.inr (Or.inl ⟨(3, 2), by simp, ?_, ?_⟩)
    · simp only [f_X6_refusalOfClose, k1, hR.st hi M b, q, pSt, ↓reduceIte]
      simp
    · unfold q_X9_closes f_X9_closes
      simp (disch := first | omega | exact hb _) only [pl_0, pl_1, pl_2, pl_3, pl_4, pl_5, pl_6, pl_7, pl_8, pl_9, pl_10, pl_11, pl_12, pl_13, pl_25, pl_30, pl_36, pl_50, pl_60, pl_98, pl_99, pl_100, pl_102, pl_104, pl_105, pl_108, pl_111, pl_112, pl_116, pl_119, pl_166, pl_199, pl_202, pl_239, pl_240, pl_480, pl_999, pl_1000, puN_g, puN_p, puN_pt, px_thr0, px_thr1, px_qthr0, px_qthr1, nI_add, pn_mul, pn_c, pn_le, pn_lt, pn_eq, px_of, px_sets, px_ofh, px_seth, px_qof, px_qsets, px_qofh, px_qseth, pun_s, pun_n, ↓reduceIte, g1, q]
      simp
  · obtain ⟨c', s', w1, w2, w3, w4, w5, w6, w8⟩ := pShut hR hi
    have w7 : s' (36 + 13 * i + 7) = s (36 + 13 * i + 7) := w5 _ (by omega) (by omega) (by omega)
    refine Or.inl ⟨?_, s (36 + 13 * i + 7), c', l, s', by omega, w1 M1 b, ?_, ?_, w3.up (by omega) hB, fun _ z hX => by rw [w8]; exact pXi_shR (by omega) s11 hX, Nat.zero_le _⟩
    · have : ¬ pSt (s (36 + 13 * i + 3)) = 99 := fun e => q ((pSt_eq _ h6.1).1.mp e)
      simp only [f_X6_refusalOfClose, k1, hR.st hi M b, this, ↓reduceIte]
      simp
    · unfold q_X9_closes
      simp (disch := first | omega | exact hb _) only [pl_0, pl_1, pl_2, pl_3, pl_4, pl_5, pl_6, pl_7, pl_8, pl_9, pl_10, pl_11, pl_12, pl_13, pl_25, pl_30, pl_36, pl_50, pl_60, pl_98, pl_99, pl_100, pl_102, pl_104, pl_105, pl_108, pl_111, pl_112, pl_116, pl_119, pl_166, pl_199, pl_202, pl_239, pl_240, pl_480, pl_999, pl_1000, puN_g, puN_p, puN_pt, px_thr0, px_thr1, px_qthr0, px_qthr1, nI_add, pn_mul, pn_c, pn_le, pn_lt, pn_eq, px_of, px_sets, px_ofh, px_seth, px_qof, px_qsets, px_qofh, px_qseth, pun_s, pun_n, ↓reduceIte, g1, q, (w2 _ _).1, (w2 _ _).2]
      simp
    · unfold f_X9_closes
      simp (disch := first | omega | exact hb _) only [pl_0, pl_1, pl_2, pl_3, pl_4, pl_5, pl_6, pl_7, pl_8, pl_9, pl_10, pl_11, pl_12, pl_13, pl_25, pl_30, pl_36, pl_50, pl_60, pl_98, pl_99, pl_100, pl_102, pl_104, pl_105, pl_108, pl_111, pl_112, pl_116, pl_119, pl_166, pl_199, pl_202, pl_239, pl_240, pl_480, pl_999, pl_1000, puN_g, puN_p, puN_pt, px_thr0, px_thr1, px_qthr0, px_qthr1, nI_add, pn_mul, pn_c, pn_le, pn_lt, pn_eq, px_of, px_sets, px_ofh, px_seth, px_qof, px_qsets, px_qofh, px_qseth, pun_s, pun_n, ↓reduceIte, g1, q, (w2 _ _).2, w7]
      simp

