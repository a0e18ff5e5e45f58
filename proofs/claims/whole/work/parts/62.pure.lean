/-! ===== a box within a minute ===== -/
theorem pOc_0 (s : Nat → Nat) {i j : Nat} (hj : j < i) (hd : pDue s j) : pOc s i ≠ 0 := by
  induction i with
  | zero => omega
  | succ i ih =>
    show pOc s i + _ ≠ 0
    by_cases e : j = i
    · subst e
      rw [if_pos (show s (36 + 13 * j + 3) = 2 ∧ s (36 + 13 * j + 6) = 0 from hd)]
      omega
    · have := ih (by omega)
      omega
section
variable {B : Nat} {c : Nat → Nat → Int32} {l : Int64} {s : Nat → Nat}
theorem pMinBox (hR : pOk B c l s) (hB : B + 1 ≤ 10000000) {i : Nat} (hi : i < s 10) :
    (s (36 + 13 * i + 3) = 2 → ((s 0 + 1) % s 1 < s 2 ∧ s (36 + 13 * i + 6) - (if s 0 % s 1 < s 2 then 1 else 0) = 0 → pMin s (36 + 13 * i + 3) = 3 ∧ pMin s (36 + 13 * i + 5) = s 0 + 1 ∧ pMO s ≠ 0) ∧ (¬ ((s 0 + 1) % s 1 < s 2 ∧ s (36 + 13 * i + 6) - (if s 0 % s 1 < s 2 then 1 else 0) = 0) → pMin s (36 + 13 * i + 3) = 2 ∧ pMin s (36 + 13 * i + 6) = s (36 + 13 * i + 6) - (if s 0 % s 1 < s 2 then 1 else 0))) ∧
    (s (36 + 13 * i + 3) ≠ 2 → pMin s (36 + 13 * i + 3) ≠ 2 ∧ (pMin s (36 + 13 * i + 3) = 3 → s (36 + 13 * i + 3) = 3 ∧ pMin s (36 + 13 * i + 5) = s (36 + 13 * i + 5))) := by
  obtain ⟨⟨hb, hs, hh, hx, he, hsum⟩, ⟨hc, hch, hcx, hcl⟩⟩ := id hR
  have hs' := hs
  obtain ⟨s0, s1, s2, s3, s45, s67, s8, s9, s10, s11, sB⟩ := hs
  have hc' := hc
  obtain ⟨c04, c05, c06, c07, cl, c10, c11, c20, c60⟩ := hc
  obtain ⟨cC, gC, rC⟩ := pMinC hR hB
  have m0 : pMC s 0 = s 0 + 1 := pMC_0 s
  have mo : ∀ k, 1 ≤ k → k ≠ 3 → (k < 36 ∨ 166 ≤ k ∨ ∀ j, k ≠ 36 + 13 * j + 6) → pMC s k = s k := fun k h1 h2 h3 => by rw [pMC_o s h1 h2, pMA_o s h3 s10]
  have m8 : pMC s 8 = s 8 := mo 8 (by omega) (by omega) (by omega)
  have m10 : pMC s 10 = s 10 := mo 10 (by omega) (by omega) (by omega)
  have b3 : pMC s (36 + 13 * i + 3) = s (36 + 13 * i + 3) := mo _ (by omega) (by omega) (Or.inr (Or.inr fun j => by omega))
  have b5 : pMC s (36 + 13 * i + 5) = s (36 + 13 * i + 5) := mo _ (by omega) (by omega) (Or.inr (Or.inr fun j => by omega))
  have b6 : s (36 + 13 * i + 3) = 2 → pMC s (36 + 13 * i + 6) = s (36 + 13 * i + 6) - (if s 0 % s 1 < s 2 then 1 else 0) := fun h2 => by
    rw [pMC_o s (by omega) (by omega)]
    unfold pMA
    by_cases q : s 0 % s 1 < s 2
    · rw [if_pos q, if_pos q, pDn_6 s _ _ hi, if_pos h2]
    · rw [if_neg q, if_neg q]; rfl
  have hx5 := (hx i (by omega)).2.2.1
  have hD : ∃ cD : Nat → Nat → Int32, pOk (B + 1) cD l (pMD s) ∧ pMD s 0 = s 0 + 1 ∧ pMD s 10 = s 10 ∧ ((s 0 + 1) % s 1 < s 2 ∧ pDue (pMC s) i → pMD s (36 + 13 * i + 3) = 3 ∧ pMD s (36 + 13 * i + 5) = s 0 + 1 ∧ pMO s ≠ 0) ∧ (¬ ((s 0 + 1) % s 1 < s 2 ∧ pDue (pMC s) i) → ∀ w, w < 13 → pMD s (36 + 13 * i + w) = pMC s (36 + 13 * i + w)) := by
    by_cases q : (s 0 + 1) % s 1 < s 2
    · obtain ⟨cD, g, r, f1, f2, f3, f4, f5⟩ := pOpens rC (by omega) (s 10) (by omega)
      have e1 : pMD s = pOs (pMC s) (s 10) := by unfold pMD; rw [if_pos q]
      have e2 : pMO s = pOc (pMC s) (s 10) := by unfold pMO; rw [if_pos q]
      rw [e1, e2]
      refine ⟨cD, r, by rw [f1 0 (by omega) (by omega) (by omega), m0], by rw [f1 10 (by omega) (by omega) (by omega), m10], fun hd => ?_, fun hd => (f4 i hi).2 fun h => hd ⟨q, h⟩⟩
      obtain ⟨z1, z2⟩ := (f4 i hi).1 hd.2
      exact ⟨z1, by rw [z2, m0], pOc_0 _ hi hd.2⟩
    · have e1 : pMD s = pMC s := by unfold pMD; rw [if_neg q]
      rw [e1]
      exact ⟨cC, rC, m0, m10, fun hd => absurd hd.1 q, fun _ w _ => rfl⟩
  obtain ⟨cD, rD, d0, d10, dd, dn⟩ := hD
  obtain ⟨cE, gE, rE, ek, ex, e4, e5⟩ := pShuts rD (s 10) (by omega)
  obtain ⟨z1, z2⟩ := e4 i hi
  have eM : pMin s = pSs (pMD s) (s 10) := rfl
  rw [eM]
  constructor
  · intro h2
    have b6' := b6 h2
    constructor
    · rintro ⟨q1, q2⟩
      obtain ⟨y1, y2, y3⟩ := dd ⟨q1, by rw [b3]; exact h2, by rw [b6']; exact q2⟩
      have hnov : ¬ pOv (pMD s) i := by
        unfold pOv
        rw [y1, y2, d0]
        omega
      have := z2 hnov
      exact ⟨(this 3 (by omega)).trans y1, (this 5 (by omega)).trans y2, y3⟩
    · intro hn
      have hd : ¬ ((s 0 + 1) % s 1 < s 2 ∧ pDue (pMC s) i) := fun h => hn ⟨h.1, by rw [← b6']; exact h.2.2⟩
      have y := dn hd
      have hnov : ¬ pOv (pMD s) i := by
        unfold pOv
        rw [y 3 (by omega), b3, h2]
        omega
      have := z2 hnov
      exact ⟨(this 3 (by omega)).trans ((y 3 (by omega)).trans (b3.trans h2)), (this 6 (by omega)).trans ((y 6 (by omega)).trans b6')⟩
  · intro h2
    have hd : ¬ ((s 0 + 1) % s 1 < s 2 ∧ pDue (pMC s) i) := fun h => h2 (by rw [← b3]; exact h.2.1)
    have y := dn hd
    by_cases q : pOv (pMD s) i
    · have := z1 q
      rw [this]
      exact ⟨by omega, fun e => by omega⟩
    · have := z2 q
      rw [this 3 (by omega), this 5 (by omega), y 3 (by omega), y 5 (by omega), b3, b5]
      exact ⟨h2, fun e => ⟨e, rfl⟩⟩
/-- the rehearsal after k minutes -/
theorem pReh (hR : pOk B c l s) : ∀ k, B + k ≤ 10000000 → (∃ c' : Nat → Nat → Int32, pOk (B + k) c' l (pIt s k)) ∧ pIt s k 0 = s 0 + k ∧ pIt s k 1 = s 1 ∧ pIt s k 2 = s 2 ∧ pIt s k 10 = s 10 ∧ ∀ i, i < s 10 → (∀ K, s (36 + 13 * i + 3) = 2 → pOpK s i K → (k < K → pIt s k (36 + 13 * i + 3) = 2 ∧ pIt s k (36 + 13 * i + 6) = s (36 + 13 * i + 6) - pCt (s 1) (s 2) (s 0) k) ∧ (K ≤ k → pIt s k (36 + 13 * i + 3) ≠ 2 ∧ (pIt s k (36 + 13 * i + 3) = 3 → pIt s k (36 + 13 * i + 5) = s 0 + K) ∧ (k = K → pIt s k (36 + 13 * i + 3) = 3 ∧ pMO (pIt s (k - 1)) ≠ 0))) ∧ (s (36 + 13 * i + 3) ≠ 2 → pIt s k (36 + 13 * i + 3) ≠ 2 ∧ (pIt s k (36 + 13 * i + 3) = 3 → pIt s k (36 + 13 * i + 5) ≤ s 0)) := by
  intro k
  induction k with
  | zero =>
    intro _
    refine ⟨⟨c, hR⟩, rfl, rfl, rfl, rfl, fun i hi => ⟨fun K h2 hK => ⟨fun _ => ⟨h2, ?_⟩, fun hk => absurd hK.1 (by omega)⟩, fun h2 => ⟨h2, fun _ => ?_⟩⟩⟩
    · show s (36 + 13 * i + 6) = s (36 + 13 * i + 6) - 0
      omega
    · have s10 := hR.1.2.1.2.2.2.2.2.2.2.2.1
      exact (hR.1.2.2.2.1 i (by omega)).2.2.1
  | succ k ih =>
    intro hk
    obtain ⟨⟨c', r⟩, i0, i1, i2, i10, ib⟩ := ih (by omega)
    obtain ⟨c2, _, _, r2, fr, f0, _⟩ := pMinute r (by omega)
    have fr1 := fr 1 (by omega) (by omega) (by omega) (by omega) (by omega)
    have fr2 := fr 2 (by omega) (by omega) (by omega) (by omega) (by omega)
    have fr10 := fr 10 (by omega) (by omega) (by omega) (by omega) (by omega)
    have eN : pIt s (k + 1) = pMin (pIt s k) := rfl
    rw [eN]
    refine ⟨⟨c2, by rw [← Nat.add_assoc]; exact r2⟩, by rw [f0, i0]; omega, fr1.trans i1, fr2.trans i2, fr10.trans i10, fun i hi => ?_⟩
    obtain ⟨b1, b2⟩ := ib i hi
    obtain ⟨m1, m2⟩ := pMinBox r (by omega) (i := i) (by omega)
    rw [i0, i1, i2] at m1
    refine ⟨fun K h2 hK => ?_, fun h2 => ?_⟩
    · obtain ⟨K1, K2, ⟨K3, K4⟩, K5⟩ := id hK
      obtain ⟨n1, n2⟩ := b1 K h2 hK
      have ec := pCt_s (s 1) (s 2) (s 0) k
      have e6 : k < K → pIt s k (36 + 13 * i + 6) - (if (s 0 + k) % s 1 < s 2 then 1 else 0) = s (36 + 13 * i + 6) - pCt (s 1) (s 2) (s 0) (k + 1) := fun hk => by
        rw [(n1 hk).2, ec]
        omega
      constructor
      · intro hlt
        obtain ⟨p1, p2⟩ := n1 (by omega)
        have := (m1 p1).2 (by
          rw [e6 (by omega), Nat.add_assoc]
          rintro ⟨q1, q2⟩
          exact K5 (k + 1) (by omega) hlt ⟨by omega, q1⟩)
        exact ⟨this.1, by rw [this.2, e6 (by omega)]⟩
      · intro hle
        by_cases e : k + 1 = K
        · obtain ⟨p1, p2⟩ := n1 (by omega)
          have := (m1 p1).1 (by
            rw [e6 (by omega), Nat.add_assoc, e]
            exact ⟨K4, by omega⟩)
          rw [this.1, this.2.1]
          exact ⟨by omega, fun _ => by omega, fun _ => ⟨rfl, this.2.2⟩⟩
        · obtain ⟨p1, p2, _⟩ := n2 (by omega)
          obtain ⟨z1, z2⟩ := m2 p1
          refine ⟨z1, fun h => ?_, fun q => absurd q e⟩
          obtain ⟨y1, y2⟩ := z2 h
          rw [y2]
          exact p2 y1
    · obtain ⟨p1, p2⟩ := b2 h2
      obtain ⟨z1, z2⟩ := m2 p1
      refine ⟨z1, fun h => ?_⟩
      obtain ⟨y1, y2⟩ := z2 h
      rw [y2]
      exact p2 y1
/-- just opened at minute k -/
theorem pReh_just (hR : pOk B c l s) {k : Nat} (hk : B + k ≤ 10000000) (hk1 : 1 ≤ k) {i : Nat} (hi : i < s 10) : (pIt s k (36 + 13 * i + 3) = 3 ∧ pIt s k (36 + 13 * i + 5) = pIt s k 0) ↔ (s (36 + 13 * i + 3) = 2 ∧ pOpK s i k) := by
  have s10 := hR.1.2.1.2.2.2.2.2.2.2.2.1
  obtain ⟨_, i0, _, _, _, ib⟩ := pReh hR k hk
  obtain ⟨b1, b2⟩ := ib i hi
  obtain ⟨K, hK⟩ := pOpK_ex hR (i := i) (by omega)
  rw [i0]
  constructor
  · rintro ⟨h3, h5⟩
    by_cases h2 : s (36 + 13 * i + 3) = 2
    · obtain ⟨n1, n2⟩ := b1 K h2 hK
      by_cases hkK : k < K
      · have := (n1 hkK).1
        omega
      · have := (n2 (by omega)).2.1 h3
        have e : K = k := by omega
        rw [e] at hK
        exact ⟨h2, hK⟩
    · have := (b2 h2).2 h3
      omega
  · rintro ⟨h2, hk2⟩
    obtain ⟨n1, n2⟩ := b1 k h2 hk2
    obtain ⟨z1, z2, z3⟩ := n2 (Nat.le_refl _)
    have := (z3 rfl).1
    exact ⟨this, z2 this⟩
theorem pIsK_u {p q T r K K' : Nat} (h : pIsK p q T r K) (h' : pIsK p q T r K') : K = K' := by
  obtain ⟨a1, a2, a3, a4⟩ := h
  obtain ⟨b1, b2, b3, b4⟩ := h'
  apply Classical.byContradiction
  intro ne
  by_cases q : K < K'
  · exact b4 K a1 q a3
  · exact a4 K' b1 (by omega) b3
theorem pReh_mo (hR : pOk B c l s) {k : Nat} (hk : B + (k + 1) ≤ 10000000) {i : Nat} (hi : i < s 10) (h2 : s (36 + 13 * i + 3) = 2) (hK : pOpK s i (k + 1)) : pMO (pIt s k) ≠ 0 := by
  obtain ⟨_, _, _, _, _, ib⟩ := pReh hR (k + 1) hk
  obtain ⟨b1, _⟩ := ib i hi
  obtain ⟨_, n2⟩ := b1 (k + 1) h2 hK
  exact ((n2 (Nat.le_refl _)).2.2 rfl).2
theorem pc_just (hR : pOk B c l s) (M : tvM) (b : Nat) {i : Nat} (hi : i < s 10) : f_X6_hasJustOpened (puC M b c l) b (nI i) = if s (36 + 13 * i + 3) = 3 ∧ s (36 + 13 * i + 5) = s 0 then 1 else 0 := by
  obtain ⟨⟨hb, hs, hh, hx, he, hsum⟩, ⟨hc, hch, hcx, hcl⟩⟩ := id hR
  have hs' := hs
  obtain ⟨s0, s1, s2, s3, s45, s67, s8, s9, s10, s11, sB⟩ := hs
  have hc' := hc
  obtain ⟨c04, c05, c06, c07, cl, c10, c11, c20, c60⟩ := hc
  obtain ⟨x7, x8, x9, xst, xf, xs, xr, _⟩ := hcx i hi
  have h3 := (hx i (by omega)).2.1
  unfold f_X6_hasJustOpened
  rw [pc_status M b l c60 s10 hi, xst, pSt_tnc]
  by_cases q : s (36 + 13 * i + 3) = 3
  · rw [if_pos ((pSt_eq _ h3).2.2.2.2 q), pc_since M b l c60 s10 hi, xs (Or.inr q), puC_g0, c04]
    by_cases q2 : s (36 + 13 * i + 5) = s 0
    · rw [if_pos (by rw [q2]), if_pos ⟨q, q2⟩]
    · rw [if_neg (by rw [pn_eq (hb _) (hb _)]; exact q2), if_neg (fun e => q2 e.2)]
  · rw [if_neg (fun e => q ((pSt_eq _ h3).2.2.2.1 e)), if_neg (fun e => q e.1)]
end

