/-! ===== what is kept beside the bounds ===== -/
def pXi (z : Nat × Nat) (s : Nat → Nat) : Prop :=
  (∀ h, h < 4 → h < s 9 → s (12 + 3 * h + 0) = 7 * h) ∧
  (∀ i, i < 10 → i < s 10 → s (36 + 13 * i + 0) < s 9 ∧ s (36 + 13 * i + 1) < s 9 ∧ s (36 + 13 * i + 0) ≠ s (36 + 13 * i + 1) ∧ (s (36 + 13 * i + 3) = 1 → s (36 + 13 * i + 4) = s (36 + 13 * i + 0) ∨ s (36 + 13 * i + 4) = s (36 + 13 * i + 1))) ∧
  (∀ e, e < 12 → e < s 11 → s (166 + 3 * e + 1) ≤ s 0 ∧ (e + 1 < s 11 → s (166 + 3 * e + 1) ≤ s (166 + 3 * (e + 1) + 1))) ∧ z.1 ≤ s 9 ∧ z.2 ≤ s 10
theorem pXi_c {z : Nat × Nat} {s s' : Nat → Nat} (h0 : s 0 ≤ s' 0) (h9 : s' 9 = s 9) (h10 : s' 10 = s 10) (h11 : s' 11 = s 11) (hc : ∀ h, h < 4 → s' (12 + 3 * h + 0) = s (12 + 3 * h + 0)) (hb : ∀ i, i < 10 → s' (36 + 13 * i + 0) = s (36 + 13 * i + 0) ∧ s' (36 + 13 * i + 1) = s (36 + 13 * i + 1) ∧ (s' (36 + 13 * i + 3) = 1 → s (36 + 13 * i + 3) = 1 ∧ s' (36 + 13 * i + 4) = s (36 + 13 * i + 4))) (he : ∀ k, 166 ≤ k → s' k = s k) (h : pXi z s) : pXi z s' := by
  obtain ⟨a, b, c, d⟩ := h
  refine ⟨fun h h1 h2 => ?_, fun i h1 h2 => ?_, fun e h1 h2 => ?_, by rw [h9, h10]; exact d⟩
  · rw [hc h h1]; exact a h h1 (by omega)
  · obtain ⟨b1, b2, b3⟩ := hb i h1
    obtain ⟨q1, q2, q3, q4⟩ := b i h1 (by omega)
    rw [b1, b2, h9]
    refine ⟨q1, q2, q3, fun z => ?_⟩
    obtain ⟨z1, z2⟩ := b3 z
    rw [z2]
    exact q4 z1
  · obtain ⟨q1, q2⟩ := c e h1 (by omega)
    rw [he (166 + 3 * e + 1) (by omega), he (166 + 3 * (e + 1) + 1) (by omega)]
    exact ⟨by omega, fun z => q2 (by omega)⟩
theorem pXi_lo {z : Nat × Nat} {s : Nat → Nat} {k : Nat} (v : Nat) (h0 : k ≠ 0) (hk : k < 9) (h : pXi z s) : pXi z (pun s k v) :=
  pXi_c (by rw [pun_n _ _ (by omega)]; exact Nat.le_refl _) (pun_n _ _ (by omega)) (pun_n _ _ (by omega)) (pun_n _ _ (by omega)) (fun h _ => pun_n _ _ (by omega)) (fun i _ => ⟨pun_n _ _ (by omega), pun_n _ _ (by omega), fun z => ⟨by rw [pun_n _ _ (by omega)] at z; exact z, pun_n _ _ (by omega)⟩⟩) (fun k _ => pun_n _ _ (by omega)) h
theorem pXi_tm {z : Nat × Nat} {s : Nat → Nat} {v : Nat} (hv : s 0 ≤ v) (h : pXi z s) : pXi z (pun s 0 v) :=
  pXi_c (by rw [pun_s]; exact hv) (pun_n _ _ (by omega)) (pun_n _ _ (by omega)) (pun_n _ _ (by omega)) (fun h _ => pun_n _ _ (by omega)) (fun i _ => ⟨pun_n _ _ (by omega), pun_n _ _ (by omega), fun z => ⟨by rw [pun_n _ _ (by omega)] at z; exact z, pun_n _ _ (by omega)⟩⟩) (fun k _ => pun_n _ _ (by omega)) h
theorem pXi_ho {z : Nat × Nat} {s : Nat → Nat} {h w : Nat} (v : Nat) (hh : h < 8) (h1 : 1 ≤ w) (h2 : w < 3) (q : pXi z s) : pXi z (pun s (12 + 3 * h + w) v) :=
  pXi_c (by rw [pun_n _ _ (by omega)]; exact Nat.le_refl _) (pun_n _ _ (by omega)) (pun_n _ _ (by omega)) (pun_n _ _ (by omega)) (fun h _ => pun_n _ _ (by omega)) (fun i _ => ⟨pun_n _ _ (by omega), pun_n _ _ (by omega), fun z => ⟨by rw [pun_n _ _ (by omega)] at z; exact z, pun_n _ _ (by omega)⟩⟩) (fun k _ => pun_n _ _ (by omega)) q
theorem pXi_bw {z : Nat × Nat} {s : Nat → Nat} {i w : Nat} (v : Nat) (hi : i < 10) (h1 : w = 2 ∨ 5 ≤ w) (h2 : w < 13) (q : pXi z s) : pXi z (pun s (36 + 13 * i + w) v) :=
  pXi_c (by rw [pun_n _ _ (by omega)]; exact Nat.le_refl _) (pun_n _ _ (by omega)) (pun_n _ _ (by omega)) (pun_n _ _ (by omega)) (fun h _ => pun_n _ _ (by omega)) (fun i _ => ⟨pun_n _ _ (by omega), pun_n _ _ (by omega), fun z => ⟨by rw [pun_n _ _ (by omega)] at z; exact z, pun_n _ _ (by omega)⟩⟩) (fun k _ => pun_n _ _ (by omega)) q
theorem pXi_st {z : Nat × Nat} {s : Nat → Nat} {i v : Nat} (hi : i < 10) (hv : v ≠ 1) (q : pXi z s) : pXi z (pun s (36 + 13 * i + 3) v) :=
  pXi_c (by rw [pun_n _ _ (by omega)]; exact Nat.le_refl _) (pun_n _ _ (by omega)) (pun_n _ _ (by omega)) (pun_n _ _ (by omega)) (fun h _ => pun_n _ _ (by omega)) (fun j _ => ⟨pun_n _ _ (by omega), pun_n _ _ (by omega), fun z => by
    by_cases e : j = i
    · subst e
      rw [pun_s] at z
      exact absurd z hv
    · exact ⟨by rw [pun_n _ _ (by omega)] at z; exact z, pun_n _ _ (by omega)⟩⟩) (fun k _ => pun_n _ _ (by omega)) q
theorem pXi_fi {z : Nat × Nat} {s : Nat → Nat} {i : Nat} (v : Nat) (hi : i < 10) (hs : s (36 + 13 * i + 3) ≠ 1) (q : pXi z s) : pXi z (pun s (36 + 13 * i + 4) v) :=
  pXi_c (by rw [pun_n _ _ (by omega)]; exact Nat.le_refl _) (pun_n _ _ (by omega)) (pun_n _ _ (by omega)) (pun_n _ _ (by omega)) (fun h _ => pun_n _ _ (by omega)) (fun j _ => ⟨pun_n _ _ (by omega), pun_n _ _ (by omega), fun z => by
    by_cases e : j = i
    · subst e
      rw [pun_n _ _ (by omega)] at z
      exact absurd z hs
    · exact ⟨by rw [pun_n _ _ (by omega)] at z; exact z, pun_n _ _ (by omega)⟩⟩) (fun k _ => pun_n _ _ (by omega)) q
theorem pXi_half {z : Nat × Nat} {s : Nat → Nat} {i h : Nat} (hi : i < 10) (hh : h = s (36 + 13 * i + 0) ∨ h = s (36 + 13 * i + 1)) (q : pXi z s) : pXi z (pun (pun s (36 + 13 * i + 3) 1) (36 + 13 * i + 4) h) := by
  obtain ⟨a, b, c, d⟩ := q
  refine ⟨fun h h1 h2 => ?_, fun j h1 h2 => ?_, fun e h1 h2 => ?_, by simp (disch := omega) only [pun_n]; exact d⟩
  · simp (disch := omega) only [pun_n] at h2 ⊢
    exact a h h1 h2
  · simp (disch := omega) only [pun_n] at h2 ⊢
    obtain ⟨q1, q2, q3, q4⟩ := b j h1 h2
    refine ⟨q1, q2, q3, fun z => ?_⟩
    by_cases e : j = i
    · subst e
      rw [pun_s]
      exact hh
    · rw [pun_n _ _ (by omega)] at z
      rw [pun_n _ _ (by omega), pun_n _ _ (by omega)]
      exact q4 z
  · simp (disch := omega) only [pun_n] at h2 ⊢
    exact c e h1 h2
theorem pXi_code {z : Nat × Nat} {s : Nat → Nat} {h v : Nat} (hh : h < 8) (hv : h < 4 → v = 7 * h) (q : pXi z s) : pXi z (pun s (12 + 3 * h + 0) v) := by
  obtain ⟨a, b, c, d⟩ := q
  refine ⟨fun j h1 h2 => ?_, fun j h1 h2 => ?_, fun e h1 h2 => ?_, by simp (disch := omega) only [pun_n]; exact d⟩
  · simp (disch := omega) only [pun_n] at h2
    by_cases e : j = h
    · subst e
      rw [pun_s]
      exact hv h1
    · rw [pun_n _ _ (by omega)]
      exact a j h1 h2
  · simp (disch := omega) only [pun_n] at h2 ⊢
    exact b j h1 h2
  · simp (disch := omega) only [pun_n] at h2 ⊢
    exact c e h1 h2
theorem pXi_hold {z : Nat × Nat} {s : Nat → Nat} {n : Nat} (h9 : s 9 < 8) (hn : s 9 < 4 → n = 7 * s 9) (q : pXi z s) : pXi z (pun (pun s (12 + 3 * s 9 + 0) n) 9 (s 9 + 1)) := by
  obtain ⟨a, b, c, d⟩ := q
  refine ⟨fun j h1 h2 => ?_, fun j h1 h2 => ?_, fun e h1 h2 => ?_, by simp (disch := omega) only [pun_n, pun_s]; omega⟩
  · rw [pun_s] at h2
    rw [pun_n _ _ (by omega)]
    by_cases e : j = s 9
    · rw [e, pun_s]
      exact hn (by omega)
    · rw [pun_n _ _ (by omega)]
      exact a j h1 (by omega)
  · simp (disch := omega) only [pun_n, pun_s] at h2 ⊢
    obtain ⟨q1, q2, q3, q4⟩ := b j h1 h2
    exact ⟨by omega, by omega, q3, q4⟩
  · simp (disch := omega) only [pun_n] at h2 ⊢
    exact c e h1 h2
theorem pXi_box {z : Nat × Nat} {s : Nat → Nat} {x y d : Nat} (h10 : s 10 < 10) (hx : x < s 9) (hy : y < s 9) (hxy : x ≠ y) (hz : s (36 + 13 * s 10 + 3) ≠ 1) (q : pXi z s) : pXi z (pun (pun (pun (pun s (36 + 13 * s 10 + 0) x) (36 + 13 * s 10 + 1) y) (36 + 13 * s 10 + 2) d) 10 (s 10 + 1)) := by
  obtain ⟨a, b, c, d⟩ := q
  refine ⟨fun j h1 h2 => ?_, fun j h1 h2 => ?_, fun e h1 h2 => ?_, by simp (disch := omega) only [pun_n, pun_s]; omega⟩
  · simp (disch := omega) only [pun_n] at h2 ⊢
    exact a j h1 h2
  · rw [pun_s] at h2
    by_cases e : j = s 10
    · subst e
      simp (disch := omega) only [pun_n, pun_s]
      exact ⟨hx, hy, hxy, fun z => absurd z hz⟩
    · simp (disch := omega) only [pun_n]
      exact b j h1 (by omega)
  · simp (disch := omega) only [pun_n] at h2 ⊢
    exact c e h1 h2
theorem pXi_log {z : Nat × Nat} {s : Nat → Nat} (kd n : Nat) (h11 : s 11 ≤ 12) (q : pXi z s) : pXi z (pLog s kd n) := by
  obtain ⟨a, b, c, d⟩ := q
  refine ⟨fun j h1 h2 => ?_, fun j h1 h2 => ?_, fun e h1 h2 => ?_, by simp (disch := omega) only [pLog_o]; exact d⟩
  · simp (disch := omega) only [pLog_o] at h2 ⊢
    exact a j h1 h2
  · simp (disch := omega) only [pLog_o] at h2 ⊢
    exact b j h1 h2
  · rw [pLog_o s kd n (show 0 < 166 by omega) (by omega)]
    by_cases z : s 11 = 12
    · have e12 : pLog s kd n 11 = 12 := by rw [pLog_11, if_pos z]
      rw [e12] at h2 ⊢
      have a1 := pLog_a1 s kd n z
      have at_ : ∀ k, k < 11 → pLog s kd n (166 + 3 * k + 1) = s (166 + 3 * (k + 1) + 1) := fun k hk => by
        rw [pLog_a s kd n z (by omega) (by omega)]
        exact congrArg s (by omega)
      have al : pLog s kd n (166 + 3 * 11 + 1) = s 0 := a1.2.1
      by_cases e1 : e = 11
      · subst e1
        rw [al]
        exact ⟨Nat.le_refl _, fun w => absurd w (by omega)⟩
      · rw [at_ e (by omega)]
        have ce := c (e + 1) (by omega) (by omega)
        refine ⟨ce.1, fun w => ?_⟩
        by_cases e2 : e = 10
        · subst e2
          rw [al]
          exact ce.1
        · rw [at_ (e + 1) (by omega)]
          exact ce.2 (by omega)
    · have e12 : pLog s kd n 11 = s 11 + 1 := by rw [pLog_11, if_neg z]
      rw [e12] at h2 ⊢
      have b1 := pLog_b1 s kd n z
      have at_ : ∀ k, k < s 11 → pLog s kd n (166 + 3 * k + 1) = s (166 + 3 * k + 1) := fun k hk => pLog_b0 s kd n z (by omega) (by omega) (by omega) (by omega)
      by_cases e1 : e = s 11
      · subst e1
        rw [b1.2.1]
        exact ⟨Nat.le_refl _, fun w => absurd w (by omega)⟩
      · have ce := c e h1 (by omega)
        rw [at_ e (by omega)]
        refine ⟨ce.1, fun w => ?_⟩
        by_cases e2 : e + 1 = s 11
        · rw [e2, b1.2.1]
          exact ce.1
        · rw [at_ (e + 1) (by omega)]
          exact ce.2 (by omega)
theorem pXi_z {z z' : Nat × Nat} {s : Nat → Nat} (h : pXi z s) (h1 : z'.1 ≤ s 9) (h2 : z'.2 ≤ s 10) : pXi z' s := ⟨h.1, h.2.1, h.2.2.1, h1, h2⟩
/-- no holder and no box goes -/
theorem pXi_mo {s s' : Nat → Nat} (f : ∀ z : Nat × Nat, pXi z s → pXi z s') (h : pXi (0, 0) s) : s 9 ≤ s' 9 ∧ s 10 ≤ s' 10 := (f (s 9, s 10) (pXi_z h (Nat.le_refl _) (Nat.le_refl _))).2.2.2

