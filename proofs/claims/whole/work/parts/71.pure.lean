theorem tpi_comm (M : tvM) {a a' : Nat} (k k' : Nat) (v w : Int32) (h : a ≠ a') : tpi (tpi M a k v) a' k' w = tpi (tpi M a' k' w) a k v := by
  refine Prod.ext ?_ rfl
  funext x j
  by_cases q : x = a
  · subst q
    refine (tpi_o _ w j h).trans ?_
    by_cases q2 : j = k
    · subst q2
      exact (tpi_s _ _ _ _).trans (tpi_s _ _ _ _).symm
    · exact (tpi_k _ _ _ q2).trans ((tpi_k _ _ _ q2).trans (tpi_o _ w j h)).symm
  · refine Eq.trans ?_ (tpi_o _ v j q).symm
    by_cases q2 : x = a'
    · subst q2
      by_cases q3 : j = k'
      · subst q3
        exact (tpi_s _ _ _ _).trans (tpi_s _ _ _ _).symm
      · exact (tpi_k _ _ _ q3).trans ((tpi_o _ v j q).trans (tpi_k _ _ _ q3).symm)
    · exact (tpi_o _ w j q2).trans ((tpi_o _ v j q).trans (tpi_o _ w j q2).symm)
theorem pRd_w {n : Nat} {M0 N0 M N : tvM} {p m k v g : Nat} (h : pRd n M0 N0 M N p m k v g) : pRd n M0 N0 M N p m k v 0 := ⟨h.1, h.2.1, h.2.2.1, h.2.2.2.1, h.2.2.2.2.1, fun j hj => absurd hj (by omega)⟩
section
variable {n : Nat} {T : Nat → Nat} {M0 N0 M N : tvM} {p m : Nat}
theorem rd_w (hT : pTx n T M0 N0) (h : pRd n M0 N0 M N p m m 9 0) (hm : m + 1 ≤ 30) (hp : p < n) (hc : T p = 119) : pCr2 n M0 N0 M N p m := by
  obtain ⟨ef, qf⟩ := rd_first hT h hm hp (by rw [hc]; unfold f_X9_isFirst; decide)
  rw [hc] at ef qf
  obtain ⟨b1, b2, b3, b4, b5⟩ := pN1_f N p m 119
  obtain ⟨N1, hN1⟩ : ∃ z, z = pN1 N p m 119 := ⟨_, rfl⟩
  have e0 := rd_e0 h hp 119
  rw [← hN1] at ef qf b1 b2 b3 b4 b5 e0
  have hn := hT.1
  have ex : (nI (4 * m) + 1).toNatClampNeg = 4 * m + 1 + 0 := by rw [nI_1, pn_c (by omega)]
  have e1 := pRd_arg e0 1
  obtain ⟨w1, w2⟩ := rd_word hT e1 wd_26
  have hle := pcp_le n T [97, 105, 116] (p + 1)
  have hin := pcp_in n T [97, 105, 116] (p + 1)
  have hcp : pcp n T (pWl 8) p = 1 + pcp n T [97, 105, 116] (p + 1) := pcp_ye hp hc
  have hl3 : [97, 105, 116].length = 3 := rfl
  rw [hl3] at hle w2
  generalize pcp n T [97, 105, 116] (p + 1) = K at w2 hle hin hcp
  have hpos : p + 1 + K ≤ n := by
    by_cases q : K = 0
    · omega
    · have := (hin (K - 1) (by omega)).1
      omega
  have hho : ∀ i, i < 9 → i ≠ 8 → pcp n T (pWl i) p < (pWl i).length ∧ pcp n T (pWl i) p ≤ 1 := pWl_all _ (fun _ => by rw [show pWl 0 = 104 :: [111, 108, 100, 101, 114, 32] from rfl, pcp_no (by omega)]; decide) (fun _ => by rw [show pWl 1 = 98 :: [111, 120, 32] from rfl, pcp_no (by omega)]; decide) (fun _ => by rw [show pWl 2 = 116 :: [105, 100, 101, 32] from rfl, pcp_no (by omega)]; decide) (fun _ => by rw [show pWl 3 = 116 :: [117, 114, 110, 32] from rfl, pcp_no (by omega)]; decide) (fun _ => by rw [show pWl 4 = 99 :: [111, 100, 101, 32] from rfl, pcp_no (by omega)]; decide) (fun _ => by rw [show pWl 5 = 112 :: [117, 116, 32] from rfl, pcp_no (by omega)]; decide) (fun _ => by rw [show pWl 6 = 116 :: [97, 107, 101, 32] from rfl, pcp_no (by omega)]; decide) (fun _ => by rw [show pWl 7 = 99 :: [108, 111, 115, 101, 32] from rfl, pcp_no (by omega)]; decide) (fun e => absurd rfl e)
  have eRest : f_X9_readsRest N1 (nI 119) (nI (4 * m)) = f_X9_readsWait N1 (nI (4 * m)) := by
    unfold f_X9_readsRest
    rw [if_neg (show ¬ nI 119 = 98 by decide), if_neg (show ¬ nI 119 = 99 by decide), if_neg (show ¬ nI 119 = 104 by decide), if_neg (show ¬ nI 119 = 112 by decide), if_neg (show ¬ nI 119 = 116 by decide)]
  have qRest : q_X9_readsWait N1 (nI (4 * m)) → q_X9_readsRest N1 (nI 119) (nI (4 * m)) := fun hq => ⟨fun e => absurd e (by decide), fun _ => ⟨fun e => absurd e (by decide), fun _ => ⟨fun e => absurd e (by decide), fun _ => ⟨fun e => absurd e (by decide), fun _ => ⟨fun e => absurd e (by decide), fun _ => ⟨hq, trivial⟩⟩⟩⟩⟩⟩
  have vpi : vp_in (nI (4 * m) + 1) 124 := by rw [nI_1]; exact vp_in_nI (by omega) (by omega)
  by_cases q : K = 3
  · subst q
    rw [if_pos rfl] at w2
    have ev : f_X5_readVerb M = (nI 8, tpi M 243 2 (nI (p + 4))) := rd_verb1 hT h (o := 8) (by omega) (by rw [hcp]; decide) (fun i hi => Nat.ne_of_lt (hho i (by omega) (by omega)).1)
    have e2 : pRd n M0 N0 (tpi (tpi M 243 2 (nI (p + 4))) 245 m (nI 8)) (tpi N1 249 16 (nI (p + 4))) (p + 4) m (m + 1) 8 0 := pRd_ext (pRd_pos e0 (p' := p + 4) (by omega)) (by omega) (fun c j q1 q2 => by
      rw [tpi_tpi]
      by_cases q3 : c = 245
      · subst q3
        exact tpi_k _ _ _ (by omega)
      · exact tpi_o _ _ j q3) ((tpi_o _ _ 2 (by omega)).trans (tpi_s _ _ _ _)) rfl (fun _ _ _ _ => rfl) (tpi_s _ _ _ _) ((tpi_k _ _ _ (by omega)).trans b3) rfl (fun _ => ⟨tpi_s _ _ _ _, (tpi_o _ _ _ (by omega)).trans b5⟩)
    have e3 := pRd_arg e2 1
    obtain ⟨M3, hM3⟩ : ∃ z, z = tpi (tpi (tpi M 243 2 (nI (p + 4))) 245 m (nI 8)) 246 (3 * m + 0) 1 := ⟨_, rfl⟩
    obtain ⟨N2, hN2⟩ : ∃ z, z = tpi (tpi N1 249 16 (nI (p + 4))) 256 (4 * m + 1 + 0) 1 := ⟨_, rfl⟩
    have w2' : f_X9_isWord (tpi N1 256 (4 * m + 1 + 0) 1) 26 = (1, N2) := by
      rw [w2, hN2]
      exact Prod.ext rfl (tpi_comm N1 _ _ _ _ (show (256 : Nat) ≠ 249 by omega))
    rw [← hM3, ← hN2] at e3
    have eset : f_X5_setArgument (tpi (tpi M 243 2 (nI (p + 4))) 245 m (nI 8)) 0 1 = M3 := by
      rw [hM3]
      exact rd_setArg e2 (j := 0) (by omega) 1
    have esg : f_X5_sign M3 = if p + 4 < n then nI (T (p + 4)) else 0 := by
      unfold f_X5_sign
      rw [show tgi M3 243 2 = nI (p + 4) from e3.1.1, rd_at hT e3 (by omega)]
    have e243 : tgi (tpi M 243 2 (nI (p + 4))) 243 3 = nI m := (tpi_k _ _ _ (by omega)).trans h.1.2.2.2.1
    obtain ⟨qs, s1, s0⟩ := rd_sign hT e3 (c := 32) (by omega) (by omega)
    by_cases q2 : p + 4 < n ∧ T (p + 4) = 32
    · obtain ⟨z1, b, M', N', p', g', z2, z3, z4, z5, z6⟩ := rd_form hT wd_9 2 0 0 _ _ _ rfl (pRd_w e3) (by decide)
      rw [List.drop_zero] at z1 z3 z6
      obtain ⟨_, t2⟩ := s1 q2
      have eC : f_X5_readCommand M = (b, tpi M' 243 3 (nI (m + 1))) := by
        unfold f_X5_readCommand
        rw [ev]
        dsimp only
        rw [if_neg (show ¬ nI 8 = -1 by decide), e243, if_neg (pn_neg (by omega)), if_pos (by rw [pl_60, pn_lt (by omega) (by omega)]; omega), if_pos (show nI 8 = 8 from rfl), pn_c (by omega), eset, esg, if_pos q2.1, q2.2, if_pos (show nI 32 = 32 from rfl), show f_X5_readForm M3 9 = (b, M') from z2]
        dsimp only
        rw [show tgi M' 243 3 = nI m from z4.1.2.2.2.1, nI_1]
      have z3' : pB (f_X9_isSign N2 32) (fun N => pB (f_X9_isNumber N 3 (nI (4 * m) + 1)) pOne) = (b, N') := by
        rw [← z3]
        simp (disch := decide) only [pX1, pmF_e, pmF_n, pmF_s, pz_32]
      rw [show (32 : Int32) = nI 32 from rfl, t2] at z3'
      have eW : f_X9_readsWait N1 (nI (4 * m)) = (b, N') := by
        unfold f_X9_readsWait
        rw [ex, w2']
        dsimp only
        rw [if_neg p10, show (32 : Int32) = nI 32 from rfl, t2]
        dsimp only
        rw [if_neg p10, ← z3']
        unfold pB
        dsimp only
        rw [if_neg p10]
        rfl
      have qW : q_X9_readsWait N1 (nI (4 * m)) := by
        unfold q_X9_readsWait
        rw [ex, w2']
        dsimp only
        refine ⟨vpi, w1, fun _ => trivial, fun _ => ⟨qs, fun _ => trivial, fun _ => ?_⟩⟩
        have z1' := z1.2
        rw [t2] at z1'
        have := (z1' p10).1
        rw [show (32 : Int32) = nI 32 from rfl, t2, pX1]
        exact ⟨this, fun _ => trivial, fun _ => trivial⟩
      refine ⟨qf (qRest qW), b, _, N', p', eC, ef.trans (eRest.trans eW), ?_⟩
      rcases z6 with rfl | ⟨rfl, z6⟩
      · exact Or.inl ⟨rfl, pRf_3 z4.rf _⟩
      · exact Or.inr ⟨rfl, pRd_next z4 (by omega) (by rw [z6]; decide) hm, by omega⟩
    · obtain ⟨_, t2⟩ := s0 q2
      have ne32 : ¬ f_X5_sign M3 = 32 := by
        rw [esg]
        by_cases q3 : p + 4 < n
        · rw [if_pos q3, show (32 : Int32) = nI 32 from rfl, pn_eq (by have := (hT.2.2.2 _ q3).1; omega) (by omega)]
          exact fun e => q2 ⟨q3, e⟩
        · rw [if_neg q3]
          decide
      have eC : f_X5_readCommand M = (1, tpi M3 243 3 (nI (m + 1))) := by
        unfold f_X5_readCommand
        rw [ev]
        dsimp only
        rw [if_neg (show ¬ nI 8 = -1 by decide), e243, if_neg (pn_neg (by omega)), if_pos (by rw [pl_60, pn_lt (by omega) (by omega)]; omega), if_pos (show nI 8 = 8 from rfl), pn_c (by omega), eset, if_neg ne32, show f_X5_formOf (nI 8) = 17 by decide, show f_X5_readForm M3 17 = (1, M3) from rfl]
        dsimp only
        rw [show tgi M3 243 3 = nI m from e3.1.2.2.2.1, nI_1]
      have eW : f_X9_readsWait N1 (nI (4 * m)) = (1, N2) := by
        unfold f_X9_readsWait
        rw [ex, w2']
        dsimp only
        rw [if_neg p10, show (32 : Int32) = nI 32 from rfl, t2]
        dsimp only
        rw [if_pos rfl]
      have qW : q_X9_readsWait N1 (nI (4 * m)) := by
        unfold q_X9_readsWait
        rw [ex, w2']
        dsimp only
        refine ⟨vpi, w1, fun _ => trivial, fun _ => ⟨qs, fun _ => trivial, fun hn => absurd ?_ hn⟩⟩
        rw [show (32 : Int32) = nI 32 from rfl, t2]
      exact ⟨qf (qRest qW), 1, _, N2, p + 4, eC, ef.trans (eRest.trans eW), Or.inr ⟨rfl, pRd_next e3 (by omega) (by decide) hm, by omega⟩⟩
  · rw [if_neg q] at w2
    have hmx : pmx (fun i => pcp n T (pWl i) p) 9 = 1 + K := by
      have up : ∀ j, j ≤ 8 → pmx (fun i => pcp n T (pWl i) p) j ≤ 1 := by
        intro j
        induction j with
        | zero => intro _; exact Nat.zero_le _
        | succ j ih =>
          intro hj
          have u1 := ih (by omega)
          have em : pmx (fun i => pcp n T (pWl i) p) (j + 1) = max (pmx (fun i => pcp n T (pWl i) p) j) (pcp n T (pWl j) p) := rfl
          have := (hho j (by omega) (by omega)).2
          omega
      have em : pmx (fun i => pcp n T (pWl i) p) 9 = max (pmx (fun i => pcp n T (pWl i) p) 8) (pcp n T (pWl 8) p) := rfl
      have := up 8 (Nat.le_refl _)
      omega
    have ev : f_X5_readVerb M = (-1, tpi M 243 2 (nI (p + 1 + K))) := by
      have := rd_verb0 hT h (fun i hi => by
        by_cases e : i = 8
        · subst e
          rw [hcp]
          show 1 + K ≠ 4
          omega
        · exact Nat.ne_of_lt (hho i hi e).1)
      rw [this, hmx, Nat.add_assoc]
    have eC : f_X5_readCommand M = (0, tpi M 243 2 (nI (p + 1 + K))) := by
      unfold f_X5_readCommand
      rw [ev]
      dsimp only
      rw [if_pos rfl]
    have eW : f_X9_readsWait N1 (nI (4 * m)) = (0, tpi (tpi N1 256 (4 * m + 1 + 0) 1) 249 16 (nI (p + 1 + K))) := by
      unfold f_X9_readsWait
      rw [ex, w2]
      dsimp only
      rw [if_pos rfl]
    have qW : q_X9_readsWait N1 (nI (4 * m)) := by
      unfold q_X9_readsWait
      rw [ex, w2]
      exact ⟨vpi, w1, fun _ => trivial, fun hn => absurd rfl hn⟩
    have e4 := pRd_pos e0 (p' := p + 1 + K) hpos
    rw [tpi_tpi] at e4
    have e5 := pRd_pos e1 (p' := p + 1 + K) hpos
    refine ⟨qf (qRest qW), 0, _, _, p + 1 + K, eC, ef.trans (eRest.trans eW), Or.inl ⟨rfl, ⟨e4.rf.1.1, e5.rf.1.2.1, hpos⟩, e4.rf.2.1, e5.rf.2.2⟩⟩
/-- every command -/
theorem rd_cmd (hT : pTx n T M0 N0) (h : pRd n M0 N0 M N p m m 9 0) (hm : m + 1 ≤ 30) : pCr2 n M0 N0 M N p m := by
  by_cases q : p < n ∧ (T p = 104 ∨ T p = 98 ∨ T p = 116 ∨ T p = 99 ∨ T p = 112 ∨ T p = 119)
  · obtain ⟨hp, q⟩ := q
    rcases q with q | q | q | q | q | q
    · exact rd_h hT h hm hp q
    · exact rd_b hT h hm hp q
    · by_cases q1 : p + 1 < n ∧ T (p + 1) = 117
      · exact rd_turn hT h hm hp q q1.1 q1.2
      · by_cases q2 : p + 1 < n ∧ T (p + 1) = 105
        · exact rd_tide hT h hm hp q q2.1 q2.2
        · exact rd_take hT h hm hp q q1 q2
    · by_cases q1 : p + 1 < n ∧ T (p + 1) = 111
      · exact rd_code hT h hm hp q q1.1 q1.2
      · exact rd_close hT h hm hp q q1
    · exact rd_p hT h hm hp q
    · exact rd_w hT h hm hp q
  · obtain ⟨a1, a2, a3⟩ := rd_none hT h q
    exact ⟨a1, 0, M, N, p, a2, a3, Or.inl ⟨rfl, h.rf⟩⟩
end

