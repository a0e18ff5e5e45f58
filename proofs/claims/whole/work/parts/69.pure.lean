theorem pWl_all (P : Nat → Prop) (h0 : P 0) (h1 : P 1) (h2 : P 2) (h3 : P 3) (h4 : P 4) (h5 : P 5) (h6 : P 6) (h7 : P 7) (h8 : P 8) : ∀ i, i < 9 → P i := fun i hi => by
  rcases (show i = 0 ∨ i = 1 ∨ i = 2 ∨ i = 3 ∨ i = 4 ∨ i = 5 ∨ i = 6 ∨ i = 7 ∨ i = 8 by omega) with rfl | rfl | rfl | rfl | rfl | rfl | rfl | rfl | rfl <;> assumption
section
variable {n : Nat} {T : Nat → Nat} {M0 N0 M N : tvM} {p m : Nat}
theorem pcp_c (n : Nat) (T : Nat → Nat) (c : Nat) (r : List Nat) (p : Nat) : pcp n T (c :: r) p = if p < n ∧ T p = c then 1 + pcp n T r (p + 1) else 0 := rfl
/-- a word that does not begin with the sign at p -/
theorem pcp_no {c : Nat} {r : List Nat} (h : T p ≠ c) : pcp n T (c :: r) p = 0 := by rw [pcp_c, if_neg fun q => h q.2]
theorem pcp_ye {c : Nat} {r : List Nat} (h1 : p < n) (h : T p = c) : pcp n T (c :: r) p = 1 + pcp n T r (p + 1) := by rw [pcp_c, if_pos ⟨h1, h⟩]
/-- the model's memory once the first letter is taken -/
def pN1 (N : tvM) (p m c : Nat) : tvM := tpi (tpi (tpi N 256 (4 * m) (nI c)) 249 16 (nI (p + 1))) 249 17 (nI (m + 1))
theorem pN1_f (N : tvM) (p m c : Nat) : (∀ a j, ¬ (a = 249 ∧ (j = 16 ∨ j = 17)) → ¬ (a = 256 ∧ j = 4 * m) → (pN1 N p m c).1 a j = N.1 a j) ∧ (pN1 N p m c).1 249 16 = nI (p + 1) ∧ (pN1 N p m c).1 249 17 = nI (m + 1) ∧ (pN1 N p m c).2 = N.2 ∧ (pN1 N p m c).1 256 (4 * m) = nI c := by
  unfold pN1
  refine ⟨fun a j q1 q2 => ?_, (tpi_k _ _ _ (by omega)).trans (tpi_s _ _ _ _), tpi_s _ _ _ _, rfl, (tpi_o _ _ _ (by omega)).trans ((tpi_o _ _ _ (by omega)).trans (tpi_s _ _ _ _))⟩
  by_cases q3 : a = 249
  · subst q3
    exact (tpi_k _ _ _ (by omega)).trans ((tpi_k _ _ _ (by omega)).trans (tpi_o _ _ _ (by omega)))
  · refine (tpi_o _ _ _ q3).trans ((tpi_o _ _ _ q3).trans ?_)
    by_cases q4 : a = 256
    · subst q4
      exact tpi_k _ _ _ (by omega)
    · exact tpi_o _ _ _ q4
theorem rd_first (hT : pTx n T M0 N0) (h : pRd n M0 N0 M N p m m 9 0) (hm : m + 1 ≤ 30) (hp : p < n) (hf : f_X9_isFirst N (nI (T p)) = 1) : f_X9_readsCommand N = f_X9_readsRest (pN1 N p m (T p)) (nI (T p)) (nI (4 * m)) ∧ (q_X9_readsRest (pN1 N p m (T p)) (nI (T p)) (nI (4 * m)) → q_X9_readsCommand N) := by
  obtain ⟨qn, en⟩ := rd_now hT h
  rw [if_pos hp] at en
  have e17 : tgi N 249 17 = nI m := h.1.2.2.2.2.1
  have e16 : tgi N 249 16 = nI p := h.1.2.1
  have e4 : 4 * tgi N 249 17 = nI (4 * m) := by rw [e17, show (4 : Int32) = nI 4 from rfl, pn_mul]
  have eN : (tpi (tpi (tpi N 256 (4 * (tgi N 249 17)).toNatClampNeg (nI (T p))) 249 16 ((tgi (tpi N 256 (4 * (tgi N 249 17)).toNatClampNeg (nI (T p))) 249 16) + 1)) 249 17 ((tgi (tpi (tpi N 256 (4 * (tgi N 249 17)).toNatClampNeg (nI (T p))) 249 16 ((tgi (tpi N 256 (4 * (tgi N 249 17)).toNatClampNeg (nI (T p))) 249 16) + 1)) 249 17) + 1)) = pN1 N p m (T p) := by
    rw [e4, pn_c (by omega), show tgi (tpi N 256 (4 * m) (nI (T p))) 249 16 = nI p from (tpi_o _ _ _ (by omega)).trans e16, nI_1, show tgi (tpi (tpi N 256 (4 * m) (nI (T p))) 249 16 (nI (p + 1))) 249 17 = nI m from (tpi_k _ _ _ (by omega)).trans ((tpi_o _ _ _ (by omega)).trans e17), nI_1]
    rfl
  constructor
  · unfold f_X9_readsCommand
    rw [en, hf, if_neg p10, eN, e4]
  · intro hq
    unfold q_X9_readsCommand
    rw [en, hf, eN, e4]
    exact ⟨qn, fun e => absurd e p10, fun _ => ⟨vp_in_nI (by omega) (by omega), hq, trivial⟩⟩
/-- no command begins here -/
theorem rd_none (hT : pTx n T M0 N0) (h : pRd n M0 N0 M N p m m 9 0) (hno : ¬ (p < n ∧ (T p = 104 ∨ T p = 98 ∨ T p = 116 ∨ T p = 99 ∨ T p = 112 ∨ T p = 119))) : q_X9_readsCommand N ∧ f_X5_readCommand M = (0, M) ∧ f_X9_readsCommand N = (0, N) := by
  obtain ⟨qn, en⟩ := rd_now hT h
  have hf : f_X9_isFirst N (f_X9_now N) = 0 := by
    rw [en]
    unfold f_X9_isFirst
    by_cases q : p < n
    · have hc := (hT.2.2.2 p q).1
      have ne : ∀ c, c < 65536 → T p ≠ c → ¬ nI (T p) = nI c := fun c h1 h2 e => h2 ((pn_eq (by omega) (by omega)).1 e)
      rw [if_pos q, if_neg (show ¬ nI (T p) = 104 from ne 104 (by omega) (by omega)), if_neg (show ¬ nI (T p) = 98 from ne 98 (by omega) (by omega)), if_neg (show ¬ nI (T p) = 116 from ne 116 (by omega) (by omega)), if_neg (show ¬ nI (T p) = 99 from ne 99 (by omega) (by omega)), if_neg (show ¬ nI (T p) = 112 from ne 112 (by omega) (by omega)), if_neg (show ¬ nI (T p) = 119 from ne 119 (by omega) (by omega))]
    · rw [if_neg q]
      decide
  have c0 : ∀ i, i < 9 → pcp n T (pWl i) p = 0 := pWl_all _ (by show pcp n T (104 :: _) p = 0; rw [pcp_c, if_neg (by omega)]) (by show pcp n T (98 :: _) p = 0; rw [pcp_c, if_neg (by omega)]) (by show pcp n T (116 :: _) p = 0; rw [pcp_c, if_neg (by omega)]) (by show pcp n T (116 :: _) p = 0; rw [pcp_c, if_neg (by omega)]) (by show pcp n T (99 :: _) p = 0; rw [pcp_c, if_neg (by omega)]) (by show pcp n T (112 :: _) p = 0; rw [pcp_c, if_neg (by omega)]) (by show pcp n T (116 :: _) p = 0; rw [pcp_c, if_neg (by omega)]) (by show pcp n T (99 :: _) p = 0; rw [pcp_c, if_neg (by omega)]) (by show pcp n T (119 :: _) p = 0; rw [pcp_c, if_neg (by omega)])
  have l0 : ∀ i, i < 9 → 0 < (pWl i).length := pWl_all _ (by decide) (by decide) (by decide) (by decide) (by decide) (by decide) (by decide) (by decide) (by decide)
  have hmx : ∀ j, j ≤ 9 → pmx (fun i => pcp n T (pWl i) p) j = 0 := by
    intro j
    induction j with
    | zero => intro _; rfl
    | succ j ih =>
      intro hj
      show max (pmx (fun i => pcp n T (pWl i) p) j) (pcp n T (pWl j) p) = 0
      rw [ih (by omega), c0 j (by omega)]
      rfl
  have ev := rd_verb0 hT h (fun i hi => by rw [c0 i hi]; have := l0 i hi; omega)
  rw [hmx 9 (by omega), Nat.add_zero, tpi_same M 243 2 h.1.1] at ev
  refine ⟨?_, ?_, ?_⟩
  · unfold q_X9_readsCommand
    rw [hf]
    exact ⟨qn, fun _ => trivial, fun hn => absurd rfl hn⟩
  · unfold f_X5_readCommand
    rw [ev]
    dsimp only
    rw [if_pos rfl]
  · unfold f_X9_readsCommand
    rw [hf, if_pos rfl]
/-- what a command read gives -/
def pCr2 (n : Nat) (M0 N0 M N : tvM) (p m : Nat) : Prop := q_X9_readsCommand N ∧ ∃ (b : Int32) (M' N' : tvM) (p' : Nat), f_X5_readCommand M = (b, M') ∧ f_X9_readsCommand N = (b, N') ∧ ((b = 0 ∧ pRf n M0 N0 M' N' p') ∨ (b = 1 ∧ pRd n M0 N0 M' N' p' (m + 1) (m + 1) 9 0 ∧ p + 1 ≤ p'))

theorem pcp_n {n : Nat} {T : Nat → Nat} {p c : Nat} {r : List Nat} (h : ¬ (p < n ∧ T p = c)) : pcp n T (c :: r) p = 0 := by rw [pcp_c, if_neg h]
theorem rd_e0 (h : pRd n M0 N0 M N p m m 9 0) (hp : p < n) (c : Nat) : pRd n M0 N0 (tpi M 243 2 (nI (p + 1))) (pN1 N p m c) (p + 1) m (m + 1) 9 0 := by
  obtain ⟨b1, b2, b3, b4, b5⟩ := pN1_f N p m c
  exact pRd_ext h (by omega) (fun a j q1 q2 => by
    by_cases q3 : a = 243
    · subst q3
      exact tpi_k _ _ _ (by omega)
    · exact tpi_o _ _ j q3) (tpi_s _ _ _ _) rfl b1 b2 b3 b4 (fun q => absurd q (by omega))
theorem pN2_f (N : tvM) (p m c : Nat) : (∀ a j, ¬ (a = 249 ∧ (j = 16 ∨ j = 17)) → ¬ (a = 256 ∧ j = 4 * m) → (tpi (pN1 N p m c) 249 16 (nI (p + 2))).1 a j = N.1 a j) ∧ (tpi (pN1 N p m c) 249 16 (nI (p + 2))).1 249 17 = nI (m + 1) ∧ (tpi (pN1 N p m c) 249 16 (nI (p + 2))).1 256 (4 * m) = nI c := by
  obtain ⟨b1, b2, b3, b4, b5⟩ := pN1_f N p m c
  refine ⟨fun a j q1 q2 => ?_, (tpi_k _ _ _ (by omega)).trans b3, (tpi_o _ _ _ (by omega)).trans b5⟩
  by_cases q3 : a = 249
  · subst q3
    exact (tpi_k _ _ _ (by omega)).trans (b1 _ j q1 q2)
  · exact (tpi_o _ _ j q3).trans (b1 a j q1 q2)
theorem pN3_f {N N2 : tvM} {m c p' : Nat} (b1 : ∀ a j, ¬ (a = 249 ∧ (j = 16 ∨ j = 17)) → ¬ (a = 256 ∧ j = 4 * m) → N2.1 a j = N.1 a j) (b2 : N2.1 249 16 = nI p') (b3 : N2.1 249 17 = nI (m + 1)) : (∀ a j, ¬ (a = 249 ∧ (j = 16 ∨ j = 17)) → ¬ (a = 256 ∧ j = 4 * m) → (tpi N2 256 (4 * m) (nI c)).1 a j = N.1 a j) ∧ (tpi N2 256 (4 * m) (nI c)).1 249 16 = nI p' ∧ (tpi N2 256 (4 * m) (nI c)).1 249 17 = nI (m + 1) ∧ (tpi N2 256 (4 * m) (nI c)).1 256 (4 * m) = nI c := by
  refine ⟨fun a j q1 q2 => ?_, (tpi_o _ _ _ (by omega)).trans b2, (tpi_o _ _ _ (by omega)).trans b3, tpi_s _ _ _ _⟩
  by_cases q3 : a = 256
  · subst q3
    exact (tpi_k _ _ _ (by omega)).trans (b1 _ j q1 q2)
  · exact (tpi_o _ _ j q3).trans (b1 a j q1 q2)
theorem rd_h (hT : pTx n T M0 N0) (h : pRd n M0 N0 M N p m m 9 0) (hm : m + 1 ≤ 30) (hp : p < n) (hc : T p = 104) : pCr2 n M0 N0 M N p m := by
  obtain ⟨ef, qf⟩ := rd_first hT h hm hp (by rw [hc]; unfold f_X9_isFirst; decide)
  rw [hc] at ef qf
  obtain ⟨b1, b2, b3, b4, b5⟩ := pN1_f N p m 104
  obtain ⟨w1, w2, b, M', N', p', w3, w4, w5⟩ := rd_go (v := 0) (a := 1) hT h hm (by omega) wd_19 (by decide) (pcp_ye hp hc) (pWl_all _ (fun e => absurd rfl e) (fun _ => by rw [show pWl 1 = 98 :: [111, 120, 32] from rfl, pcp_no (by omega)]; decide) (fun _ => by rw [show pWl 2 = 116 :: [105, 100, 101, 32] from rfl, pcp_no (by omega)]; decide) (fun _ => by rw [show pWl 3 = 116 :: [117, 114, 110, 32] from rfl, pcp_no (by omega)]; decide) (fun _ => by rw [show pWl 4 = 99 :: [111, 100, 101, 32] from rfl, pcp_no (by omega)]; decide) (fun _ => by rw [show pWl 5 = 112 :: [117, 116, 32] from rfl, pcp_no (by omega)]; decide) (fun _ => by rw [show pWl 6 = 116 :: [97, 107, 101, 32] from rfl, pcp_no (by omega)]; decide) (fun _ => by rw [show pWl 7 = 99 :: [108, 111, 115, 101, 32] from rfl, pcp_no (by omega)]; decide) (fun _ => by rw [show pWl 8 = 119 :: [97, 105, 116] from rfl, pcp_no (by omega)]; decide)) (by omega) b1 b2 b3 b4 b5
  have eR : f_X9_readsRest (pN1 N p m 104) (nI 104) (nI (4 * m)) = (b, N') := by
    rw [← w4]
    unfold f_X9_readsRest
    rw [if_neg (show ¬ nI 104 = 98 by decide), if_neg (show ¬ nI 104 = 99 by decide), if_pos (show nI 104 = 104 from rfl), show pFo 0 = [110] from rfl, ← pF10]
    rfl
  exact ⟨qf ⟨fun e => absurd e (by decide), fun _ => ⟨fun e => absurd e (by decide), fun _ => ⟨fun _ => ⟨w1, fun _ => trivial, fun z => ⟨pQ10 _ _ (w2 z), fun _ => trivial, fun _ => trivial⟩⟩, fun e => absurd rfl e⟩⟩⟩, b, M', N', p', w3, ef.trans eR, w5⟩
theorem rd_b (hT : pTx n T M0 N0) (h : pRd n M0 N0 M N p m m 9 0) (hm : m + 1 ≤ 30) (hp : p < n) (hc : T p = 98) : pCr2 n M0 N0 M N p m := by
  obtain ⟨ef, qf⟩ := rd_first hT h hm hp (by rw [hc]; unfold f_X9_isFirst; decide)
  rw [hc] at ef qf
  obtain ⟨b1, b2, b3, b4, b5⟩ := pN1_f N p m 98
  obtain ⟨w1, w2, b, M', N', p', w3, w4, w5⟩ := rd_go (v := 1) (a := 1) hT h hm (by omega) wd_20 (by decide) (pcp_ye hp hc) (pWl_all _ (fun _ => by rw [show pWl 0 = 104 :: [111, 108, 100, 101, 114, 32] from rfl, pcp_no (by omega)]; decide) (fun e => absurd rfl e) (fun _ => by rw [show pWl 2 = 116 :: [105, 100, 101, 32] from rfl, pcp_no (by omega)]; decide) (fun _ => by rw [show pWl 3 = 116 :: [117, 114, 110, 32] from rfl, pcp_no (by omega)]; decide) (fun _ => by rw [show pWl 4 = 99 :: [111, 100, 101, 32] from rfl, pcp_no (by omega)]; decide) (fun _ => by rw [show pWl 5 = 112 :: [117, 116, 32] from rfl, pcp_no (by omega)]; decide) (fun _ => by rw [show pWl 6 = 116 :: [97, 107, 101, 32] from rfl, pcp_no (by omega)]; decide) (fun _ => by rw [show pWl 7 = 99 :: [108, 111, 115, 101, 32] from rfl, pcp_no (by omega)]; decide) (fun _ => by rw [show pWl 8 = 119 :: [97, 105, 116] from rfl, pcp_no (by omega)]; decide)) (by omega) b1 b2 b3 b4 b5
  have eR : f_X9_readsRest (pN1 N p m 98) (nI 98) (nI (4 * m)) = (b, N') := by
    rw [← w4]
    unfold f_X9_readsRest
    rw [if_pos (show nI 98 = 98 from rfl), show pFo 1 = [100, 38, 100, 43, 110] from rfl, ← pF11]
    rfl
  exact ⟨qf ⟨fun _ => ⟨w1, fun _ => trivial, fun z => ⟨(pQ11 _ _ (w2 z)).1, fun _ => trivial, fun y => ⟨((pQ11 _ _ (w2 z)).2 y).1, fun _ => trivial, fun u => ⟨((pQ11 _ _ (w2 z)).2 y).2 u, fun _ => trivial, fun _ => trivial⟩⟩⟩⟩, fun e => absurd rfl e⟩, b, M', N', p', w3, ef.trans eR, w5⟩
theorem rd_p (hT : pTx n T M0 N0) (h : pRd n M0 N0 M N p m m 9 0) (hm : m + 1 ≤ 30) (hp : p < n) (hc : T p = 112) : pCr2 n M0 N0 M N p m := by
  obtain ⟨ef, qf⟩ := rd_first hT h hm hp (by rw [hc]; unfold f_X9_isFirst; decide)
  rw [hc] at ef qf
  obtain ⟨b1, b2, b3, b4, b5⟩ := pN1_f N p m 112
  obtain ⟨w1, w2, b, M', N', p', w3, w4, w5⟩ := rd_go (v := 5) (a := 1) hT h hm (by omega) wd_25 (by decide) (pcp_ye hp hc) (pWl_all _ (fun _ => by rw [show pWl 0 = 104 :: [111, 108, 100, 101, 114, 32] from rfl, pcp_no (by omega)]; decide) (fun _ => by rw [show pWl 1 = 98 :: [111, 120, 32] from rfl, pcp_no (by omega)]; decide) (fun _ => by rw [show pWl 2 = 116 :: [105, 100, 101, 32] from rfl, pcp_no (by omega)]; decide) (fun _ => by rw [show pWl 3 = 116 :: [117, 114, 110, 32] from rfl, pcp_no (by omega)]; decide) (fun _ => by rw [show pWl 4 = 99 :: [111, 100, 101, 32] from rfl, pcp_no (by omega)]; decide) (fun e => absurd rfl e) (fun _ => by rw [show pWl 6 = 116 :: [97, 107, 101, 32] from rfl, pcp_no (by omega)]; decide) (fun _ => by rw [show pWl 7 = 99 :: [108, 111, 115, 101, 32] from rfl, pcp_no (by omega)]; decide) (fun _ => by rw [show pWl 8 = 119 :: [97, 105, 116] from rfl, pcp_no (by omega)]; decide)) (by omega) b1 b2 b3 b4 b5
  have eR : f_X9_readsRest (pN1 N p m 112) (nI 112) (nI (4 * m)) = (b, N') := by
    rw [← w4]
    unfold f_X9_readsRest
    rw [if_neg (show ¬ nI 112 = 98 by decide), if_neg (show ¬ nI 112 = 99 by decide), if_neg (show ¬ nI 112 = 104 by decide), if_pos (show nI 112 = 112 from rfl), show pFo 5 = [100, 61, 110] from rfl, ← pF15]
    rfl
  exact ⟨qf ⟨fun e => absurd e (by decide), fun _ => ⟨fun e => absurd e (by decide), fun _ => ⟨fun e => absurd e (by decide), fun _ => ⟨fun _ => ⟨w1, fun _ => trivial, fun z => ⟨(pQ15 _ _ (w2 z)).1, fun _ => trivial, fun y => ⟨(pQ15 _ _ (w2 z)).2 y, fun _ => trivial, fun _ => trivial⟩⟩⟩, fun e => absurd rfl e⟩⟩⟩⟩, b, M', N', p', w3, ef.trans eR, w5⟩
end
