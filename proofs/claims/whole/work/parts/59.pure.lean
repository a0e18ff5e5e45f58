/-! ===== the line on both sides ===== -/
def pLx (M0 N0 M N : tvM) (n : Nat) : Prop := (M.1 247 1 = nI n ∧ N.1 249 12 = nI n ∧ ∀ k, k < n → ∃ ch : Nat, ch < 65536 ∧ M.1 248 k = nI ch ∧ N.1 254 k = nI ch) ∧ ((∀ a k, a ≠ 247 → a ≠ 248 → M.1 a k = M0.1 a k) ∧ M.2 = M0.2) ∧ (∀ a k, a ≠ 254 → ¬ (a = 249 ∧ k = 12) → N.1 a k = N0.1 a k) ∧ N.2 = N0.2
theorem pLx_add {M0 N0 M N : tvM} {n ch : Nat} (h : pLx M0 N0 M N n) (hn : n < 36) (hc : ch < 65536) : pLx M0 N0 (f_X3_add M (nI ch)) (f_X9_puts N (nI ch)) (n + 1) ∧ q_X9_puts N (nI ch) := by
  obtain ⟨⟨h1, h2, h3⟩, ⟨h4, h5⟩, h6, h7⟩ := h
  have e1 : f_X3_add M (nI ch) = tpi (tpi M 248 n (nI ch)) 247 1 (nI (n + 1)) := by
    unfold f_X3_add
    rw [show tgi M 247 1 = nI n from h1, if_neg (pn_neg (by omega)), pl_36, if_neg (by rw [pn_le (by omega) (by omega)]; omega), pn_c (by omega), show tgi (tpi M 248 n (nI ch)) 247 1 = nI n from (tpi_o _ _ 1 (by omega)).trans h1, nI_1]
  have e2 : f_X9_puts N (nI ch) = tpi (tpi N 254 n (nI ch)) 249 12 (nI (n + 1)) := by
    unfold f_X9_puts
    rw [show tgi N 249 12 = nI n from h2, pn_c (by omega), show tgi (tpi N 254 n (nI ch)) 249 12 = nI n from (tpi_o _ _ 12 (by omega)).trans h2, nI_1]
  refine ⟨?_, by rw [show tgi N 249 12 = nI n from h2]; exact vp_in_nI (by omega) (by omega), trivial⟩
  rw [e1, e2]
  refine ⟨⟨tpi_s _ _ _ _, tpi_s _ _ _ _, fun k hk => ?_⟩, ⟨fun a k q1 q2 => (tpi_o _ _ k q1).trans ((tpi_o _ _ k q2).trans (h4 a k q1 q2)), h5⟩, fun a k q1 q2 => ?_, h7⟩
  · by_cases q : k = n
    · subst q
      exact ⟨ch, hc, (tpi_o _ _ k (by omega)).trans (tpi_s _ _ _ _), (tpi_o _ _ k (by omega)).trans (tpi_s _ _ _ _)⟩
    · obtain ⟨c, d1, d2, d3⟩ := h3 k (by omega)
      exact ⟨c, d1, (tpi_o _ _ k (by omega)).trans ((tpi_k _ _ _ q).trans d2), (tpi_o _ _ k (by omega)).trans ((tpi_k _ _ _ q).trans d3)⟩
  · by_cases q : a = 249
    · subst q
      exact (tpi_k _ _ _ (by omega)).trans ((tpi_o _ _ k q1).trans (h6 _ k q1 q2))
    · exact (tpi_o _ _ k q).trans ((tpi_o _ _ k q1).trans (h6 a k q1 q2))
theorem pLx_num {M0 N0 M N : tvM} {n v : Nat} (h : pLx M0 N0 M N n) (hn : n + (if v < 10 then 1 else 2) ≤ 36) (hv : v < 100) : pLx M0 N0 (f_X3_addNumber M (nI v)) (f_X9_number N (nI v)) (n + (if v < 10 then 1 else 2)) ∧ q_X9_number N (nI v) := by
  have er : nI v - nI v / 10 * 10 = nI (v % 10) := by rw [pl_10]; exact pn_rem (by omega) (by omega) (by omega)
  have ed : nI v / 10 = nI (v / 10) := by rw [pl_10]; exact pn_div (by omega) (by omega) (by omega)
  have er2 : nI (v / 10) - nI (v / 10) / 10 * 10 = nI (v / 10 % 10) := by rw [pl_10]; exact pn_rem (by omega) (by omega) (by omega)
  have e48 : ∀ m, (48 : Int32) + nI m = nI (48 + m) := fun m => by rw [show (48 : Int32) = nI 48 from rfl, nI_add]
  unfold f_X3_addNumber f_X9_number q_X9_number f_X9_numberA q_X9_numberA
  rw [er, ed, er2, e48, e48, e48, pc_chr (48 + v % 10) (by omega), pc_chr (48 + v / 10) (by omega)]
  by_cases q : v < 10
  · have c : nI v < 10 := by rw [pl_10, pn_lt (by omega) (by omega)]; exact q
    rw [if_pos q] at hn
    obtain ⟨a1, a2⟩ := pLx_add (ch := 48 + v % 10) h (by omega) (by omega)
    rw [if_pos c, if_pos c, if_pos q]
    exact ⟨a1, fun _ => ⟨a2, trivial⟩, fun hn => absurd c hn⟩
  · have c : ¬ nI v < 10 := by rw [pl_10, pn_lt (by omega) (by omega)]; exact q
    rw [if_neg q] at hn
    obtain ⟨a1, a2⟩ := pLx_add (ch := 48 + v / 10) h (by omega) (by omega)
    obtain ⟨b1, b2⟩ := pLx_add (ch := 48 + v % 10) a1 (by omega) (by omega)
    rw [if_neg c, if_neg c, if_neg q, Nat.mod_eq_of_lt (show v / 10 < 10 by omega)]
    exact ⟨b1, fun hp => absurd hp c, fun _ => ⟨by rw [pl_10, pn_lt (by omega) (by omega)]; omega, ⟨a2, trivial⟩, b2, trivial⟩⟩
section
variable {B : Nat} {s : Nat → Nat} {M0 N0 M N : tvM} {n : Nat}
theorem pLx_ok (h : pLx M0 N0 M N n) (hR : pOk B (pV M0 1) (pL M0 1) s) : pOk B (pV M 1) (pL M 1) s := by
  have e4 : pL M 1 = pL M0 1 := by unfold pL; rw [h.2.1.2]
  rw [e4]
  exact pOk_cc hR fun p k hr => h.2.1.1 _ k (by unfold pRel at hr; omega) (by unfold pRel at hr; omega)
theorem pLx_puN (h : pLx M0 N0 M N n) (hs : ∀ k, N0.1 250 k = nI (s k)) : puN N s (N.1 249 5) = N := puN_self (fun k => by rw [h.2.2.1 250 k (by omega) (by omega)]; exact hs k) rfl
theorem pLx_of (h : pLx M0 N0 M N n) (hs : ∀ k, N0.1 250 k = nI (s k)) {i w : Nat} (hi : i < 10) (hw : w < 13) : f_X9_of N (nI i) (nI w) = nI (s (36 + 13 * i + w)) := by
  have := px_of N s (N.1 249 5) hi hw
  rwa [pLx_puN h hs] at this
theorem pLx_val (h : pLx M0 N0 M N n) (hR : pOk B (pV M0 1) (pL M0 1) s) {i j : Nat} (hi : i < s 10) (hj : j < s (36 + 13 * i + 7)) : f_X0_valueOf M 1 (nI i) (nI j) = nI (s (36 + 13 * i + (8 + j))) := by
  have hR := pLx_ok h hR
  obtain ⟨⟨hb, hs, hh, hx, he, hsum⟩, ⟨hc, hch, hcx, hcl⟩⟩ := id hR
  have hs' := hs
  obtain ⟨s0, s1, s2, s3, s45, s67, s8, s9, s10, s11, sB⟩ := hs
  have hc' := hc
  obtain ⟨c04, c05, c06, c07, cl, c10, c11, c20, c60⟩ := hc
  have h5 := (hx i (by omega)).2.2.2.2.1
  have := pc_value M 1 (pL M 1) c60 s10 hi (j := j) (by omega)
  rw [show puC M 1 (pV M 1) (pL M 1) = M from puC_self M 1] at this
  rw [this]
  exact (hcx i hi).2.2.2.2.2.2.2.2 j hj
/-- the model's line after i pearls -/
def pWm (x : Int32) (N : tvM) : Nat → tvM
  | 0 => N
  | i + 1 => if nI i ≤ 0 then f_X9_number (pWm x N i) (f_X9_of (pWm x N i) x (8 + nI i)) else f_X9_number (f_X9_puts (pWm x N i) 44) (f_X9_of (f_X9_puts (pWm x N i) 44) x (8 + nI i))
theorem pWb {i : Nat} (h : pLx M0 N0 M N n) (hn : n ≤ 3) (hR : pOk B (pV M0 1) (pL M0 1) s) (hs : ∀ k, N0.1 250 k = nI (s k)) (hi : i < s 10) : ∀ j, j ≤ s (36 + 13 * i + 7) → ∃ m, m ≤ 3 + 3 * j ∧ pLx M0 N0 (tvWb M (nI i) j) (pWm (nI i) N j) m ∧ (j < s (36 + 13 * i + 7) → qb_X9_writeBox (nI i) (nI j) (pWm (nI i) N j)) := by
  have hR' := hR
  obtain ⟨⟨hb, hs, hh, hx, he, hsum⟩, ⟨hc, hch, hcx, hcl⟩⟩ := id hR
  have hs' := hs
  obtain ⟨s0, s1, s2, s3, s45, s67, s8, s9, s10, s11, sB⟩ := hs
  have hc' := hc
  obtain ⟨c04, c05, c06, c07, cl, c10, c11, c20, c60⟩ := hc
  have h5 := (hx i (by omega)).2.2.2.2.1
  have h99 := (hx i (by omega)).2.2.2.2.2.1
  have qof : ∀ (N : tvM) {w : Nat}, w < 13 → q_X9_of N (nI i) (nI w) := fun N w hw => px_qof N (by omega) hw
  have e8 : ∀ j, (8 : Int32) + nI j = nI (8 + j) := fun j => by rw [show (8 : Int32) = nI 8 from rfl, nI_add]
  -- one pearl from a line of m
  have st : ∀ (M N : tvM) (m j : Nat), pLx M0 N0 M N m → m ≤ 3 + 3 * j → j < s (36 + 13 * i + 7) → (∃ m', m' ≤ 3 + 3 * (j + 1) ∧ pLx M0 N0 (if nI j ≤ 0 then f_X3_addNumber M (f_X0_valueOf M 1 (nI i) (nI j)) else f_X3_addNumber (f_X3_add M 44) (f_X0_valueOf (f_X3_add M 44) 1 (nI i) (nI j))) (if nI j ≤ 0 then f_X9_number N (f_X9_of N (nI i) (8 + nI j)) else f_X9_number (f_X9_puts N 44) (f_X9_of (f_X9_puts N 44) (nI i) (8 + nI j))) m') ∧ qb_X9_writeBox (nI i) (nI j) N := by
    intro M N m j hL hm hj
    have hv := h99 j (by omega)
    obtain ⟨b1, b2⟩ := pLx_add (ch := 44) hL (by omega) (by omega)
    have c1 := pLx_num (v := s (36 + 13 * i + (8 + j))) hL (by split <;> omega) (by omega)
    have c2 := pLx_num (v := s (36 + 13 * i + (8 + j))) b1 (by split <;> omega) (by omega)
    have v1 := pLx_val hL hR' hi hj
    have v2 := pLx_val b1 hR' hi hj
    have w1 := pLx_of hL hs (i := i) (w := 8 + j) (by omega) (by omega)
    have w2 := pLx_of b1 hs (i := i) (w := 8 + j) (by omega) (by omega)
    have b2' : q_X9_puts N 44 := b2
    rw [show nI 44 = (44 : Int32) from rfl] at v2 w2 c2
    constructor
    · by_cases q : nI j ≤ 0
      · rw [if_pos q, if_pos q, v1, e8, w1]
        exact ⟨_, by split <;> omega, c1.1⟩
      · rw [if_neg q, if_neg q, v2, e8, w2]
        exact ⟨_, by split <;> omega, c2.1⟩
    · unfold qb_X9_writeBox
      refine ⟨qof N (w := 7) (by omega), fun _ => trivial, fun _ => ⟨fun _ => ⟨?_, ?_, trivial⟩, fun _ => ⟨b2', ?_, ?_, trivial⟩⟩⟩
      · rw [e8]; exact qof N (by omega)
      · rw [e8, w1]; exact c1.2
      · rw [e8]; exact qof _ (by omega)
      · rw [e8, w2]; exact c2.2
  intro j
  induction j with
  | zero =>
    intro hj
    exact ⟨n, by omega, h, fun hp => (st _ _ n 0 h (by omega) hp).2⟩
  | succ j ih =>
    intro hj
    obtain ⟨m, hm, hL, _⟩ := ih (by omega)
    obtain ⟨⟨m', hm', hL'⟩, _⟩ := st _ _ m j hL hm (by omega)
    exact ⟨m', hm', hL', fun hp => (st _ _ m' (j + 1) hL' hm' hp).2⟩
/-- a line begun anew on both sides -/
theorem pLx_new (M0 N0 : tvM) : pLx M0 (tpi N0 249 5 0) (f_X3_empty M0) (tpi (tpi N0 249 5 0) 249 12 0) 0 := by
  unfold f_X3_empty
  refine ⟨⟨tpi_s _ _ _ _, tpi_s _ _ _ _, fun k hk => absurd hk (by omega)⟩, ⟨fun a k q1 _ => tpi_o _ _ k q1, rfl⟩, fun a k q1 q2 => ?_, rfl⟩
  by_cases q : a = 249
  · subst q
    exact tpi_k _ _ _ (by omega)
  · exact tpi_o _ _ k q
theorem pBoxLine {i : Nat} (hR : pOk B (pV M0 1) (pL M0 1) s) (hs : ∀ k, N0.1 250 k = nI (s k)) (hi : i < s 10) : ∃ (K : tvM) (m : Nat), m ≤ 36 ∧ pLx M0 (tpi N0 249 5 0) (tvWbM M0 (nI i)) K m ∧ q_X9_writeBox N0 (nI i) ∧ f_X9_writeBox N0 (nI i) = (nI m, K) := by
  have hR' := hR
  obtain ⟨⟨hb, hs, hh, hx, he, hsum⟩, ⟨hc, hch, hcx, hcl⟩⟩ := id hR
  have hs' := hs
  obtain ⟨s0, s1, s2, s3, s45, s67, s8, s9, s10, s11, sB⟩ := hs
  have hc' := hc
  obtain ⟨c04, c05, c06, c07, cl, c10, c11, c20, c60⟩ := hc
  have h5 := (hx i (by omega)).2.2.2.2.1
  have h3 := (hx i (by omega)).2.1
  have hs5 : ∀ k, (tpi N0 249 5 0).1 250 k = nI (s k) := fun k => (tpi_o _ _ k (by omega)).trans (hs k)
  have hst : ∃ ch : Nat, ch < 65536 ∧ pSt (s (36 + 13 * i + 3)) = nI ch := by
    rcases (show s (36 + 13 * i + 3) = 0 ∨ s (36 + 13 * i + 3) = 1 ∨ s (36 + 13 * i + 3) = 2 ∨ s (36 + 13 * i + 3) = 3 by omega) with q | q | q | q <;> rw [q]
    · exact ⟨99, by omega, rfl⟩
    · exact ⟨104, by omega, rfl⟩
    · exact ⟨112, by omega, rfl⟩
    · exact ⟨111, by omega, rfl⟩
  obtain ⟨ch, hc, hce⟩ := hst
  have a0 := pLx_new M0 N0
  have a1 := pLx_num (v := i) a0 (by split <;> omega) (by omega)
  rw [if_pos (show i < 10 by omega)] at a1
  obtain ⟨a1, q1⟩ := a1
  have es : f_X0_statusOf (f_X3_addNumber (f_X3_empty M0) (nI i)) 1 (nI i) = nI ch := by
    have hR := pLx_ok a1 hR'
    obtain ⟨⟨_, gs, _⟩, ⟨gc, _, gx, _⟩⟩ := id hR
    have g60 := gc.2.2.2.2.2.2.2.2
    have := pc_status (f_X3_addNumber (f_X3_empty M0) (nI i)) 1 (pL (f_X3_addNumber (f_X3_empty M0) (nI i)) 1) g60 s10 hi
    rw [show puC (f_X3_addNumber (f_X3_empty M0) (nI i)) 1 (pV (f_X3_addNumber (f_X3_empty M0) (nI i)) 1) (pL (f_X3_addNumber (f_X3_empty M0) (nI i)) 1) = f_X3_addNumber (f_X3_empty M0) (nI i) from puC_self _ 1] at this
    rw [this, (gx i hi).2.2.2.1, pSt_tnc, hce]
  have em : f_X9_of (f_X9_number (tpi (tpi N0 249 5 0) 249 12 0) (nI i)) (nI i) 3 = nI (s (36 + 13 * i + 3)) := pLx_of a1 hs5 (w := 3) (by omega) (by omega)
  obtain ⟨a2, q2⟩ := pLx_add (ch := ch) a1 (by omega) hc
  obtain ⟨a3, q3⟩ := pLx_add (ch := 58) a2 (by omega) (by omega)
  have eW : tvWbM M0 (nI i) = tvWb (f_X3_add (f_X3_add (f_X3_addNumber (f_X3_empty M0) (nI i)) (nI ch)) (nI 58)) (nI i) (s (36 + 13 * i + 7)) := by
    unfold tvWbM tvWb0
    have := pc_pearls M0 1 (pL M0 1) c60 s10 hi
    rw [show puC M0 1 (pV M0 1) (pL M0 1) = M0 from puC_self M0 1] at this
    rw [es, this, (hcx i hi).2.2.2.2.2.2.2.1, pn_c (by omega)]
    rfl
  have hW := pWb a3 (by omega) hR' hs5 hi
  obtain ⟨K, hK⟩ : ∃ z, z = f_X9_puts (f_X9_puts (f_X9_number (tpi (tpi N0 249 5 0) 249 12 0) (nI i)) (nI ch)) (nI 58) := ⟨_, rfl⟩
  rw [← hK] at hW
  obtain ⟨m, hm, hL, _⟩ := hW (s (36 + 13 * i + 7)) (Nat.le_refl _)
  have g1 : f_X9_isBox N0 (nI i) = nI 1 := by
    have := px_box1 N0 s (N0.1 249 5) s10 hi
    rwa [puN_self hs rfl] at this
  have he' : e_X9_writeBox N0 (nI i) = .inl (nI 0, pWm (nI i) K 0) := by
    unfold e_X9_writeBox
    rw [g1, if_neg (by decide), px_thr, em, px_sign2 _ h3, hce, show (58 : Int32) = nI 58 from rfl, ← hK]
    rfl
  have lp := pFor (s_X9_writeBox (nI i)) (qs_X9_writeBox (nI i)) (fun j => (nI j, pWm (nI i) K j)) (s (36 + 13 * i + 7)) (nI m, pWm (nI i) K (s (36 + 13 * i + 7))) (fun j hj => by
    obtain ⟨m', hm', hL', _⟩ := hW j (by omega)
    unfold s_X9_writeBox sb_X9_writeBox
    simp only []
    rw [show f_X9_of (pWm (nI i) K j) (nI i) 7 = nI (s (36 + 13 * i + 7)) from pLx_of hL' hs5 (w := 7) (by omega) (by omega), if_neg (by rw [pn_le (by omega) (by omega)]; omega), nI_1]
    by_cases q : nI j ≤ 0
    · rw [if_pos q]
      show _ = Sum.inl (nI (j + 1), if nI j ≤ 0 then _ else _)
      rw [if_pos q]
    · rw [if_neg q]
      show _ = Sum.inl (nI (j + 1), if nI j ≤ 0 then _ else _)
      rw [if_neg q]) (fun j hj => by
    obtain ⟨m', hm', hL', hq⟩ := hW j hj
    unfold qs_X9_writeBox
    by_cases q : j < s (36 + 13 * i + 7)
    · exact hq q
    · unfold qb_X9_writeBox
      refine ⟨px_qof _ (w := 7) (by omega) (by omega), fun _ => trivial, fun hn => absurd ?_ hn⟩
      simp only []
      rw [show f_X9_of (pWm (nI i) K j) (nI i) 7 = nI (s (36 + 13 * i + 7)) from pLx_of hL' hs5 (w := 7) (by omega) (by omega), pn_le (by omega) (by omega)]
      omega) (by
    unfold s_X9_writeBox sb_X9_writeBox
    simp only []
    rw [show f_X9_of (pWm (nI i) K (s (36 + 13 * i + 7))) (nI i) 7 = nI (s (36 + 13 * i + 7)) from pLx_of hL hs5 (w := 7) (by omega) (by omega), if_pos (by rw [pn_le (by omega) (by omega)]; omega), show tgi (pWm (nI i) K (s (36 + 13 * i + 7))) 249 12 = nI m from hL.1.2.1]) 5000 (by omega)
  rw [← he'] at lp
  refine ⟨_, m, by omega, ?_, ⟨⟨fun _ => trivial, fun _ => ?_⟩, ⟨_, lp.1⟩, lp.2⟩, pGet lp.1⟩
  · rw [eW]; exact hL
  · rw [px_thr, em, px_sign2 _ h3, hce]
    exact ⟨q1, px_qof _ (w := 3) (by omega) (by omega), px_sign1 _ h3, q2, q3, trivial⟩
end

