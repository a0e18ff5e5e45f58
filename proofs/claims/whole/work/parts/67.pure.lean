theorem wd_9 : pWd 9 [32, 110] := by
  unfold pWd
  decide
theorem wd_10 : pWd 10 [110] := by
  unfold pWd
  decide
theorem wd_11 : pWd 11 [100, 38, 100, 43, 110] := by
  unfold pWd
  decide
theorem wd_12 : pWd 12 [110, 47, 110] := by
  unfold pWd
  decide
theorem wd_13 : pWd 13 [100, 32, 100, 61, 110] := by
  unfold pWd
  decide
theorem wd_14 : pWd 14 [100, 32, 110, 62, 110] := by
  unfold pWd
  decide
theorem wd_15 : pWd 15 [100, 61, 110] := by
  unfold pWd
  decide
theorem wd_16 : pWd 16 [100] := by
  unfold pWd
  decide
theorem wd_17 : pWd 17 [] := by
  unfold pWd
  decide
def pFo (v : Nat) : List Nat := [[110], [100, 38, 100, 43, 110], [110, 47, 110], [100, 32, 100, 61, 110], [100, 32, 110, 62, 110], [100, 61, 110], [100], [100], []].getD v []
def pcnt : List Nat → Nat
  | [] => 0
  | c :: r => (if c = 100 ∨ c = 110 then 1 else 0) + pcnt r
/-- reading a form: the model -/
def pmF (base : Nat) : List Nat → Nat → tvM → Int32 × tvM
  | [], _, N => (1, N)
  | c :: r, g, N => if c = 100 then (if (f_X9_isNumber N 1 (nI (base + 1 + g))).1 = 0 then (0, (f_X9_isNumber N 1 (nI (base + 1 + g))).2) else pmF base r (g + 1) (f_X9_isNumber N 1 (nI (base + 1 + g))).2) else if c = 110 then (if (f_X9_isNumber N 3 (nI (base + 1 + g))).1 = 0 then (0, (f_X9_isNumber N 3 (nI (base + 1 + g))).2) else pmF base r (g + 1) (f_X9_isNumber N 3 (nI (base + 1 + g))).2) else (if (f_X9_isSign N (nI c)).1 = 0 then (0, (f_X9_isSign N (nI c)).2) else pmF base r g (f_X9_isSign N (nI c)).2)
def pmQ (base : Nat) : List Nat → Nat → tvM → Prop
  | [], _, _ => True
  | c :: r, g, N => if c = 100 then q_X9_isNumber N 1 (nI (base + 1 + g)) ∧ (¬ (f_X9_isNumber N 1 (nI (base + 1 + g))).1 = 0 → pmQ base r (g + 1) (f_X9_isNumber N 1 (nI (base + 1 + g))).2) else if c = 110 then q_X9_isNumber N 3 (nI (base + 1 + g)) ∧ (¬ (f_X9_isNumber N 3 (nI (base + 1 + g))).1 = 0 → pmQ base r (g + 1) (f_X9_isNumber N 3 (nI (base + 1 + g))).2) else q_X9_isSign N (nI c) ∧ (¬ (f_X9_isSign N (nI c)).1 = 0 → pmQ base r g (f_X9_isSign N (nI c)).2)
theorem tvRfm_0 (x r i : Nat) (y3 : Int32) (M : tvM) : tvRfm x r i y3 0 M = (0, M) := by
  cases r with
  | zero => rfl
  | succ r =>
    show (if (0 : Int32) = 0 then _ else _) = _
    rw [if_pos rfl]
section
variable {n : Nat} {T : Nat → Nat} {M0 N0 : tvM}
theorem rd_form (hT : pTx n T M0 N0) {x : Nat} {F : List Nat} (hx : pWd x F) {m k v : Nat} : ∀ r i g M N p, i + r = F.length → pRd n M0 N0 M N p m k v g → g + pcnt (F.drop i) ≤ 3 → pmQ (4 * m) (F.drop i) g N ∧ ∃ (b : Int32) (M' N' : tvM) (p' g' : Nat), tvRfm x r i (nI g) 1 M = (b, M') ∧ pmF (4 * m) (F.drop i) g N = (b, N') ∧ pRd n M0 N0 M' N' p' m k v g' ∧ p ≤ p' ∧ (b = 0 ∨ (b = 1 ∧ g' = g + pcnt (F.drop i))) := by
  intro r
  induction r with
  | zero =>
    intro i g M N p e h hg
    rw [List.drop_eq_nil_of_le (by omega)]
    exact ⟨trivial, 1, M, N, p, g, rfl, rfl, h, Nat.le_refl _, Or.inr ⟨rfl, rfl⟩⟩
  | succ r ih =>
    intro i g M N p e h hg
    have hi : i < F.length := by omega
    have hd : F.drop i = F.getD i 0 :: F.drop (i + 1) := by
      rw [List.drop_eq_getElem_cons hi, List.getD_eq_getElem?_getD, List.getElem?_eq_getElem hi]
      rfl
    obtain ⟨ch, c6, c0⟩ := hx.2.2 i hi
    rw [hd] at hg ⊢
    generalize F.getD i 0 = c at hg ch c6 c0
    have hcn : pcnt (c :: F.drop (i + 1)) = (if c = 100 ∨ c = 110 then 1 else 0) + pcnt (F.drop (i + 1)) := rfl
    rw [hcn] at hg ⊢
    have eR : tvRfm x (r + 1) i (nI g) 1 M = (if nI c = 100 then tvRfm x r (i + 1) (nI g + 1) (f_X5_readNumber M (nI g) 1).1 (f_X5_readNumber M (nI g) 1).2 else if nI c = 110 then tvRfm x r (i + 1) (nI g + 1) (f_X5_readNumber M (nI g) 3).1 (f_X5_readNumber M (nI g) 3).2 else tvRfm x r (i + 1) (nI g) (f_X5_readSign M (nI c)).1 (f_X5_readSign M (nI c)).2) := by
      show (if (1 : Int32) = 0 then _ else if f_J0_charAt_5068e x (nI i) = 100 then _ else if f_J0_charAt_5068e x (nI i) = 110 then _ else _) = _
      rw [if_neg p10, ch]
    rw [eR]
    have k100 : nI c = 100 ↔ c = 100 := by rw [pl_100, pn_eq (by omega) (by omega)]
    have k110 : nI c = 110 ↔ c = 110 := by rw [show (110 : Int32) = nI 110 from rfl, pn_eq (by omega) (by omega)]
    by_cases q1 : c = 100
    · rw [if_pos (Or.inl q1)] at hg ⊢
      rw [if_pos (k100.2 q1)]
      obtain ⟨qn, M', N', b, p', r1, r2, r3, r4, r5⟩ := rd_num hT h (by omega) (d := 1) (by omega) (by omega)
      rw [show nI 1 = (1 : Int32) from rfl] at qn r1 r2
      have eF : pmF (4 * m) (c :: F.drop (i + 1)) g N = if b = 0 then (0, N') else pmF (4 * m) (F.drop (i + 1)) (g + 1) N' := by
        show (if c = 100 then _ else _) = _
        rw [if_pos q1, r2]
      have eQ : pmQ (4 * m) (c :: F.drop (i + 1)) g N ↔ (q_X9_isNumber N 1 (nI (4 * m + 1 + g)) ∧ (¬ b = 0 → pmQ (4 * m) (F.drop (i + 1)) (g + 1) N')) := by
        show (if c = 100 then _ else _) ↔ _
        rw [if_pos q1, r2]
      rw [eF, eQ, r1, nI_1]
      dsimp only
      rcases r5 with rfl | rfl
      · rw [if_pos rfl, tvRfm_0]
        exact ⟨⟨qn, fun z => absurd rfl z⟩, 0, M', N', p', g + 1, rfl, rfl, r3, r4, Or.inl rfl⟩
      · rw [if_neg p10]
        obtain ⟨z1, b2, M2, N2, p2, g2, z2, z3, z4, z5, z6⟩ := ih (i + 1) (g + 1) M' N' p' (by omega) r3 (by omega)
        exact ⟨⟨qn, fun _ => z1⟩, b2, M2, N2, p2, g2, z2, z3, z4, by omega, z6.imp id fun y => ⟨y.1, by omega⟩⟩
    · by_cases q2 : c = 110
      · rw [if_pos (Or.inr q2)] at hg ⊢
        rw [if_neg (fun z => q1 (k100.1 z)), if_pos (k110.2 q2)]
        obtain ⟨qn, M', N', b, p', r1, r2, r3, r4, r5⟩ := rd_num hT h (by omega) (d := 3) (by omega) (by omega)
        rw [show nI 3 = (3 : Int32) from rfl] at qn r1 r2
        have eF : pmF (4 * m) (c :: F.drop (i + 1)) g N = if b = 0 then (0, N') else pmF (4 * m) (F.drop (i + 1)) (g + 1) N' := by
          show (if c = 100 then _ else if c = 110 then _ else _) = _
          rw [if_neg q1, if_pos q2, r2]
        have eQ : pmQ (4 * m) (c :: F.drop (i + 1)) g N ↔ (q_X9_isNumber N 3 (nI (4 * m + 1 + g)) ∧ (¬ b = 0 → pmQ (4 * m) (F.drop (i + 1)) (g + 1) N')) := by
          show (if c = 100 then _ else if c = 110 then _ else _) ↔ _
          rw [if_neg q1, if_pos q2, r2]
        rw [eF, eQ, r1, nI_1]
        dsimp only
        rcases r5 with rfl | rfl
        · rw [if_pos rfl, tvRfm_0]
          exact ⟨⟨qn, fun z => absurd rfl z⟩, 0, M', N', p', g + 1, rfl, rfl, r3, r4, Or.inl rfl⟩
        · rw [if_neg p10]
          obtain ⟨z1, b2, M2, N2, p2, g2, z2, z3, z4, z5, z6⟩ := ih (i + 1) (g + 1) M' N' p' (by omega) r3 (by omega)
          exact ⟨⟨qn, fun _ => z1⟩, b2, M2, N2, p2, g2, z2, z3, z4, by omega, z6.imp id fun y => ⟨y.1, by omega⟩⟩
      · have q12 : ¬ (c = 100 ∨ c = 110) := fun z => z.elim q1 q2
        rw [if_neg q12] at hg ⊢
        rw [if_neg (fun z => q1 (k100.1 z)), if_neg (fun z => q2 (k110.1 z))]
        obtain ⟨qs, s1, s0⟩ := rd_sign hT h c6 c0
        have eF : pmF (4 * m) (c :: F.drop (i + 1)) g N = if (f_X9_isSign N (nI c)).1 = 0 then (0, (f_X9_isSign N (nI c)).2) else pmF (4 * m) (F.drop (i + 1)) g (f_X9_isSign N (nI c)).2 := by
          show (if c = 100 then _ else if c = 110 then _ else _) = _
          rw [if_neg q1, if_neg q2]
        have eQ : pmQ (4 * m) (c :: F.drop (i + 1)) g N ↔ (q_X9_isSign N (nI c) ∧ (¬ (f_X9_isSign N (nI c)).1 = 0 → pmQ (4 * m) (F.drop (i + 1)) g (f_X9_isSign N (nI c)).2)) := by
          show (if c = 100 then _ else if c = 110 then _ else _) ↔ _
          rw [if_neg q1, if_neg q2]
        rw [eF, eQ]
        by_cases q3 : p < n ∧ T p = c
        · obtain ⟨t1, t2⟩ := s1 q3
          rw [t1, t2]
          dsimp only
          rw [if_neg p10]
          obtain ⟨z1, b2, M2, N2, p2, g2, z2, z3, z4, z5, z6⟩ := ih (i + 1) g _ _ (p + 1) (by omega) (pRd_pos h (by omega)) (by omega)
          exact ⟨⟨qs, fun _ => z1⟩, b2, M2, N2, p2, g2, z2, z3, z4, by omega, z6.imp id fun y => ⟨y.1, by omega⟩⟩
        · obtain ⟨t1, t2⟩ := s0 q3
          rw [t1, t2]
          dsimp only
          rw [if_pos rfl, tvRfm_0]
          exact ⟨⟨qs, fun z => absurd rfl z⟩, 0, M, N, p, g, rfl, rfl, h, Nat.le_refl _, Or.inl rfl⟩
/-- what is left after a failure -/
def pRf (n : Nat) (M0 N0 M N : tvM) (p : Nat) : Prop := (M.1 243 2 = nI p ∧ N.1 249 16 = nI p ∧ p ≤ n) ∧ ((∀ a j, a ≠ 245 → a ≠ 246 → ¬ (a = 243 ∧ 2 ≤ j ∧ j ≤ 3) → M.1 a j = M0.1 a j) ∧ M.2 = M0.2) ∧ ((∀ a j, a ≠ 256 → ¬ (a = 249 ∧ 16 ≤ j ∧ j ≤ 17) → N.1 a j = N0.1 a j) ∧ N.2 = N0.2)
theorem pRd.rf {M N : tvM} {p m k v g : Nat} (h : pRd n M0 N0 M N p m k v g) : pRf n M0 N0 M N p := ⟨⟨h.1.1, h.1.2.1, h.1.2.2.1⟩, h.2.1, h.2.2.1⟩
theorem pRf_3 {M N : tvM} {p : Nat} (h : pRf n M0 N0 M N p) (w : Int32) : pRf n M0 N0 (tpi M 243 3 w) N p := by
  obtain ⟨⟨h1, h2, h3⟩, ⟨f1, f2⟩, h4⟩ := h
  refine ⟨⟨(tpi_k _ _ _ (by omega)).trans h1, h2, h3⟩, ⟨fun a j q1 q2 q3 => ?_, f2⟩, h4⟩
  by_cases q : a = 243
  · subst q
    exact (tpi_k _ _ _ (by omega)).trans (f1 _ j q1 q2 q3)
  · exact (tpi_o _ _ j q).trans (f1 a j q1 q2 q3)
theorem pRd_next {M N : tvM} {p m v g : Nat} (h : pRd n M0 N0 M N p m (m + 1) v g) (hv : v < 9) (hg : pNa v ≤ g) (hm : m + 1 ≤ 30) : pRd n M0 N0 (tpi M 243 3 (nI (m + 1))) N p (m + 1) (m + 1) 9 0 := by
  obtain ⟨⟨h1, h2, h3, h4, h5, h6⟩, ⟨f1, f2⟩, f3, hc, hvv, hgg⟩ := h
  have oM : ∀ a j, ¬ (a = 243 ∧ j = 3) → (tpi M 243 3 (nI (m + 1))).1 a j = M.1 a j := fun a j q => by
    by_cases q1 : a = 243
    · subst q1
      exact tpi_k _ _ _ (by omega)
    · exact tpi_o _ _ j q1
  refine ⟨⟨(oM _ _ (by omega)).trans h1, h2, h3, tpi_s _ _ _ _, h5, hm⟩, ⟨fun a j q1 q2 q3 => (oM a j (by omega)).trans (f1 a j q1 q2 q3), f2⟩, f3, fun i hi => ?_, fun q => absurd q (by omega), fun j hj => absurd hj (by omega)⟩
  by_cases q : i = m
  · subst q
    obtain ⟨v1, v2⟩ := hvv hv
    exact ⟨v, hv, (oM _ _ (by omega)).trans v1, v2, fun j hj => (oM _ _ (by omega)).trans (hgg j (by omega))⟩
  · exact pCm_c (hc i (by omega)) (oM _ _ (by omega)) (fun j _ => oM _ _ (by omega)) (fun j _ => rfl)
/-- the rest of a command, once the model has taken its first a letters -/
theorem rd_go (hT : pTx n T M0 N0) {M N N2 : tvM} {p m k v0 g0 v a x : Nat} {w : List Nat} (h : pRd n M0 N0 M N p m k v0 g0) (hm : m + 1 ≤ 30) (hv : v < 8) (hw : pWd x w) (hl : (pWl v).length = a + w.length) (hcp : pcp n T (pWl v) p = a + pcp n T w (p + a)) (ho : ∀ i, i < 9 → i ≠ v → pcp n T (pWl i) p < (pWl i).length ∧ pcp n T (pWl i) p ≤ a) (hpa : p + a ≤ n) (b1 : ∀ c j, ¬ (c = 249 ∧ (j = 16 ∨ j = 17)) → ¬ (c = 256 ∧ j = 4 * m) → N2.1 c j = N.1 c j) (b2 : N2.1 249 16 = nI (p + a)) (b3 : N2.1 249 17 = nI (m + 1)) (b4 : N2.2 = N.2) (b5 : N2.1 256 (4 * m) = nI (pLt v)) :
    q_X9_isWord N2 x ∧ (¬ (f_X9_isWord N2 x).1 = 0 → pmQ (4 * m) (pFo v) 0 (f_X9_isWord N2 x).2) ∧ ∃ (b : Int32) (M' N' : tvM) (p' : Nat), f_X5_readCommand M = (b, M') ∧ (if (f_X9_isWord N2 x).1 = 0 then (0, (f_X9_isWord N2 x).2) else pmF (4 * m) (pFo v) 0 (f_X9_isWord N2 x).2) = (b, N') ∧ ((b = 0 ∧ pRf n M0 N0 M' N' p') ∨ (b = 1 ∧ pRd n M0 N0 M' N' p' (m + 1) (m + 1) 9 0 ∧ p + a ≤ p')) := by
  have oM : ∀ z c j, ¬ (c = 243 ∧ j = 2) → (tpi M 243 2 z).1 c j = M.1 c j := fun z c j q => by
    by_cases q1 : c = 243
    · subst q1
      exact tpi_k _ _ _ (by omega)
    · exact tpi_o _ _ j q1
  have e0 : pRd n M0 N0 (tpi M 243 2 (nI (p + a))) N2 (p + a) m (m + 1) 9 0 := pRd_ext h hpa (fun c j q1 q2 => oM _ c j q1) (tpi_s _ _ _ _) rfl b1 b2 b3 b4 (fun q => absurd q (by omega))
  obtain ⟨w1, w2⟩ := rd_word hT e0 hw
  have hle := pcp_le n T w (p + a)
  have hin := pcp_in n T w (p + a)
  generalize hK : pcp n T w (p + a) = K at w2 hle hin hcp
  have hpos : p + a + K ≤ n := by
    by_cases q : K = 0
    · omega
    · have := (hin (K - 1) (by omega)).1
      omega
  refine ⟨w1, ?_⟩
  rw [w2]
  dsimp only
  have e1 : pRd n M0 N0 (tpi M 243 2 (nI (p + a + K))) (tpi N2 249 16 (nI (p + a + K))) (p + a + K) m (m + 1) 9 0 := by
    have := pRd_pos e0 hpos
    rwa [tpi_tpi] at this
  by_cases q : K = w.length
  · rw [if_pos q, if_neg p10]
    have ev : f_X5_readVerb M = (nI v, tpi M 243 2 (nI (p + a + K))) := by
      have := rd_verb1 hT h (o := v) (by omega) (by rw [hcp, hl, q]) (fun i hi => Nat.ne_of_lt (ho i (by omega) (by omega)).1)
      rw [this, hl, q, Nat.add_assoc]
    have e2 : pRd n M0 N0 (tpi (tpi M 243 2 (nI (p + a + K))) 245 m (nI v)) (tpi N2 249 16 (nI (p + a + K))) (p + a + K) m (m + 1) v 0 := pRd_ext e1 hpos (fun c j q1 q2 => by
      by_cases q3 : c = 245
      · subst q3
        exact tpi_k _ _ _ (by omega)
      · exact tpi_o _ _ j q3) ((tpi_o _ _ 2 (by omega)).trans (tpi_s _ _ _ _)) rfl (fun _ _ _ _ => rfl) (tpi_s _ _ _ _) ((tpi_k _ _ _ (by omega)).trans b3) rfl (fun _ => ⟨tpi_s _ _ _ _, (tpi_o _ _ _ (by omega)).trans b5⟩)
    have hF : ∃ f, f_X5_formOf (nI v) = f ∧ pWd f (pFo v) ∧ pcnt (pFo v) = pNa v := by
      rcases (show v = 0 ∨ v = 1 ∨ v = 2 ∨ v = 3 ∨ v = 4 ∨ v = 5 ∨ v = 6 ∨ v = 7 by omega) with rfl | rfl | rfl | rfl | rfl | rfl | rfl | rfl
      · exact ⟨10, by decide, wd_10, by decide⟩
      · exact ⟨11, by decide, wd_11, by decide⟩
      · exact ⟨12, by decide, wd_12, by decide⟩
      · exact ⟨13, by decide, wd_13, by decide⟩
      · exact ⟨14, by decide, wd_14, by decide⟩
      · exact ⟨15, by decide, wd_15, by decide⟩
      · exact ⟨16, by decide, wd_16, by decide⟩
      · exact ⟨16, by decide, wd_16, by decide⟩
    obtain ⟨f, f1, f2, f3⟩ := hF
    have hna := pNa_le v
    obtain ⟨z1, b, M', N', p', g', z2, z3, z4, z5, z6⟩ := rd_form hT f2 (pFo v).length 0 0 _ _ _ (by omega) e2 (by rw [List.drop_zero]; omega)
    rw [List.drop_zero] at z1 z3 z6
    refine ⟨fun _ => z1, ?_⟩
    have ne1 : ¬ nI v = -1 := fun e => pn_m1ne (c := v) (by omega) e.symm
    have ne8 : ¬ nI v = 8 := by rw [pl_8, pn_eq (by omega) (by omega)]; omega
    have e3 : tgi (tpi M 243 2 (nI (p + a + K))) 243 3 = nI m := e1.1.2.2.2.1
    have eR : f_X5_readForm (tpi (tpi M 243 2 (nI (p + a + K))) 245 m (nI v)) f = (b, M') := by
      unfold f_X5_readForm
      rw [f2.1]
      exact z2
    have eC : f_X5_readCommand M = (b, tpi M' 243 3 (nI (m + 1))) := by
      unfold f_X5_readCommand
      rw [ev]
      dsimp only
      rw [if_neg ne1, e3, if_neg (pn_neg (by omega)), if_pos (by rw [pl_60, pn_lt (by omega) (by omega)]; omega), if_neg ne8, pn_c (by omega), f1, eR]
      dsimp only
      rw [show tgi M' 243 3 = nI m from z4.1.2.2.2.1, nI_1]
    refine ⟨b, _, N', p', eC, z3, ?_⟩
    rcases z6 with rfl | ⟨rfl, z6⟩
    · exact Or.inl ⟨rfl, pRf_3 z4.rf _⟩
    · exact Or.inr ⟨rfl, pRd_next z4 (by omega) (by omega) hm, by omega⟩
  · rw [if_neg q, if_pos rfl]
    refine ⟨fun z => absurd rfl z, ?_⟩
    have hmx : pmx (fun i => pcp n T (pWl i) p) 9 = a + K := by
      have up : ∀ j, j ≤ 9 → pmx (fun i => pcp n T (pWl i) p) j ≤ a + K ∧ (v < j → pmx (fun i => pcp n T (pWl i) p) j = a + K) := by
        intro j
        induction j with
        | zero => intro _; exact ⟨Nat.zero_le _, fun q => absurd q (by omega)⟩
        | succ j ih =>
          intro hj
          obtain ⟨u1, u2⟩ := ih (by omega)
          have em : pmx (fun i => pcp n T (pWl i) p) (j + 1) = max (pmx (fun i => pcp n T (pWl i) p) j) (pcp n T (pWl j) p) := rfl
          rw [em]
          by_cases e : j = v
          · subst e
            rw [hcp]
            exact ⟨by omega, fun _ => by omega⟩
          · have := (ho j (by omega) e).2
            exact ⟨by omega, fun z => by have := u2 (by omega); omega⟩
      exact (up 9 (by omega)).2 (by omega)
    have ev : f_X5_readVerb M = (-1, tpi M 243 2 (nI (p + a + K))) := by
      have := rd_verb0 hT h (fun i hi => by
        by_cases e : i = v
        · subst e
          rw [hcp, hl]
          omega
        · exact Nat.ne_of_lt (ho i hi e).1)
      rw [this, hmx, Nat.add_assoc]
    have eC : f_X5_readCommand M = (0, tpi M 243 2 (nI (p + a + K))) := by
      unfold f_X5_readCommand
      rw [ev]
      dsimp only
      rw [if_pos rfl]
    exact ⟨0, _, _, p + a + K, eC, rfl, Or.inl ⟨rfl, e1.rf⟩⟩
end

