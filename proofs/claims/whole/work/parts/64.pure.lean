theorem pc_23 {B : Nat} {M : tvM} (h : pJ B M M) (hB : B ≤ 10000000) (a1 a2 a3 : Int32) : lq_23 M a1 a2 a3 ∧ pJ B (lm_23 M a1 a2 a3) (lm_23 M a1 a2 a3) := by
  obtain ⟨s, x, n, hJ, hr⟩ := h
  have ha := pAsk_minutesUntilOpen hJ.2.1 M a1
  rw [pc_self hJ] at ha
  rcases pAsk_self hJ.1 ha with ⟨v, c, d⟩ | ⟨p, hp, c, d⟩
  · have eL : f_L_minutesUntilOpen M a1 = (0, tpl M 257 0 v.toInt64) := by
      unfold f_L_minutesUntilOpen
      rw [c]
      rfl
    obtain ⟨q, e⟩ := d (tpl M 257 0 v.toInt64) rfl
    have e9 : f_X9_minutesUntilOpen (tpl M 257 0 v.toInt64) a1 = (v, puN (tpl M 257 0 v.toInt64) s (nI 0)) := e
    unfold lq_23 lm_23
    rw [eL]
    dsimp only
    rw [e9]
    refine ⟨⟨⟨fun e he => ?_, trivial⟩, q, puN_t _ _ _, fun _ => ?_, trivial⟩, pJ_q hJ hr hB (M' := tpl M 257 0 v.toInt64) rfl (fun a ha => tpl_o M 0 _ (by omega)) _⟩
    · rw [c] at he
      exact absurd he (by simp)
    · rw [show tgl (puN (tpl M 257 0 v.toInt64) s (nI 0)) 257 0 = v.toInt64 from tpl_s _ _ _ _]
      exact lg_self _
  · obtain ⟨q, e⟩ := d M rfl
    have e9 : f_X9_minutesUntilOpen M a1 = (nI 0, puN M s (nI p.2)) := e
    simp only [List.mem_cons, List.not_mem_nil, or_false] at hp
    rcases hp with rfl | rfl
    · have eL : f_L_minutesUntilOpen M a1 = (1, M) := by
        unfold f_L_minutesUntilOpen
        rw [c]
        simp
      unfold lq_23 lm_23
      rw [eL]
      dsimp only
      rw [e9]
      refine ⟨⟨⟨fun e he => ?_, trivial⟩, q, puN_t _ _ _, fun n0 => absurd n0 (by simp), trivial⟩, pJ_q hJ hr hB rfl (fun _ _ => rfl) _⟩
      rw [c] at he
      have he' := Option.some.inj he
      subst he'
      simp
    · have eL : f_L_minutesUntilOpen M a1 = (2, M) := by
        unfold f_L_minutesUntilOpen
        rw [c]
        simp
      unfold lq_23 lm_23
      rw [eL]
      dsimp only
      rw [e9]
      refine ⟨⟨⟨fun e he => ?_, trivial⟩, q, puN_t _ _ _, fun n0 => absurd n0 (by simp), trivial⟩, pJ_q hJ hr hB rfl (fun _ _ => rfl) _⟩
      rw [c] at he
      have he' := Option.some.inj he
      subst he'
      simp

theorem pJ_q21 {B : Nat} {M : tvM} {s : Nat → Nat} {x n : Nat} (h : pJs B M M s x n) (hr : pJr B M M) {M' : tvM} (e1 : ∀ a k, ¬ (21 ≤ a ∧ a < 41) → M'.1 a k = M.1 a k) (e2 : ∀ a, a < 249 → a ≠ 21 → M'.2.1 a = M.2.1 a) (t : Int32) : pJ B (puN M' s t) (puN M' s t) := by
  obtain ⟨h1, h2, ⟨hx, hn, h5, h6, h7⟩, h8⟩ := h
  have o : ∀ a k, ¬ (21 ≤ a ∧ a < 41) → a ≠ 250 → ¬ (a = 249 ∧ k = 5) → (puN M' s t).1 a k = M.1 a k := fun a k q0 q1 q2 => by
    rw [← e1 a k q0]
    exact puN_o M' s t q1 q2
  refine ⟨s, x, n, ⟨fun k => puN_g _ _ _ k, ?_, ⟨hx, hn, by rw [o 61 1 (by omega) (by omega) (by omega)]; exact h5, by rw [o 61 2 (by omega) (by omega) (by omega)]; exact h6, by rw [o 249 4 (by omega) (by omega) (by omega)]; exact h7⟩, fun i hi => ?_⟩, pSav_c hr.1 (o _ _ (by omega) (by omega) (by omega)) (fun a k _ _ => o _ _ (by omega) (by omega) (by omega)) (by show M'.2.1 41 8 = _; rw [e2 41 (by omega) (by omega)]) (o _ _ (by omega) (by omega) (by omega)) (fun k => o _ _ (by omega) (by omega) (by omega)), pErr_c hr.2.1 (fun k _ _ => o _ _ (by omega) (by omega) (by omega)) (o _ _ (by omega) (by omega) (by omega)) (o _ _ (by omega) (by omega) (by omega)) (o _ _ (by omega) (by omega) (by omega)), pTxt_c hr.2.2.1 (o _ _ (by omega) (by omega) (by omega)) (fun k => o _ _ (by omega) (by omega) (by omega)) (o _ _ (by omega) (by omega) (by omega)) (fun k => o _ _ (by omega) (by omega) (by omega)), pLin_c hr.2.2.2 (o _ _ (by omega) (by omega) (by omega)) (fun k => o _ _ (by omega) (by omega) (by omega)) (o _ _ (by omega) (by omega) (by omega)) (fun k => o _ _ (by omega) (by omega) (by omega))⟩
  · have e4 : pL (puN M' s t) 1 = pL M 1 := congrFun (e2 1 (by omega) (by omega)) 8
    rw [e4]
    exact pOk_cc h2 fun p k hr => o _ _ (by unfold pRel at hr; omega) (by unfold pRel at hr; omega) (by unfold pRel at hr; omega)
  · obtain ⟨si, a, b⟩ := h8 i hi
    have l9 : (x + 9 - n + i) % 9 < 9 := Nat.mod_lt _ (by omega)
    refine ⟨si, fun k hk => by rw [o 253 _ (by omega) (by omega) (by omega)]; exact a k hk, ?_⟩
    generalize (x + 9 - n + i) % 9 = z at l9 b ⊢
    have e4 : pL (puN M' s t) (63 + 20 * z) = pL M (63 + 20 * z) := congrFun (e2 _ (by omega) (by omega)) 8
    rw [e4]
    exact pOk_cc b fun p k hr => o _ _ (by omega) (by unfold pRel at hr; omega) (by unfold pRel at hr; omega)
theorem pc_reh {B : Nat} {M : tvM} {s : Nat → Nat} (h : pOk B (pV M 1) (pL M 1) s) : ∃ c, f_X6_copyFrom M 21 1 = puC M 21 c (pL M 1) ∧ pOk B c (pL M 1) s := by
  obtain ⟨c, g, r⟩ := pc_copy M (b := 21) (b2 := 1) (by omega)
  exact ⟨c, g, pOk_cc h r⟩
theorem pc_24 {B : Nat} {M : tvM} (h : pJ B M M) (hB : B + 3840 ≤ 10000000) (a1 a2 a3 : Int32) : lq_24 M a1 a2 a3 ∧ pJ B (lm_24 M a1 a2 a3) (lm_24 M a1 a2 a3) := by
  obtain ⟨s, x, n, hJ, hr⟩ := h
  have hR := hJ.2.1
  have s10 := hR.1.2.1.2.2.2.2.2.2.2.2.1
  have hp := pPend hR M a1
  rw [pc_self hJ] at hp
  rcases hp with ⟨i, hi, ex, h2, e⟩ | ⟨i, hi, ex, h2, e⟩ | ⟨h1, e⟩
  · obtain ⟨K, hK⟩ := pOpK_ex hR (i := i) (by omega)
    subst ex
    obtain ⟨c, g, r⟩ := pc_reh hR
    obtain ⟨c', w⟩ := pWf r hB M hi h2 hK 3840 0 c (by omega) r (by have := hK.1; omega)
    obtain ⟨M1, hM1⟩ : ∃ z, z = puC M 21 c' (pL M 1) := ⟨_, rfl⟩
    rw [← hM1] at w
    have e8 : f_X8_minutesUntilOpenBySimulation M (nI i) = (none, nI K, M1) := by
      unfold f_X8_minutesUntilOpenBySimulation
      rw [e, pRef_0, if_pos rfl, g]
      unfold f_X6_waitForOpening
      rw [w]
    obtain ⟨M', hM'⟩ : ∃ z, z = tpl M1 257 0 (nI K).toInt64 := ⟨_, rfl⟩
    have o1 : ∀ a k, ¬ (21 ≤ a ∧ a < 41) → M'.1 a k = M.1 a k := fun a k q => by
      rw [hM', hM1]
      exact puC_o M 21 c' (pL M 1) (by omega) k
    have eL : f_L_minutesUntilOpenBySimulation M (nI i) = (0, M') := by
      unfold f_L_minutesUntilOpenBySimulation
      rw [e8, hM']
      rfl
    obtain ⟨q9, e9⟩ := px_untilOpen hR M' (M'.1 249 5) hi h2 hK
    rw [puN_self (M := M') (s := s) (fun k => by rw [o1 250 k (by omega)]; exact hJ.1 k) rfl] at q9 e9
    have e9' : f_X9_minutesUntilOpenBySimulation M' (nI i) = (nI K, puN M' s (nI 0)) := by
      unfold f_X9_minutesUntilOpenBySimulation
      rw [e9]
    unfold lq_24 lm_24
    rw [eL]
    dsimp only
    rw [e9']
    refine ⟨⟨⟨fun e he => ?_, trivial⟩, ⟨q9, trivial⟩, puN_t _ _ _, fun _ => ?_, trivial⟩, pJ_q21 hJ hr o1 (fun a ha q => ?_) _⟩
    · rw [e8] at he
      exact absurd he (by simp)
    · rw [show tgl (puN M' s (nI 0)) 257 0 = (nI K).toInt64 from by show M'.2.1 257 0 = _; rw [hM']; exact tpl_s _ _ _ _]
      exact lg_self _
    · rw [hM', hM1]
      exact (tpl_o _ 0 _ (by omega)).trans (tvU_ne _ _ _ q)
  · have e8 : f_X8_minutesUntilOpenBySimulation M a1 = (some "java/util/NoSuchElementException", 0, M) := by
      unfold f_X8_minutesUntilOpenBySimulation
      rw [e, pRef_5]
      simp
    have eL : f_L_minutesUntilOpenBySimulation M a1 = (2, M) := by
      unfold f_L_minutesUntilOpenBySimulation
      rw [e8]
      simp
    obtain ⟨b1, b2⟩ := (px_notPend hR M (M.1 249 5) a1).2 i hi ex h2
    obtain ⟨q9, e9⟩ := px_untilNo M (M.1 249 5) a1 2 b1 b2
    rw [puN_self hJ.1 rfl] at q9 e9
    have e9' : f_X9_minutesUntilOpenBySimulation M a1 = (nI 0, puN M s (nI 2)) := by
      unfold f_X9_minutesUntilOpenBySimulation
      rw [e9]
    unfold lq_24 lm_24
    rw [eL]
    dsimp only
    rw [e9']
    refine ⟨⟨⟨fun e he => ?_, trivial⟩, ⟨q9, trivial⟩, puN_t _ _ _, fun n0 => absurd n0 (by decide), trivial⟩, pJ_q hJ hr (by omega) rfl (fun _ _ => rfl) _⟩
    rw [e8] at he
    exact Or.inr (Option.some.inj he).symm
  · have e8 : f_X8_minutesUntilOpenBySimulation M a1 = (some "java/lang/IndexOutOfBoundsException", 0, M) := by
      unfold f_X8_minutesUntilOpenBySimulation
      rw [e, pRef_1]
      simp
    have eL : f_L_minutesUntilOpenBySimulation M a1 = (1, M) := by
      unfold f_L_minutesUntilOpenBySimulation
      rw [e8]
      simp
    obtain ⟨b1, b2⟩ := (px_notPend hR M (M.1 249 5) a1).1 h1
    obtain ⟨q9, e9⟩ := px_untilNo M (M.1 249 5) a1 1 b1 b2
    rw [puN_self hJ.1 rfl] at q9 e9
    have e9' : f_X9_minutesUntilOpenBySimulation M a1 = (nI 0, puN M s (nI 1)) := by
      unfold f_X9_minutesUntilOpenBySimulation
      rw [e9]
    unfold lq_24 lm_24
    rw [eL]
    dsimp only
    rw [e9']
    refine ⟨⟨⟨fun e he => ?_, trivial⟩, ⟨q9, trivial⟩, puN_t _ _ _, fun n0 => absurd n0 (by decide), trivial⟩, pJ_q hJ hr (by omega) rfl (fun _ _ => rfl) _⟩
    rw [e8] at he
    exact Or.inl (Option.some.inj he).symm
/-! ===== isConsistent ===== -/
theorem puC_lo (M : tvM) {b a : Nat} (c : Nat → Nat → Int32) (l : Int64) (h : a ≠ b) : (puC M b c l).2.1 a = M.2.1 a := tvU_ne _ _ _ h
theorem pn_m (n : Nat) : nI (n + 1) + (-1) = nI n := by
  have := pn_sub (a := n + 1) (b := 1) (by omega)
  rw [Nat.add_sub_cancel] at this
  rw [← this]
  exact (Int32.sub_eq_add_neg _ _).symm
theorem tvCt_off {f g : Nat → Bool} {n i : Nat} (hi : i < n) (hf : f i = true) (hg : g i = false) (h : ∀ j, j ≠ i → f j = g j) : tvCt f n = tvCt g n + 1 := by
  have e := tvCt_or (f := g) (n := n) hg
  rw [if_pos hi] at e
  rw [← e]
  refine tvCt_c fun j _ => ?_
  by_cases q : j = i
  · subst q
    rw [hf]
    simp
  · rw [h j q]
    simp [q]
section
variable {B : Nat} {c : Nat → Nat → Int32} {l : Int64} {s : Nat → Nat}
/-- still to open after k minutes, the first i boxes of minute k + 1 looked at -/
def pYf (s : Nat → Nat) (Kf : Nat → Nat) (k i : Nat) (j : Nat) : Bool := decide (s (36 + 13 * j + 3) = 2 ∧ k < Kf j ∧ (j < i → k + 1 < Kf j))
theorem pOi (hR : pOk B c l s) {Kf : Nat → Nat} (hKf : ∀ i, i < s 10 → pOpK s i (Kf i)) {k : Nat} (hk : B + (k + 1) ≤ 10000000) (M : tvM) (hM : pOk B (pV M 1) (pL M 1) s) {c2 : Nat → Nat → Int32} {l2 : Int64} (r2 : pOk (B + (k + 1)) c2 l2 (pIt s (k + 1))) : ∀ m i, i + m = s 10 → tvOi (puC M 21 c2 l2) (nI (k + 1)) m i (nI (tvCt (pYf s Kf k i) (s 10))) = some (nI (tvCt (pYf s Kf k (s 10)) (s 10))) := by
  have s10 := hR.1.2.1.2.2.2.2.2.2.2.2.1
  have hM1 : pOk B (pV (puC M 21 c2 l2) 1) (pL (puC M 21 c2 l2) 1) s := by
    have e : pL (puC M 21 c2 l2) 1 = pL M 1 := congrFun (puC_lo M c2 l2 (by omega)) 8
    rw [e]
    exact pOk_cc hM fun p z hr => puC_o M 21 _ _ (by unfold pRel at hr; omega) z
  obtain ⟨_, _, _, _, i10, _⟩ := pReh hR (k + 1) hk
  intro m
  induction m with
  | zero =>
    intro i e
    rw [show i = s 10 by omega]
    rfl
  | succ m ih =>
    intro i e
    have hi : i < s 10 := by omega
    have hj := pc_just r2 M 21 (i := i) (by omega)
    have hjj := pReh_just hR (k := k + 1) hk (by omega) hi
    have off : ∀ j, j ≠ i → pYf s Kf k i j = pYf s Kf k (i + 1) j := fun j q => by
      unfold pYf
      rw [decide_eq_decide]
      constructor
      · rintro ⟨a, b, d⟩
        exact ⟨a, b, fun z => d (by omega)⟩
      · rintro ⟨a, b, d⟩
        exact ⟨a, b, fun z => d (by omega)⟩
    show (if f_X6_hasJustOpened (puC M 21 c2 l2) 21 (nI i) = 0 then tvOi (puC M 21 c2 l2) (nI (k + 1)) m (i + 1) _ else if f_X6_searchOpening (puC M 21 c2 l2) 1 (nI i) = nI (k + 1) then tvOi (puC M 21 c2 l2) (nI (k + 1)) m (i + 1) (_ + (-1)) else none) = _
    rw [hj]
    by_cases q : s (36 + 13 * i + 3) = 2 ∧ Kf i = k + 1
    · rw [if_pos (hjj.2 ⟨q.1, by rw [← q.2]; exact hKf i hi⟩), if_neg p10]
      have es := pc_search hM1 (puC M 21 c2 l2) hi q.1 (hKf i hi)
      rw [show puC (puC M 21 c2 l2) 1 (pV (puC M 21 c2 l2) 1) (pL (puC M 21 c2 l2) 1) = puC M 21 c2 l2 from puC_self _ 1] at es
      rw [es, q.2, if_pos rfl, tvCt_off (f := pYf s Kf k i) (g := pYf s Kf k (i + 1)) hi (by unfold pYf; rw [decide_eq_true_iff]; exact ⟨q.1, by omega, fun z => absurd z (by omega)⟩) (by unfold pYf; rw [decide_eq_false_iff_not]; rintro ⟨_, _, d⟩; have := d (by omega); omega) off, pn_m]
      exact ih (i + 1) (by omega)
    · rw [if_neg (fun z => q ⟨(hjj.1 z).1, pIsK_u (hKf i hi) (hjj.1 z).2⟩), if_pos rfl]
      have : tvCt (pYf s Kf k i) (s 10) = tvCt (pYf s Kf k (i + 1)) (s 10) := tvCt_c fun j hj => by
        by_cases e2 : j = i
        · subst e2
          unfold pYf
          rw [decide_eq_decide]
          constructor
          · rintro ⟨a, b, d⟩
            exact ⟨a, b, fun _ => by
              have : Kf j ≠ k + 1 := fun z => q ⟨a, z⟩
              omega⟩
          · rintro ⟨a, b, d⟩
            exact ⟨a, b, fun z => absurd z (by omega)⟩
        · exact off j e2
      rw [this]
      exact ih (i + 1) (by omega)
theorem pOo (hR : pOk B c l s) (hB : B + 3840 ≤ 10000000) {Kf : Nat → Nat} (hKf : ∀ i, i < s 10 → pOpK s i (Kf i)) (M : tvM) (hM : pOk B (pV M 1) (pL M 1) s) : ∀ n k c, n + k = 3840 → pOk (B + k) c l (pIt s k) → ∃ c', tvOo n (k + 1) (nI (tvCt (pYf s Kf k 0) (s 10))) (puC M 21 c l) = (1, puC M 21 c' l) := by
  have s10 := hR.1.2.1.2.2.2.2.2.2.2.2.1
  intro n
  induction n with
  | zero =>
    intro k c hk r
    have : tvCt (pYf s Kf k 0) (s 10) = 0 := tvCt_0 fun j hj => by
      unfold pYf
      rw [decide_eq_false_iff_not]
      rintro ⟨_, b, _⟩
      have := (hKf j hj).2.1
      omega
    rw [tvOo_0, this]
    exact ⟨c, rfl⟩
  | succ n ih =>
    intro k c hk r
    obtain ⟨c2, g, _, r2, _, _, _, mo, _⟩ := pMinute r (by omega)
    have eN : pIt s (k + 1) = pMin (pIt s k) := rfl
    rw [← eN] at r2
    have hct := tvCt_le (pYf s Kf k 0) (s 10)
    obtain ⟨_, _, _, _, i10, _⟩ := pReh hR (k + 1) (by omega)
    obtain ⟨_, _, _, _, i10k, _⟩ := pReh hR k (by omega)
    rw [tvOo_s]
    by_cases q : tvCt (pYf s Kf k 0) (s 10) = 0
    · rw [q, if_pos (by decide)]
      exact ⟨c, rfl⟩
    · rw [if_neg (by rw [pl_0, pn_le (by omega) (by omega)]; omega), g]
      dsimp only
      have hnx : ∀ k, tvCt (pYf s Kf k (s 10)) (s 10) = tvCt (pYf s Kf (k + 1) 0) (s 10) := fun k => tvCt_c fun j hj => by
        unfold pYf
        rw [decide_eq_decide]
        constructor
        · rintro ⟨a, b, d⟩
          exact ⟨a, d hj, fun z => absurd z (by omega)⟩
        · rintro ⟨a, b, d⟩
          exact ⟨a, by omega, fun _ => b⟩
      by_cases q2 : pMO (pIt s k) = 0
      · rw [q2, if_pos (by decide)]
        have : tvCt (pYf s Kf k 0) (s 10) = tvCt (pYf s Kf (k + 1) 0) (s 10) := tvCt_c fun j hj => by
          unfold pYf
          rw [decide_eq_decide]
          constructor
          · rintro ⟨a, b, d⟩
            refine ⟨a, ?_, fun z => absurd z (by omega)⟩
            have : Kf j ≠ k + 1 := fun z => pReh_mo hR (k := k) (by omega) hj a (by rw [← z]; exact hKf j hj) q2
            omega
          · rintro ⟨a, b, d⟩
            exact ⟨a, by omega, fun z => absurd z (by omega)⟩
        rw [this]
        exact ih (k + 1) c2 (by omega) r2
      · rw [if_neg (by rw [pl_0, pn_le (by omega) (by omega)]; omega)]
        have e7 : (tgi (puC M 21 c2 l) 7 0).toNatClampNeg = s 10 := by
          have c60 := hM.2.1.2.2.2.2.2.2.2.2
          rw [show tgi (puC M 21 c2 l) 7 0 = nI (s 10) from (puC_o M 21 _ _ (by omega) 0).trans c60, pn_c (by omega)]
        have hO := pOi hR hKf (k := k) (by omega) M hM r2 (s 10) 0 (by omega)
        rw [e7, hO]
        show ∃ c', tvOo n (k + 1 + 1) (nI (tvCt (pYf s Kf k (s 10)) (s 10))) (puC M 21 c2 l) = (1, puC M 21 c' l)
        rw [hnx k]
        exact ih (k + 1) c2 (by omega) r2
theorem pc_consistent (hR : pOk B c l s) (hB : B + 3840 ≤ 10000000) (M : tvM) (hc : c = pV M 1) (hl : l = pL M 1) : ∃ c', f_X8_isConsistent M = (1, puC M 21 c' l) := by
  subst hc
  subst hl
  have s10 := hR.1.2.1.2.2.2.2.2.2.2.2.1
  have hKf : ∃ Kf : Nat → Nat, ∀ i, i < s 10 → pOpK s i (Kf i) := Classical.axiomOfChoice (r := fun i K => i < s 10 → pOpK s i K) fun i => by
    by_cases hi : i < s 10
    · obtain ⟨K, hK⟩ := pOpK_ex hR (i := i) (by omega)
      exact ⟨K, fun _ => hK⟩
    · exact ⟨0, fun h => absurd h hi⟩
  obtain ⟨Kf, hKf⟩ := hKf
  obtain ⟨c, g, r⟩ := pc_reh hR
  obtain ⟨c', w⟩ := pOo r hB hKf M hR 3840 0 c (by omega) r
  have ey : f_X0_countIn (puC M 21 c (pL M 1)) 1 112 = nI (tvCt (pYf s Kf 0 0) (s 10)) := by
    unfold f_X0_countIn
    have hM1 : pOk B (pV (puC M 21 c (pL M 1)) 1) (pL (puC M 21 c (pL M 1)) 1) s := by
      have e : pL (puC M 21 c (pL M 1)) 1 = pL M 1 := congrFun (puC_lo M c (pL M 1) (by omega)) 8
      rw [e]
      exact pOk_cc hR fun p z hr => puC_o M 21 _ _ (by unfold pRel at hr; omega) z
    have c60 := hM1.2.1.2.2.2.2.2.2.2.2
    rw [show tgi (puC M 21 c (pL M 1)) (1 + 6) 0 = nI (s 10) from c60, pn_c (by omega)]
    congr 1
    refine tvCt_c fun i hi => ?_
    have := pc_status (puC M 21 c (pL M 1)) 1 (pL (puC M 21 c (pL M 1)) 1) c60 s10 hi
    rw [show puC (puC M 21 c (pL M 1)) 1 (pV (puC M 21 c (pL M 1)) 1) (pL (puC M 21 c (pL M 1)) 1) = puC M 21 c (pL M 1) from puC_self _ 1] at this
    rw [this, (hM1.2.2.2.1 i hi).2.2.2.1, pSt_tnc]
    unfold pYf
    rw [decide_eq_decide]
    have h3 := (hR.1.2.2.2.1 i (by omega)).2.1
    rw [(pSt_eq _ h3).2.2.1]
    exact ⟨fun e => ⟨e, (hKf i hi).1, fun z => absurd z (by omega)⟩, fun e => e.1⟩
  have eO : f_X8_doOpeningsAgree M = (1, puC M 21 c' (pL M 1)) := by
    unfold f_X8_doOpeningsAgree
    rw [g, ey]
    exact w
  obtain ⟨M1, hM1⟩ : ∃ z, z = puC M 21 c' (pL M 1) := ⟨_, rfl⟩
  have hR1 : pOk B (pV M1 1) (pL M1 1) s := by
    rw [hM1]
    have e : pL (puC M 21 c' (pL M 1)) 1 = pL M 1 := congrFun (puC_lo M c' (pL M 1) (by omega)) 8
    rw [e]
    exact pOk_cc hR fun p z hr => puC_o M 21 _ _ (by unfold pRel at hr; omega) z
  have eS : puC M1 1 (pV M1 1) (pL M1 1) = M1 := puC_self M1 1
  rw [← hM1] at eO
  have eA : f_X6_doLowMinutesAgree M1 1 = 1 := by
    unfold f_X6_doLowMinutesAgree
    rw [if_neg]
    intro q
    have h2 := fa_first_yes _ _ q
    generalize fa_first (tvAg M1 1) 21 = z at q h2
    unfold tvAg at h2
    have f1 := pc_lowF hR1 M1 (n := 50 * z) (by omega)
    have f2 := pc_lowC hR1 M1 (n := 50 * z) (by omega)
    rw [eS] at f1 f2
    rw [f1, f2] at h2
    simp at h2
  have eT : f_X0_sumOfAll M1 1 = lN (pSu s) := by
    have := pc_sumAll hR1 M1 1
    rwa [eS] at this
  have eG : tgl M1 1 8 = lN (pSu s) := by
    have e1 : tgl M1 1 8 = lN (s 6 - s 7) := hR1.2.1.2.2.2.2.1
    have e2 := hR1.1.2.2.2.2.2
    rw [e1, show s 6 - s 7 = pSu s by omega]
  refine ⟨c', ?_⟩
  unfold f_X8_isConsistent
  rw [eO]
  dsimp only
  rw [if_neg p10, eA, if_neg p10, eT, eG, lg_self, if_pos rfl, hM1]
end
theorem pc_36 {B : Nat} {M : tvM} (h : pJ B M M) (hB : B + 3840 ≤ 10000000) (a1 a2 a3 : Int32) : lq_36 M a1 a2 a3 ∧ pJ B (lm_36 M a1 a2 a3) (lm_36 M a1 a2 a3) := by
  obtain ⟨s, x, n, hJ, hr⟩ := h
  have hR := hJ.2.1
  obtain ⟨c', e8⟩ := pc_consistent hR hB M rfl rfl
  obtain ⟨M1, hM1⟩ : ∃ z, z = puC M 21 c' (pL M 1) := ⟨_, rfl⟩
  rw [← hM1] at e8
  have o1 : ∀ a k, ¬ (21 ≤ a ∧ a < 41) → M1.1 a k = M.1 a k := fun a k q => by
    rw [hM1]
    exact puC_o M 21 c' (pL M 1) (by omega) k
  have hs : ∀ k, M1.1 250 k = nI (s k) := fun k => by rw [o1 250 k (by omega)]; exact hJ.1 k
  obtain ⟨t1, t2⟩ := px_total hR M1 (M1.1 249 5)
  have t3 := px_ledger hR M1 (nI 0)
  rw [puN_self hs rfl] at t1 t2
  have e9 : f_X9_isConsistent M1 = (1, puN M1 s (nI 0)) := by
    unfold f_X9_isConsistent
    rw [t2]
    dsimp only
    rw [t3]
    dsimp only
    rw [lg_self, if_pos rfl]
  have q9 : q_X9_isConsistent M1 := ⟨t1, fun _ => trivial, fun _ => trivial⟩
  unfold lq_36 lm_36
  rw [e8]
  dsimp only
  rw [e9]
  refine ⟨⟨q9, rfl, trivial⟩, pJ_q21 hJ hr o1 (fun a ha q => ?_) _⟩
  rw [hM1]
  exact tvU_ne _ _ _ q

