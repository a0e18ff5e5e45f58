theorem fx_ch (x : Int32) : ∃ ch : Nat, ch < 65536 ∧ (x.toUInt32 % 65536).toInt32 = nI ch := by
  refine ⟨(x.toUInt32 % 65536).toNat, ?_, ?_⟩
  · rw [UInt32.toNat_mod]
    exact Nat.mod_lt _ (by decide)
  · exact congrArg Int32.ofUInt32 (UInt32.ofNat_toNat (x := x.toUInt32 % 65536)).symm
theorem px_isIx' (M : tvM) {x : Int32} {n : Nat} (hn : n < 2147483648) : f_X9_isIn M x 0 (nI n - 1) = if ∃ i, i < n ∧ x = nI i then nI 1 else nI 0 := by
  by_cases hx : x < 0
  · rw [if_neg]
    · exact px_inN (lo := 0) M hx (by omega)
    · rintro ⟨i, hi, rfl⟩
      exact pn_neg (by omega) hx
  · obtain ⟨j, hj, rfl⟩ := pn_nneg hx
    by_cases hn0 : n = 0
    · subst hn0
      rw [if_neg (by rintro ⟨i, hi, -⟩; omega)]
      unfold f_X9_isIn
      rw [if_neg (by rw [pl_0, pn_lt (by omega) (by omega)]; omega), if_pos]
      · rfl
      · have : nI 0 - 1 < 0 := by decide
        rw [Int32.lt_iff_toInt_lt] at this ⊢
        rw [nI_toInt hj]
        have : (0 : Int32).toInt = 0 := by decide
        omega
    · rw [pl_1, pn_sub (by omega), pl_0]
      by_cases h : j < n
      · rw [if_pos ⟨j, h, rfl⟩]
        exact px_in1 M (by omega) (by omega) (by omega)
      · rw [if_neg]
        · exact px_in0 M (Or.inr (by omega)) (by omega) (by omega) (by omega)
        · rintro ⟨i, hi, q⟩
          rw [pn_eq (by omega) (by omega)] at q
          omega
theorem tpi_puN {M : tvM} {s : Nat → Nat} (h : ∀ k, M.1 250 k = nI (s k)) (t : Int32) : tpi M 249 5 t = puN M s t := by
  have e := puN_pt M s (M.1 249 5) t
  rw [puN_self h rfl] at e
  exact e
theorem pJs_c {B : Nat} {M M' M1 M1' : tvM} {s : Nat → Nat} {x n : Nat} (h : pJs B M M' s x n) (e : ∀ a k, 1 ≤ a → a < 243 → M1.1 a k = M.1 a k) (l : ∀ a, a < 243 → M1.2.1 a = M.2.1 a) (m0 : ∀ k, M1'.1 250 k = M'.1 250 k) (m3 : ∀ k, M1'.1 253 k = M'.1 253 k) (m4 : M1'.1 249 4 = M'.1 249 4) : pJs B M1 M1' s x n := by
  obtain ⟨h1, h2, ⟨hx, hn, h5, h6, h7⟩, h8⟩ := h
  refine ⟨fun k => by rw [m0]; exact h1 k, ?_, ⟨hx, hn, by rw [e 61 1 (by omega) (by omega)]; exact h5, by rw [e 61 2 (by omega) (by omega)]; exact h6, by rw [m4]; exact h7⟩, fun i hi => ?_⟩
  · have e4 : pL M1 1 = pL M 1 := congrFun (l 1 (by omega)) 8
    rw [e4]
    exact pOk_cc h2 fun p k hr => e _ _ (by omega) (by unfold pRel at hr; omega)
  · obtain ⟨si, a, b⟩ := h8 i hi
    have l9 : (x + 9 - n + i) % 9 < 9 := Nat.mod_lt _ (by omega)
    refine ⟨si, fun k hk => by rw [m3]; exact a k hk, ?_⟩
    generalize (x + 9 - n + i) % 9 = z at l9 b ⊢
    have e4 : pL M1 (63 + 20 * z) = pL M (63 + 20 * z) := congrFun (l _ (by omega)) 8
    rw [e4]
    exact pOk_cc b fun p k hr => e _ _ (by omega) (by unfold pRel at hr; omega)
theorem pSav_c {B : Nat} {M M' M1 M1' : tvM} (h : pSav B M M') (e6 : M1.1 0 6 = M.1 0 6) (e : ∀ a k, 41 ≤ a → a < 61 → M1.1 a k = M.1 a k) (l : M1.2.1 41 8 = M.2.1 41 8) (m9 : M1'.1 249 9 = M'.1 249 9) (m2 : ∀ k, M1'.1 252 k = M'.1 252 k) : pSav B M1 M1' := by
  unfold pSav at h ⊢
  rw [e6, m9]
  rcases h with h | ⟨a, b, sv, c, d⟩
  · exact Or.inl h
  · refine Or.inr ⟨a, b, sv, fun k hk => by rw [m2]; exact c k hk, ?_⟩
    have e4 : pL M1 41 = pL M 41 := l
    rw [e4]
    exact pOk_cc d fun p k hr => e _ _ (by omega) (by unfold pRel at hr; omega)
theorem pErr_c {M M' M1 M1' : tvM} (h : pErr M M') (e : ∀ k, 7 ≤ k → k ≤ 9 → M1.1 0 k = M.1 0 k) (m6 : M1'.1 249 6 = M'.1 249 6) (m7 : M1'.1 249 7 = M'.1 249 7) (m10 : M1'.1 249 10 = M'.1 249 10) : pErr M1 M1' := by
  unfold pErr at h ⊢
  rw [e 7 (by omega) (by omega), e 8 (by omega) (by omega), e 9 (by omega) (by omega), m6, m7, m10]
  exact h
theorem pTxt_c {M M' M1 M1' : tvM} (h : pTxt M M') (e : M1.1 243 1 = M.1 243 1) (e2 : ∀ k, M1.1 244 k = M.1 244 k) (m : M1'.1 249 15 = M'.1 249 15) (m2 : ∀ k, M1'.1 255 k = M'.1 255 k) : pTxt M1 M1' := by
  obtain ⟨n, h1, h2, h3, h4⟩ := h
  refine ⟨n, h1, e.trans h2, m.trans h3, fun k hk => ?_⟩
  obtain ⟨ch, a, b, c⟩ := h4 k hk
  exact ⟨ch, a, (e2 k).trans b, (m2 k).trans c⟩
theorem pLin_c {M M' M1 M1' : tvM} (h : pLin M M') (e : M1.1 247 1 = M.1 247 1) (e2 : ∀ k, M1.1 248 k = M.1 248 k) (m : M1'.1 249 12 = M'.1 249 12) (m2 : ∀ k, M1'.1 254 k = M'.1 254 k) : pLin M1 M1' := by
  obtain ⟨n, h1, h2, h3, h4⟩ := h
  refine ⟨n, h1, e.trans h2, m.trans h3, fun k hk => ?_⟩
  obtain ⟨ch, a, b, c⟩ := h4 k hk
  exact ⟨ch, a, (e2 k).trans b, (m2 k).trans c⟩
/-- a question as the law asks it -/
def pAs (M : tvM) (s : Nat → Nat) (cf : Option String × Int32 × tvM) (mf : tvM → Int32 × tvM) (mq : tvM → Prop) (ex : List (String × Nat)) : Prop :=
  (∃ v : Int32, cf = (none, v, M) ∧ ∀ M' : tvM, M'.1 = M.1 → mq M' ∧ mf M' = (v, puN M' s (nI 0))) ∨ (∃ p ∈ ex, cf = (some p.1, 0, M) ∧ ∀ M' : tvM, M'.1 = M.1 → mq M' ∧ mf M' = (nI 0, puN M' s (nI p.2)))
theorem pAs_charAt {B : Nat} {M : tvM} {s : Nat → Nat} {x n : Nat} (h : pJs B M M s x n) (hr : pJr B M M) (x1 : Int32) : pAs M s (f_X8_charAt M x1) (fun m => f_X9_charAt m x1) (fun m => q_X9_charAt m x1) [("java/lang/IndexOutOfBoundsException", 1)] := by
  obtain ⟨len, l1, l2, l3, l4⟩ := hr.2.2.2
  have m3 : ∀ M' : tvM, M'.1 = M.1 → tgi M' 249 12 = nI len := fun M' e => by show M'.1 249 12 = _; rw [e]; exact l3
  by_cases q : ∃ i, i < len ∧ x1 = nI i
  · obtain ⟨i, hi, rfl⟩ := q
    obtain ⟨ch, c1, c2, c3⟩ := l4 i hi
    refine Or.inl ⟨nI ch, ?_, fun M' e => ?_⟩
    · unfold f_X8_charAt f_X3_at
      rw [if_neg (pn_neg (by omega)), if_pos (show nI i < tgi M 247 1 from by rw [show tgi M 247 1 = nI len from l2, pn_lt (by omega) (by omega)]; exact hi), if_neg (pn_neg (by omega)), pl_36, if_neg (by rw [pn_le (by omega) (by omega)]; omega), pn_c (by omega), show tgi M 248 i = nI ch from c2, pc_tnc ch c1]
    · have g : f_X9_isIn M' (nI i) 0 (tgi M' 249 12 - 1) = nI 1 := by
        rw [m3 M' e, px_isIx' M' (by omega), if_pos ⟨i, hi, rfl⟩]
      refine ⟨⟨fun _ => trivial, fun _ => ⟨vp_in_nI (by omega) (by omega), trivial⟩⟩, ?_⟩
      show f_X9_charAt M' (nI i) = _
      unfold f_X9_charAt
      rw [g, if_neg (by decide), px_thr, pn_c (by omega), show tgi (tpi M' 249 5 0) 254 i = nI ch from (tpi_o M' 0 i (by omega)).trans (by rw [e]; exact c3), pc_chr ch c1, tpi_puN (M := M') (s := s) (fun k => by rw [e]; exact h.1 k)]
      rfl
  · refine Or.inr ⟨_, List.mem_singleton.2 rfl, ?_, fun M' e => ?_⟩
    · unfold f_X8_charAt
      rw [show tgi M 247 1 = nI len from l2]
      rcases pn_ix0 (by omega) q with q1 | ⟨q1, q2, _⟩
      · rw [if_pos q1]
      · rw [if_neg q1, if_neg q2]
    · have g : f_X9_isIn M' x1 0 (tgi M' 249 12 - 1) = nI 0 := by
        rw [m3 M' e, px_isIx' M' (by omega), if_neg q]
      refine ⟨⟨fun _ => trivial, fun hn => absurd (by rw [g]; rfl) hn⟩, ?_⟩
      show f_X9_charAt M' x1 = _
      unfold f_X9_charAt
      rw [g, if_pos (show nI 0 = 0 from rfl), px_thrn, tpi_puN (M := M') (s := s) (fun k => by rw [e]; exact h.1 k)]
      rfl
theorem pn_m1 : ¬ (0 : Int32) ≤ -1 := by decide
theorem pAs_errorPosition {B : Nat} {M : tvM} {s : Nat → Nat} {x n : Nat} (h : pJs B M M s x n) (hr : pJr B M M) : pAs M s (f_X8_errorPosition M) (fun m => f_X9_errorPosition m) (fun _ => True) [("java/util/NoSuchElementException", 1)] := by
  obtain ⟨⟨e1, e2⟩, _⟩ := hr.2.1
  have m6 : ∀ M' : tvM, M'.1 = M.1 → tgi M' 249 6 = M.1 0 7 := fun M' e => by show M'.1 249 6 = _; rw [e]; exact e1.symm
  rcases e2 with e2 | ⟨e, he, e2⟩
  · refine Or.inr ⟨_, List.mem_singleton.2 rfl, ?_, fun M' e => ⟨trivial, ?_⟩⟩
    · unfold f_X8_errorPosition
      rw [if_pos (show tgi M 0 7 = -1 from e2)]
    · show f_X9_errorPosition M' = _
      unfold f_X9_errorPosition
      rw [m6 M' e, e2, if_neg pn_m1, px_thrn, tpi_puN (M := M') (s := s) (fun k => by rw [e]; exact h.1 k)]
      rfl
  · have hne : ¬ nI e = -1 := fun q => by
      have := congrArg Int32.toInt q
      rw [nI_toInt (by omega), show (-1 : Int32).toInt = -1 from by decide] at this
      omega
    refine Or.inl ⟨nI e, ?_, fun M' em => ⟨trivial, ?_⟩⟩
    · unfold f_X8_errorPosition
      rw [show tgi M 0 7 = nI e from e2, if_neg hne]
    · show f_X9_errorPosition M' = _
      unfold f_X9_errorPosition
      rw [m6 M' em, e2, if_pos (by rw [pl_0, pn_le (by omega) (by omega)]; omega), px_thr, show tgi (tpi M' 249 5 0) 249 6 = nI e from (tpi_k M' 249 0 (by omega)).trans ((m6 M' em).trans e2), tpi_puN (M := M') (s := s) (fun k => by rw [em]; exact h.1 k)]
      rfl
theorem pAs_failedCommand {B : Nat} {M : tvM} {s : Nat → Nat} {x n : Nat} (h : pJs B M M s x n) (hr : pJr B M M) : pAs M s (f_X8_failedCommand M) (fun m => f_X9_failedCommand m) (fun _ => True) [("java/util/NoSuchElementException", 1)] := by
  obtain ⟨_, ⟨e1, e2⟩, _⟩ := hr.2.1
  have m6 : ∀ M' : tvM, M'.1 = M.1 → tgi M' 249 7 = M.1 0 8 := fun M' e => by show M'.1 249 7 = _; rw [e]; exact e1.symm
  rcases e2 with e2 | ⟨e, he, e2⟩
  · refine Or.inr ⟨_, List.mem_singleton.2 rfl, ?_, fun M' e => ⟨trivial, ?_⟩⟩
    · unfold f_X8_failedCommand f_X8_refusalWithoutFailure
      rw [if_pos (show tgi M 0 8 = -1 from e2), pRef_5]
      simp
    · show f_X9_failedCommand M' = _
      unfold f_X9_failedCommand
      rw [m6 M' e, e2, if_neg pn_m1, px_thrn, tpi_puN (M := M') (s := s) (fun k => by rw [e]; exact h.1 k)]
      rfl
  · have hne : ¬ nI e = -1 := fun q => by
      have := congrArg Int32.toInt q
      rw [nI_toInt (by omega), show (-1 : Int32).toInt = -1 from by decide] at this
      omega
    refine Or.inl ⟨nI e, ?_, fun M' em => ⟨trivial, ?_⟩⟩
    · unfold f_X8_failedCommand f_X8_refusalWithoutFailure
      rw [show tgi M 0 8 = nI e from e2, if_neg hne, pRef_0, if_pos rfl]
    · show f_X9_failedCommand M' = _
      unfold f_X9_failedCommand
      rw [m6 M' em, e2, if_pos (by rw [pl_0, pn_le (by omega) (by omega)]; omega), px_thr, show tgi (tpi M' 249 5 0) 249 7 = nI e from (tpi_k M' 249 0 (by omega)).trans ((m6 M' em).trans e2), tpi_puN (M := M') (s := s) (fun k => by rw [em]; exact h.1 k)]
      rfl

theorem pc_39 {B : Nat} {M : tvM} (h : pJ B M M) (hB : B ≤ 10000000) (a1 a2 a3 : Int32) : lq_39 M a1 a2 a3 ∧ pJ B (lm_39 M a1 a2 a3) (lm_39 M a1 a2 a3) := by
  obtain ⟨s, x, n, hJ, hr⟩ := h
  rcases pAs_charAt hJ hr a1 with ⟨v, c, d⟩ | ⟨p, hp, c, d⟩
  · have eL : f_L_charAt M a1 = (0, tpl M 257 0 v.toInt64) := by
      unfold f_L_charAt
      rw [c]
      rfl
    obtain ⟨q, e⟩ := d (tpl M 257 0 v.toInt64) rfl
    have e9 : f_X9_charAt (tpl M 257 0 v.toInt64) a1 = (v, puN (tpl M 257 0 v.toInt64) s (nI 0)) := e
    unfold lq_39 lm_39
    rw [eL]
    dsimp only
    rw [e9]
    refine ⟨⟨⟨fun e he => ?_, trivial⟩, q, puN_t _ _ _, fun _ => ?_, trivial⟩, pJ_q hJ hr hB (M' := tpl M 257 0 v.toInt64) rfl (fun a ha => tpl_o M 0 _ (by omega)) _⟩
    · rw [c] at he
      exact absurd he (by simp)
    · rw [show tgl (puN (tpl M 257 0 v.toInt64) s (nI 0)) 257 0 = v.toInt64 from tpl_s _ _ _ _]
      exact lg_self _
  · obtain ⟨q, e⟩ := d M rfl
    have e9 : f_X9_charAt M a1 = (nI 0, puN M s (nI p.2)) := e
    simp only [List.mem_cons, List.not_mem_nil, or_false] at hp
    subst hp
    have eL : f_L_charAt M a1 = (1, M) := by
      unfold f_L_charAt
      rw [c]
      simp
    unfold lq_39 lm_39
    rw [eL]
    dsimp only
    rw [e9]
    refine ⟨⟨⟨fun e he => ?_, trivial⟩, q, puN_t _ _ _, fun n0 => absurd n0 (by simp), trivial⟩, pJ_q hJ hr hB rfl (fun _ _ => rfl) _⟩
    rw [c] at he
    exact (Option.some.inj he).symm
theorem pc_42 {B : Nat} {M : tvM} (h : pJ B M M) (hB : B ≤ 10000000) (a1 a2 a3 : Int32) : lq_42 M a1 a2 a3 ∧ pJ B (lm_42 M a1 a2 a3) (lm_42 M a1 a2 a3) := by
  obtain ⟨s, x, n, hJ, hr⟩ := h
  rcases pAs_errorPosition hJ hr  with ⟨v, c, d⟩ | ⟨p, hp, c, d⟩
  · have eL : f_L_errorPosition M  = (0, tpl M 257 0 v.toInt64) := by
      unfold f_L_errorPosition
      rw [c]
      rfl
    obtain ⟨q, e⟩ := d (tpl M 257 0 v.toInt64) rfl
    have e9 : f_X9_errorPosition (tpl M 257 0 v.toInt64)  = (v, puN (tpl M 257 0 v.toInt64) s (nI 0)) := e
    unfold lq_42 lm_42
    rw [eL]
    dsimp only
    rw [e9]
    refine ⟨⟨⟨fun e he => ?_, trivial⟩, puN_t _ _ _, fun _ => ?_, trivial⟩, pJ_q hJ hr hB (M' := tpl M 257 0 v.toInt64) rfl (fun a ha => tpl_o M 0 _ (by omega)) _⟩
    · rw [c] at he
      exact absurd he (by simp)
    · rw [show tgl (puN (tpl M 257 0 v.toInt64) s (nI 0)) 257 0 = v.toInt64 from tpl_s _ _ _ _]
      exact lg_self _
  · obtain ⟨q, e⟩ := d M rfl
    have e9 : f_X9_errorPosition M  = (nI 0, puN M s (nI p.2)) := e
    simp only [List.mem_cons, List.not_mem_nil, or_false] at hp
    subst hp
    have eL : f_L_errorPosition M  = (1, M) := by
      unfold f_L_errorPosition
      rw [c]
      simp
    unfold lq_42 lm_42
    rw [eL]
    dsimp only
    rw [e9]
    refine ⟨⟨⟨fun e he => ?_, trivial⟩, puN_t _ _ _, fun n0 => absurd n0 (by simp), trivial⟩, pJ_q hJ hr hB rfl (fun _ _ => rfl) _⟩
    rw [c] at he
    exact (Option.some.inj he).symm
theorem pc_43 {B : Nat} {M : tvM} (h : pJ B M M) (hB : B ≤ 10000000) (a1 a2 a3 : Int32) : lq_43 M a1 a2 a3 ∧ pJ B (lm_43 M a1 a2 a3) (lm_43 M a1 a2 a3) := by
  obtain ⟨s, x, n, hJ, hr⟩ := h
  rcases pAs_failedCommand hJ hr  with ⟨v, c, d⟩ | ⟨p, hp, c, d⟩
  · have eL : f_L_failedCommand M  = (0, tpl M 257 0 v.toInt64) := by
      unfold f_L_failedCommand
      rw [c]
      rfl
    obtain ⟨q, e⟩ := d (tpl M 257 0 v.toInt64) rfl
    have e9 : f_X9_failedCommand (tpl M 257 0 v.toInt64)  = (v, puN (tpl M 257 0 v.toInt64) s (nI 0)) := e
    unfold lq_43 lm_43
    rw [eL]
    dsimp only
    rw [e9]
    refine ⟨⟨⟨fun e he => ?_, trivial⟩, puN_t _ _ _, fun _ => ?_, trivial⟩, pJ_q hJ hr hB (M' := tpl M 257 0 v.toInt64) rfl (fun a ha => tpl_o M 0 _ (by omega)) _⟩
    · rw [c] at he
      exact absurd he (by simp)
    · rw [show tgl (puN (tpl M 257 0 v.toInt64) s (nI 0)) 257 0 = v.toInt64 from tpl_s _ _ _ _]
      exact lg_self _
  · obtain ⟨q, e⟩ := d M rfl
    have e9 : f_X9_failedCommand M  = (nI 0, puN M s (nI p.2)) := e
    simp only [List.mem_cons, List.not_mem_nil, or_false] at hp
    subst hp
    have eL : f_L_failedCommand M  = (1, M) := by
      unfold f_L_failedCommand
      rw [c]
      simp
    unfold lq_43 lm_43
    rw [eL]
    dsimp only
    rw [e9]
    refine ⟨⟨⟨fun e he => ?_, trivial⟩, puN_t _ _ _, fun n0 => absurd n0 (by simp), trivial⟩, pJ_q hJ hr hB rfl (fun _ _ => rfl) _⟩
    rw [c] at he
    exact (Option.some.inj he).symm
theorem pc_44 {B : Nat} {M : tvM} (h : pJ B M M) (hB : B ≤ 10000000) (a1 a2 a3 : Int32) : lq_44 M a1 a2 a3 ∧ pJ B (lm_44 M a1 a2 a3) (lm_44 M a1 a2 a3) := by
  obtain ⟨s, x, n, hJ, hr⟩ := h
  obtain ⟨_, ⟨e1, e2⟩, e3, e4⟩ := hr.2.1
  have m7 : ∀ M' : tvM, M'.1 = M.1 → tgi M' 249 7 = M.1 0 8 := fun M' e => by show M'.1 249 7 = _; rw [e]; exact e1.symm
  have hnar : narrow .boolean (.int (tgi M 0 9)) = .int (tgi M 0 9) := by
    rcases e4 with e4 | e4
    · rw [show tgi M 0 9 = 0 from e4]; rfl
    · rw [show tgi M 0 9 = 1 from e4]; rfl
  rcases e2 with e2 | ⟨e, he, e2⟩
  · have e8 : f_X8_wasWrongCode M = (some "java/util/NoSuchElementException", 0, M) := by
      unfold f_X8_wasWrongCode f_X8_refusalWithoutFailure
      rw [if_pos (show tgi M 0 8 = -1 from e2), pRef_5]
      simp
    have eL : f_L_wasWrongCode M = (1, M) := by
      unfold f_L_wasWrongCode
      rw [e8]
      rfl
    have e9 : f_X9_wasWrongCode M = (0, puN M s (nI 1)) := by
      unfold f_X9_wasWrongCode
      rw [m7 M rfl, e2, if_neg pn_m1, px_thrn, tpi_puN (M := M) (s := s) hJ.1]
      rfl
    unfold lq_44 lm_44
    rw [eL]
    dsimp only
    rw [e9]
    refine ⟨⟨⟨fun e he => ?_, hnar, trivial⟩, puN_t _ _ _, fun n0 => absurd n0 (by decide), fun n0 => absurd n0 (by decide), trivial⟩, pJ_q hJ hr hB rfl (fun _ _ => rfl) _⟩
    rw [e8] at he
    exact (Option.some.inj he).symm
  · have hne : ¬ nI e = -1 := fun q => by
      have := congrArg Int32.toInt q
      rw [nI_toInt (by omega), show (-1 : Int32).toInt = -1 from by decide] at this
      omega
    have e8 : f_X8_wasWrongCode M = (none, tgi M 0 9, M) := by
      unfold f_X8_wasWrongCode f_X8_refusalWithoutFailure
      rw [show tgi M 0 8 = nI e from e2, if_neg hne, pRef_0, if_pos rfl]
    obtain ⟨M', hM'⟩ : ∃ z, z = tpl M 257 0 (if tgi M 0 9 = 0 then 0 else 1) := ⟨_, rfl⟩
    have m1 : M'.1 = M.1 := by rw [hM']; rfl
    have eL : f_L_wasWrongCode M = (0, M') := by
      unfold f_L_wasWrongCode
      rw [e8, hM']
      rfl
    have e9 : f_X9_wasWrongCode M' = (tgi M 0 9, puN M' s (nI 0)) := by
      unfold f_X9_wasWrongCode
      rw [m7 M' m1, e2, if_pos (by rw [pl_0, pn_le (by omega) (by omega)]; omega), px_thr, show tgi (tpi M' 249 5 0) 249 10 = tgi M 0 9 from (tpi_k M' 249 0 (by omega)).trans (by rw [m1]; exact e3.symm), tpi_puN (M := M') (s := s) (fun k => by rw [m1]; exact hJ.1 k)]
      rcases e4 with e4 | e4
      · rw [show tgi M 0 9 = 0 from e4, if_pos rfl]
        rfl
      · rw [show tgi M 0 9 = 1 from e4, if_neg p10]
        rfl
    unfold lq_44 lm_44
    rw [eL]
    dsimp only
    rw [e9]
    have et : tgl (puN M' s (nI 0)) 257 0 = (if tgi M 0 9 = 0 then 0 else 1) := by
      show M'.2.1 257 0 = _
      rw [hM']
      exact tpl_s _ _ _ _
    refine ⟨⟨⟨fun e he => ?_, hnar, trivial⟩, puN_t _ _ _, fun _ h0 => ?_, fun _ h0 => ?_, trivial⟩, pJ_q hJ hr hB m1 (fun a ha => by rw [hM']; exact tpl_o M 0 _ (by omega)) _⟩
    · rw [e8] at he
      exact absurd he (by simp)
    · rw [et, if_pos h0]
      exact lg_self _
    · rw [et, if_neg h0]
      exact lg_self _
theorem pc_40 {B : Nat} {M : tvM} (h : pJ B M M) (hB : B ≤ 10000000) (a1 a2 a3 : Int32) : lq_40 M a1 a2 a3 ∧ pJ B (lm_40 M a1 a2 a3) (lm_40 M a1 a2 a3) := by
  obtain ⟨s, x, n, hJ, hr⟩ := h
  obtain ⟨len, l1, l2, l3, l4⟩ := hr.2.2.1
  obtain ⟨ch, hc, hce⟩ : ∃ ch : Nat, ch < 65536 ∧ (a1.toUInt32 % 65536).toInt32 = nI ch := fx_ch a1
  unfold lq_40 lm_40
  rw [hce]
  by_cases q : len = 60
  · subst q
    have e8 : f_X8_type M (nI ch) = (some "java/lang/IllegalStateException", 0, M) := by
      unfold f_X8_type f_X5_isFull
      rw [show tgi M 243 1 = nI 60 from l2, if_neg (show ¬ nI 60 < 60 by decide), if_neg p10]
    have eL : f_L_type M (nI ch) = (1, M) := by
      unfold f_L_type
      rw [e8]
      rfl
    have e9 : f_X9_type M (nI ch) = (0, puN M s (nI 1)) := by
      unfold f_X9_type
      rw [if_pos (show tgi M 249 15 = 60 from l3), px_thrn, tpi_puN (M := M) (s := s) hJ.1]
      rfl
    rw [eL]
    dsimp only
    rw [e9]
    refine ⟨⟨⟨fun e he => ?_, trivial⟩, ⟨fun _ => trivial, fun hn => absurd l3 hn⟩, puN_t _ _ _, fun n0 => absurd n0 (by decide), trivial⟩, pJ_q hJ hr hB rfl (fun _ _ => rfl) _⟩
    rw [e8] at he
    exact (Option.some.inj he).symm
  · obtain ⟨M1, hM1⟩ : ∃ z, z = tpi (tpi M 244 len (nI ch)) 243 1 (nI (len + 1)) := ⟨_, rfl⟩
    have e8 : f_X8_type M (nI ch) = (none, nI (len + 1), M1) := by
      unfold f_X8_type f_X5_isFull
      rw [show tgi M 243 1 = nI len from l2, if_pos (show nI len < 60 by rw [pl_60, pn_lt (by omega) (by omega)]; omega), if_pos rfl]
      unfold f_X5_append
      rw [show tgi M 243 1 = nI len from l2, if_neg (pn_neg (by omega)), if_neg (show ¬ 60 ≤ nI len by rw [pl_60, pn_le (by omega) (by omega)]; omega), pn_c (by omega), show tgi (tpi M 244 len (nI ch)) 243 1 = nI len from (tpi_o M _ 1 (by omega)).trans l2, nI_1, show tgi (tpi (tpi M 244 len (nI ch)) 243 1 (nI (len + 1))) 243 1 = nI (len + 1) from tpi_s _ _ _ _, ← hM1]
    obtain ⟨M', hM'⟩ : ∃ z, z = tpl M1 257 0 (nI (len + 1)).toInt64 := ⟨_, rfl⟩
    have m1 : M'.1 = M1.1 := by rw [hM']; rfl
    have eL : f_L_type M (nI ch) = (0, M') := by
      unfold f_L_type
      rw [e8, hM']
      rfl
    have o1 : ∀ a k, a ≠ 243 → a ≠ 244 → M1.1 a k = M.1 a k := fun a k q1 q2 => by
      rw [hM1]
      exact (tpi_o _ _ k q1).trans (tpi_o _ _ k q2)
    have m15 : tgi M' 249 15 = nI len := by show M'.1 249 15 = _; rw [m1, o1 249 15 (by omega) (by omega)]; exact l3
    have m15' : tgi (tpi M' 249 5 0) 249 15 = nI len := (tpi_k M' 249 0 (by omega)).trans m15
    obtain ⟨M2, hM2⟩ : ∃ z, z = tpi (tpi (tpi M' 249 5 0) 255 len (nI ch)) 249 15 (nI (len + 1)) := ⟨_, rfl⟩
    have e9 : f_X9_type M' (nI ch) = (nI (len + 1), M2) := by
      unfold f_X9_type
      rw [m15, if_neg (show ¬ nI len = 60 by rw [pl_60, pn_eq (by omega) (by omega)]; exact q), px_thr, m15', pn_c (by omega), show tgi (tpi (tpi M' 249 5 0) 255 len (nI ch)) 249 15 = nI len from (tpi_o _ _ 15 (by omega)).trans m15', nI_1, show tgi (tpi (tpi (tpi M' 249 5 0) 255 len (nI ch)) 249 15 (nI (len + 1))) 249 15 = nI (len + 1) from tpi_s _ _ _ _, ← hM2]
    have q9 : q_X9_type M' (nI ch) := ⟨fun _ => trivial, fun _ => ⟨by rw [px_thr, m15']; exact vp_in_nI (by omega) (by omega), trivial⟩⟩
    have o2 : ∀ a k, a ≠ 255 → a ≠ 249 → M2.1 a k = M'.1 a k := fun a k q1 q2 => by
      rw [hM2]
      exact (tpi_o _ _ k q2).trans ((tpi_o _ _ k q1).trans (tpi_o _ _ k q2))
    have o9 : ∀ k, k ≠ 5 → k ≠ 15 → M2.1 249 k = M'.1 249 k := fun k q1 q2 => by
      rw [hM2]
      exact (tpi_k _ _ _ q2).trans ((tpi_o _ _ k (by omega)).trans (tpi_k _ _ _ q1))
    have p2 : M2.2 = M'.2 := by rw [hM2]; rfl
    have c1 : ∀ a k, a ≠ 243 → a ≠ 244 → a ≠ 249 → a ≠ 255 → M2.1 a k = M.1 a k := fun a k q1 q2 q3 q4 => by
      rw [o2 a k q4 q3, m1, o1 a k q1 q2]
    have c9 : ∀ k, k ≠ 5 → k ≠ 15 → M2.1 249 k = M.1 249 k := fun k q1 q2 => by
      rw [o9 k q1 q2, m1, o1 249 k (by omega) (by omega)]
    have cl : ∀ a, a < 249 → M2.2.1 a = M.2.1 a := fun a ha => by
      rw [p2, hM']
      refine (tpl_o M1 0 _ (by omega)).trans ?_
      rw [hM1]
      rfl
    have hj : pJ B M2 M2 := by
      refine ⟨s, x, n, pJs_c hJ (fun a k q1 q2 => c1 a k (by omega) (by omega) (by omega) (by omega)) (fun a q1 => cl a (by omega)) (fun k => c1 _ _ (by omega) (by omega) (by omega) (by omega)) (fun k => c1 _ _ (by omega) (by omega) (by omega) (by omega)) (c9 4 (by omega) (by omega)), pSav_c hr.1 (c1 _ _ (by omega) (by omega) (by omega) (by omega)) (fun a k _ _ => c1 _ _ (by omega) (by omega) (by omega) (by omega)) (by rw [cl 41 (by omega)]) (c9 9 (by omega) (by omega)) (fun k => c1 _ _ (by omega) (by omega) (by omega) (by omega)), pErr_c hr.2.1 (fun k _ _ => c1 _ _ (by omega) (by omega) (by omega) (by omega)) (c9 6 (by omega) (by omega)) (c9 7 (by omega) (by omega)) (c9 10 (by omega) (by omega)), ?_, pLin_c hr.2.2.2 (c1 _ _ (by omega) (by omega) (by omega) (by omega)) (fun k => c1 _ _ (by omega) (by omega) (by omega) (by omega)) (c9 12 (by omega) (by omega)) (fun k => c1 _ _ (by omega) (by omega) (by omega) (by omega))⟩
      refine ⟨len + 1, by omega, ?_, ?_, fun k hk => ?_⟩
      · rw [o2 243 1 (by omega) (by omega), m1, hM1]
        exact tpi_s _ _ _ _
      · rw [hM2]
        exact tpi_s _ _ _ _
      · by_cases qk : k = len
        · subst qk
          refine ⟨ch, hc, ?_, ?_⟩
          · rw [o2 244 k (by omega) (by omega), m1, hM1]
            exact (tpi_o _ _ k (by omega)).trans (tpi_s _ _ _ _)
          · rw [hM2]
            exact (tpi_o _ _ k (by omega)).trans (tpi_s _ _ _ _)
        · obtain ⟨c, d1, d2, d3⟩ := l4 k (by omega)
          refine ⟨c, d1, ?_, ?_⟩
          · rw [o2 244 k (by omega) (by omega), m1, hM1]
            exact (tpi_o _ _ k (by omega)).trans ((tpi_k _ _ _ qk).trans d2)
          · rw [hM2]
            refine (tpi_o _ _ k (by omega)).trans ((tpi_k _ _ _ qk).trans ((tpi_o _ _ k (by omega)).trans ?_))
            rw [m1, o1 255 k (by omega) (by omega)]
            exact d3
    rw [eL]
    dsimp only
    rw [e9]
    refine ⟨⟨⟨fun e he => ?_, trivial⟩, q9, ?_, fun _ => ?_, trivial⟩, hj⟩
    · rw [e8] at he
      exact absurd he (by simp)
    · show M2.1 249 5 = 0
      rw [hM2]
      exact (tpi_k _ _ _ (by omega)).trans ((tpi_o _ _ 5 (by omega)).trans (tpi_s _ _ _ _))
    · rw [show tgl M2 257 0 = (nI (len + 1)).toInt64 from by show M2.2.1 257 0 = _; rw [p2, hM']; exact tpl_s _ _ _ _]
      exact lg_self _

