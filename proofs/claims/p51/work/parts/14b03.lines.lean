def tvOi (M : tvM) (y2 : Int32) : Nat → Nat → Int32 → Option Int32
  | 0, _, y1 => some y1
  | n + 1, i, y1 => if f_X6_hasJustOpened M 21 (nI i) = 0 then tvOi M y2 n (i + 1) y1 else if f_X6_searchOpening M 1 (nI i) = y2 then tvOi M y2 n (i + 1) (y1 + (-1)) else none
theorem tvOi_run : ∀ n i y1 k (M : tvM) (r : Int32 × tvM), i + n = (tgi M 7 0).toNatClampNeg → (∀ z, tvOi M (nI k) n i y1 = some z → ∃ m, tvIter s_X8_doOpeningsAgree m (.inl (0, z, nI (k + 1), 0, M)) = some r) → (tvOi M (nI k) n i y1 = none → r = (0, M)) → ∃ m, tvIter s_X8_doOpeningsAgree m (.inl (1, y1, nI k, nI i, M)) = some r := by
  intro n
  induction n with
  | zero =>
    intro i y1 k M r hi h1 h2
    have h : tgi M (1 + 6) 0 ≤ nI i := by rw [show i = (tgi M 7 0).toNatClampNeg by omega]; exact tv_le
    refine tvIter_1 ?_ (h1 y1 rfl)
    simp only [s_X8_doOpeningsAgree, sb_X8_doOpeningsAgree, if_neg (show ¬ (1 : Nat) = 0 by decide), if_pos h, nI_1]
  | succ n ih =>
    intro i y1 k M r hi h1 h2
    have h : ¬ tgi M (1 + 6) 0 ≤ nI i := tv_nle (show i < (tgi M 7 0).toNatClampNeg by omega)
    by_cases h3 : f_X6_hasJustOpened M 21 (nI i) = 0
    · rw [tvOi, if_pos h3] at h1 h2
      refine tvIter_1 ?_ (ih (i + 1) y1 k M r (by omega) h1 h2)
      simp only [s_X8_doOpeningsAgree, sb_X8_doOpeningsAgree, if_neg (show ¬ (1 : Nat) = 0 by decide), if_neg h, if_pos h3, nI_1]
    · by_cases h4 : f_X6_searchOpening M 1 (nI i) = nI k
      · rw [tvOi, if_neg h3, if_pos h4] at h1 h2
        refine tvIter_1 ?_ (ih (i + 1) (y1 + (-1)) k M r (by omega) h1 h2)
        simp only [s_X8_doOpeningsAgree, sb_X8_doOpeningsAgree, if_neg (show ¬ (1 : Nat) = 0 by decide), if_neg h, if_neg h3, if_pos h4, nI_1]
      · rw [tvOi, if_neg h3, if_neg h4] at h2
        refine tvIter_e ?_
        rw [h2 rfl]
        simp only [s_X8_doOpeningsAgree, sb_X8_doOpeningsAgree, if_neg (show ¬ (1 : Nat) = 0 by decide), if_neg h, if_neg h3, if_neg h4]
def tvO1 (y1 : Int32) : Int32 := if y1 = 0 then 1 else 0
def tvOo : Nat → Nat → Int32 → tvM → Int32 × tvM
  | 0, _, y1, M => (tvO1 y1, M)
  | n + 1, k, y1, M => if y1 ≤ 0 then (tvO1 y1, M) else if (f_X6_minute M 21).1 ≤ 0 then tvOo n (k + 1) y1 (f_X6_minute M 21).2 else (tvOi (f_X6_minute M 21).2 (nI k) (tgi (f_X6_minute M 21).2 7 0).toNatClampNeg 0 y1).elim (0, (f_X6_minute M 21).2) (fun z => tvOo n (k + 1) z (f_X6_minute M 21).2)
theorem tvOo_0 (k : Nat) (y1 : Int32) (M : tvM) : tvOo 0 k y1 M = (tvO1 y1, M) := rfl
theorem tvOo_s (n k : Nat) (y1 : Int32) (M : tvM) : tvOo (n + 1) k y1 M = if y1 ≤ 0 then (tvO1 y1, M) else if (f_X6_minute M 21).1 ≤ 0 then tvOo n (k + 1) y1 (f_X6_minute M 21).2 else (tvOi (f_X6_minute M 21).2 (nI k) (tgi (f_X6_minute M 21).2 7 0).toNatClampNeg 0 y1).elim (0, (f_X6_minute M 21).2) (fun z => tvOo n (k + 1) z (f_X6_minute M 21).2) := rfl
def f_X8_doOpeningsAgree (M : tvM) : Int32 × tvM := tvOo 3840 1 (f_X0_countIn (f_X6_copyFrom M 21 1) 1 112) (f_X6_copyFrom M 21 1)
theorem r_X8_doOpeningsAgree (M : tvM) : ∃ n, tvIter (s_X8_doOpeningsAgree) n (e_X8_doOpeningsAgree M) = some (f_X8_doOpeningsAgree M) := by
  have key : ∀ n k y1 (M : tvM), k + n = 3841 → ∃ m, tvIter s_X8_doOpeningsAgree m (.inl (0, y1, nI k, 0, M)) = some (tvOo n k y1 M) := by
    intro n
    induction n with
    | zero =>
      intro k y1 M hk
      have h : (3840 : Int32) < nI k := nI_lt (a := 3840) (by omega) (by omega)
      rw [tvOo_0]
      refine tvIter_e ?_
      simp only [s_X8_doOpeningsAgree, sb_X8_doOpeningsAgree, if_true, if_pos h, tvO1]
      split <;> split <;> rfl
    | succ n ih =>
      intro k y1 M hk
      have h : ¬ (3840 : Int32) < nI k := nI_nlt (a := 3840) (by omega) (by omega)
      rw [tvOo_s]
      by_cases h0 : y1 ≤ 0
      · rw [if_pos h0]
        refine tvIter_e ?_
        simp only [s_X8_doOpeningsAgree, sb_X8_doOpeningsAgree, if_true, if_pos h0, tvO1]
        split <;> rfl
      · rw [if_neg h0]
        by_cases h1 : (f_X6_minute M 21).1 ≤ 0
        · rw [if_pos h1]
          refine tvIter_1 ?_ (ih (k + 1) y1 _ (by omega))
          simp only [s_X8_doOpeningsAgree, sb_X8_doOpeningsAgree, if_true, if_neg h0, if_neg h, if_pos h1, nI_1]
        · rw [if_neg h1]
          refine tvIter_1 (s' := (1, y1, nI k, nI 0, (f_X6_minute M 21).2)) ?_ (tvOi_run (tgi (f_X6_minute M 21).2 7 0).toNatClampNeg 0 y1 k _ _ (by omega) (fun z hz => ?_) (fun hz => ?_))
          · simp only [s_X8_doOpeningsAgree, sb_X8_doOpeningsAgree, if_true, if_neg h0, if_neg h, if_neg h1]
            rfl
          · rw [hz]
            exact ih (k + 1) z _ (by omega)
          · simp only [hz, Option.elim]
  exact key 3840 1 _ _ (by omega)
theorem n_X8_doOpeningsAgree (G : tvG) (M : tvM) : tvRun G yX8_doOpeningsAgree cX8_doOpeningsAgree 4 (some .boolean) 5 0 0 tvP0 tvP0 [.ref (G.2.1 + 0)] M (.inl (some (.int (f_X8_doOpeningsAgree M).1))) ((f_X8_doOpeningsAgree M).2) := by
  obtain ⟨n, hn⟩ := r_X8_doOpeningsAgree M 
  exact m_X8_doOpeningsAgree G M n _ hn
theorem tvZ0' : narrow .boolean (.int 0) = .int 0 := rfl
theorem tvO1_z (y : Int32) : narrow .boolean (.int (tvO1 y)) = .int (tvO1 y) := by unfold tvO1; split <;> rfl
theorem tvOo_z : ∀ n k y1 M, narrow .boolean (.int (tvOo n k y1 M).1) = .int (tvOo n k y1 M).1 := by
  intro n
  induction n with
  | zero => intro k y1 M; exact tvO1_z _
  | succ n ih =>
    intro k y1 M
    rw [tvOo_s]
    split
    · exact tvO1_z _
    · split
      · exact ih _ _ _
      · cases tvOi (f_X6_minute M 21).2 (nI k) (tgi (f_X6_minute M 21).2 7 0).toNatClampNeg 0 y1 with
        | none => exact tvZ0'
        | some z => exact ih _ _ _
theorem fz_X8_doOpeningsAgree {M : tvM} : narrow .boolean (.int (f_X8_doOpeningsAgree M).1) = .int (f_X8_doOpeningsAgree M).1 := tvOo_z _ _ _ _
