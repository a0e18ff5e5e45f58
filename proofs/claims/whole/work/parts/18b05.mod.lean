/-- TideVaultModel.meanValue()D -/
def sb_X9_meanValue (y1 : Int32) (y2 : Int32) (y3 : Int32) (M : tvM) : (Int32 × Int32 × Int32 × tvM) ⊕ (UInt64 × tvM) := (if (tgi M 250 10) ≤ y3 then (if y1 = 0 then .inr (FP.dconst0, (f_X9_isThrown M 1 1).2) else .inr ((FP.ddiv (FP.i2d y2) (FP.i2d y1)), (f_X9_isThrown M 0 1).2)) else .inl ((y1 + (f_X9_of M y3 7)), (y2 + (f_X9_worth M y3)), (y3 + 1), M))
def s_X9_meanValue : (Int32 × Int32 × Int32 × tvM) → (Int32 × Int32 × Int32 × tvM) ⊕ (UInt64 × tvM) := fun q => sb_X9_meanValue q.1 q.2.1 q.2.2.1 q.2.2.2
def e_X9_meanValue (M : tvM) : (Int32 × Int32 × Int32 × tvM) ⊕ (UInt64 × tvM) := .inl (0, 0, 0, M)
def qb_X9_meanValue (y1 : Int32) (y2 : Int32) (y3 : Int32) (M : tvM) : Prop := (((tgi M 250 10) ≤ y3 → ((y1 = 0 → True) ∧ (¬ y1 = 0 → (vf_n64 (FP.ddiv (FP.i2d y2) (FP.i2d y1)) ∧ True)))) ∧ (¬ (tgi M 250 10) ≤ y3 → ((q_X9_of M y3 7) ∧ ((q_X9_worth M y3) ∧ True))))
def qs_X9_meanValue : (Int32 × Int32 × Int32 × tvM) → Prop := fun q => qb_X9_meanValue q.1 q.2.1 q.2.2.1 q.2.2.2
def qe_X9_meanValue (M : tvM) : Prop := True
theorem m_X9_meanValue (G : tvG) (M : tvM) (n : Nat) (r : (UInt64 × tvM)) (hs : tvIter (s_X9_meanValue) n (e_X9_meanValue M) = some r) (hq : qe_X9_meanValue M) (hqn : tvQ (s_X9_meanValue) (qs_X9_meanValue) n (e_X9_meanValue M)) : tvRun G yX9_meanValue cX9_meanValue 4 (some .double) 3 0 0 tvP0 tvP0 [.ref (G.2.1 + 249)] M (.inl (some (.double r.1))) r.2 := by
  refine tvRun.of yk_X9_meanValue rfl [some (.ref (G.2.1 + 249)), none, none, none] rfl (Nat.le_of_ble_eq_true rfl) ?_
  intro E hG C hQ; subst hG
  have K : ∀ (n : Nat) (y1 : Int32) (y2 : Int32) (y3 : Int32) (M : tvM), tvQ (s_X9_meanValue) (qs_X9_meanValue) n (.inl (y1, y2, y3, M)) → tvIter (s_X9_meanValue) n (.inl (y1, y2, y3, M)) = some r → tv_W E tvP0 0 0 M 6 [some (.ref (E.G.2.1 + 249)), some (.int y1), some (.int y2), some (.int y3)] [] := by
    intro n
    induction n with
    | zero => intro y1 y2 y3 M hqq hz; exact (tvIter_0 hz).elim
    | succ n ih =>
      intro y1 y2 y3 M hqq hz
      have hs : tvIter (s_X9_meanValue) n (sb_X9_meanValue y1 y2 y3 M) = some r := by have h9 := tvIter_go hz; exact h9
      have hqn : tvQ (s_X9_meanValue) (qs_X9_meanValue) n (sb_X9_meanValue y1 y2 y3 M) := by have h9 := (tvQ_go hqq).2; exact h9
      have hq : qb_X9_meanValue y1 y2 y3 M := by have h9 := (tvQ_go hqq).1; exact h9
      refine tv_iload_n C dk_X9_meanValue_6 rfl ?_
      refine tv_aload_n C dk_X9_meanValue_7 rfl ?_
      refine tv_getR (r := 250) C dk_X9_meanValue_8 fl_RX9_9 (Nat.le_of_ble_eq_true rfl) rfl rfl (fun _ _ _ _ => rfl) ?_
      refine tv_bipush (v := 10) C dk_X9_meanValue_11 (by decide) ?_
      refine tv_iald (j := 10) rfl C dk_X9_meanValue_13 (Nat.le_of_ble_eq_true rfl) rfl (vp_in_nI (n := 10) (by decide) (by decide)) ?_
      refine tv_icmp_ge C dk_X9_meanValue_14 (fun h101 => ?_) (fun h101 => ?_)
      · have q1 := hq.1 h101
        refine tv_aload_n C dk_X9_meanValue_41 rfl ?_
        refine tv_iload_n C dk_X9_meanValue_42 rfl ?_
        refine tv_if_ne C dk_X9_meanValue_43 (fun h102 => ?_) (fun h102 => ?_)
        · have q2 := q1.2 h102
          refine tv_iconst (v := 0) C dk_X9_meanValue_50 (by decide) ?_
          refine tv_iconst (v := 1) C dk_X9_meanValue_51 (by decide) ?_
          refine tv_cV1 C dk_X9_meanValue_52 ml_RX9_62 yk_X9_isThrown yi_X9_isThrown (m_X9_isThrown _ M 0 1 (tv_qt0 _ _)) (Nat.le_of_ble_eq_true rfl) rfl rfl rfl rfl (Nat.le_of_ble_eq_true rfl) (Nat.le_of_ble_eq_true rfl) (Nat.le_of_ble_eq_true rfl) (Nat.le_of_ble_eq_true rfl) (Nat.le_of_ble_eq_true rfl) ?_
          refine tv_ti (v := 0) rfl ?_
          refine tv_if_eq C dk_X9_meanValue_55 (fun _ => ?_) (fun h => absurd h (by decide))
          refine tv_iload_n C dk_X9_meanValue_62 rfl ?_
          refine tv_i2d C dk_X9_meanValue_63 ?_
          refine tv_iload_n C dk_X9_meanValue_64 rfl ?_
          refine tv_i2d C dk_X9_meanValue_65 ?_
          have q3 := q2.2
          refine tv_ddiv C dk_X9_meanValue_66 q2.1 ?_
          exact tv_dret C hQ dk_X9_meanValue_67 (by rw [sb_X9_meanValue, if_pos h101, if_neg h102] at hs; rw [← tvIter_out hs]) (by rw [sb_X9_meanValue, if_pos h101, if_neg h102] at hs; rw [← tvIter_out hs])
        have q4 := q1.1 h102
        refine tv_iconst (v := 1) C dk_X9_meanValue_46 (by decide) ?_
        refine tv_goto C dk_X9_meanValue_47 ?_
        refine tv_iconst (v := 1) C dk_X9_meanValue_51 (by decide) ?_
        refine tv_cV1 C dk_X9_meanValue_52 ml_RX9_62 yk_X9_isThrown yi_X9_isThrown (m_X9_isThrown _ M 1 1 (tv_qt1 _ _)) (Nat.le_of_ble_eq_true rfl) rfl rfl rfl rfl (Nat.le_of_ble_eq_true rfl) (Nat.le_of_ble_eq_true rfl) (Nat.le_of_ble_eq_true rfl) (Nat.le_of_ble_eq_true rfl) (Nat.le_of_ble_eq_true rfl) ?_
        refine tv_ti (v := 1) rfl ?_
        refine tv_if_eq C dk_X9_meanValue_55 (fun h => absurd h (by decide)) (fun _ => ?_)
        refine tv_dconst0 C dk_X9_meanValue_58 ?_
        refine tv_goto C dk_X9_meanValue_59 ?_
        exact tv_dret C hQ dk_X9_meanValue_67 (by rw [sb_X9_meanValue, if_pos h101, if_pos h102] at hs; rw [← tvIter_out hs]) (by rw [sb_X9_meanValue, if_pos h101, if_pos h102] at hs; rw [← tvIter_out hs])
      have q5 := hq.2 h101
      refine tv_iload_n C dk_X9_meanValue_17 rfl ?_
      refine tv_aload_n C dk_X9_meanValue_18 rfl ?_
      refine tv_iload_n C dk_X9_meanValue_19 rfl ?_
      refine tv_bipush (v := 7) C dk_X9_meanValue_20 (by decide) ?_
      have q6 := q5.2
      refine tv_cV1 C dk_X9_meanValue_22 ml_RX9_55 yk_X9_of yi_X9_of (m_X9_of _ M y3 7 q5.1) (Nat.le_of_ble_eq_true rfl) rfl rfl rfl rfl (Nat.le_of_ble_eq_true rfl) (Nat.le_of_ble_eq_true rfl) (Nat.le_of_ble_eq_true rfl) (Nat.le_of_ble_eq_true rfl) (Nat.le_of_ble_eq_true rfl) ?_
      refine tv_iadd C dk_X9_meanValue_25 ?_
      refine tv_istore_n (L' := [_, _, _, _]) (hn := by decide) (hlt := (Nat.le_of_ble_eq_true rfl)) (hno := rfl) C dk_X9_meanValue_26 rfl ?_
      refine tv_iload_n C dk_X9_meanValue_27 rfl ?_
      refine tv_aload_n C dk_X9_meanValue_28 rfl ?_
      refine tv_iload_n C dk_X9_meanValue_29 rfl ?_
      have q7 := q6.2
      refine tv_cV1 C dk_X9_meanValue_30 ml_RX9_174 yk_X9_worth yi_X9_worth (n_X9_worth _ M y3 q6.1) (Nat.le_of_ble_eq_true rfl) rfl rfl rfl rfl (Nat.le_of_ble_eq_true rfl) (Nat.le_of_ble_eq_true rfl) (Nat.le_of_ble_eq_true rfl) (Nat.le_of_ble_eq_true rfl) (Nat.le_of_ble_eq_true rfl) ?_
      refine tv_iadd C dk_X9_meanValue_33 ?_
      refine tv_istore_n (L' := [_, _, _, _]) (hn := by decide) (hlt := (Nat.le_of_ble_eq_true rfl)) (hno := rfl) C dk_X9_meanValue_34 rfl ?_
      refine tv_iinc (v := (y3 + 1)) (L' := [_, _, _, _]) (hn := by decide) (hlt := (Nat.le_of_ble_eq_true rfl)) (hno := rfl) C dk_X9_meanValue_35 rfl rfl rfl ?_
      refine tv_goto C dk_X9_meanValue_38 ?_
      exact (ih (y1 + (f_X9_of M y3 7)) (y2 + (f_X9_worth M y3)) (y3 + 1) M (by rw [sb_X9_meanValue, if_neg h101] at hqn; exact hqn) (by rw [sb_X9_meanValue, if_neg h101] at hs; exact hs))
  refine tv_iconst (v := 0) C dk_X9_meanValue_0 (by decide) ?_
  refine tv_istore_n (L' := [_, _, _, _]) (hn := by decide) (hlt := (Nat.le_of_ble_eq_true rfl)) (hno := rfl) C dk_X9_meanValue_1 rfl ?_
  refine tv_iconst (v := 0) C dk_X9_meanValue_2 (by decide) ?_
  refine tv_istore_n (L' := [_, _, _, _]) (hn := by decide) (hlt := (Nat.le_of_ble_eq_true rfl)) (hno := rfl) C dk_X9_meanValue_3 rfl ?_
  refine tv_iconst (v := 0) C dk_X9_meanValue_4 (by decide) ?_
  refine tv_istore_n (L' := [_, _, _, _]) (hn := by decide) (hlt := (Nat.le_of_ble_eq_true rfl)) (hno := rfl) C dk_X9_meanValue_5 rfl ?_
  exact (K n 0 0 0 M (by rw [e_X9_meanValue] at hqn; exact hqn) (by rw [e_X9_meanValue] at hs; exact hs))
def f_X9_meanValue (M : tvM) : (UInt64 × tvM) := (tvIter (s_X9_meanValue) 5000 (e_X9_meanValue M)).getD (0, M)
def q_X9_meanValue (M : tvM) : Prop := qe_X9_meanValue M ∧ (∃ r, tvIter (s_X9_meanValue) 5000 (e_X9_meanValue M) = some r) ∧ tvQ (s_X9_meanValue) (qs_X9_meanValue) 5000 (e_X9_meanValue M)
theorem n_X9_meanValue (G : tvG) (M : tvM) (hq : q_X9_meanValue M) : tvRun G yX9_meanValue cX9_meanValue 4 (some .double) 3 0 0 tvP0 tvP0 [.ref (G.2.1 + 249)] M (.inl (some (.double (f_X9_meanValue M).1))) ((f_X9_meanValue M).2) := by
  obtain ⟨h1, ⟨r, h2⟩, h3⟩ := hq
  have h4 : f_X9_meanValue M = r := by show (tvIter _ _ _).getD _ = _; rw [h2]; rfl
  rw [h4]
  exact m_X9_meanValue G M _ r h2 h1 h3
/-- TideVaultModel.isConsistent()Z -/
def f_X9_isConsistent (M : tvM) : Int32 × tvM := (if (lg_cmp ((f_X9_totalValue M).1) ((f_X9_totalValueByLedger ((f_X9_totalValue M).2)).1)) = 0 then (1, (f_X9_totalValueByLedger ((f_X9_totalValue M).2)).2) else (0, (f_X9_totalValueByLedger ((f_X9_totalValue M).2)).2))
def q_X9_isConsistent (M : tvM) : Prop := ((q_X9_totalValue M) ∧ (((lg_cmp ((f_X9_totalValue M).1) ((f_X9_totalValueByLedger ((f_X9_totalValue M).2)).1)) = 0 → True) ∧ (¬ (lg_cmp ((f_X9_totalValue M).1) ((f_X9_totalValueByLedger ((f_X9_totalValue M).2)).1)) = 0 → True)))
theorem m_X9_isConsistent (G : tvG) (M : tvM) (hq : q_X9_isConsistent M) : tvRun G yX9_isConsistent cX9_isConsistent 1 (some .boolean) 4 0 0 tvP0 tvP0 [.ref (G.2.1 + 249)] M (.inl (some (.int (f_X9_isConsistent M).1))) ((f_X9_isConsistent M).2) := by
  refine tvRun.of yk_X9_isConsistent rfl [some (.ref (G.2.1 + 249))] rfl (Nat.le_of_ble_eq_true rfl) ?_
  intro E hG C hQ; subst hG
  refine tv_aload_n C dk_X9_isConsistent_0 rfl ?_
  have q1 := hq.2
  refine tv_cV1 C dk_X9_isConsistent_1 ml_RX9_180 yk_X9_totalValue yi_X9_totalValue (n_X9_totalValue _ M hq.1) (Nat.le_of_ble_eq_true rfl) rfl rfl rfl rfl (Nat.le_of_ble_eq_true rfl) (Nat.le_of_ble_eq_true rfl) (Nat.le_of_ble_eq_true rfl) (Nat.le_of_ble_eq_true rfl) (Nat.le_of_ble_eq_true rfl) ?_
  refine tv_aload_n C dk_X9_isConsistent_4 rfl ?_
  refine tv_cV1 C dk_X9_isConsistent_5 ml_RX9_184 yk_X9_totalValueByLedger yi_X9_totalValueByLedger (m_X9_totalValueByLedger _ ((f_X9_totalValue M).2)) (Nat.le_of_ble_eq_true rfl) rfl rfl rfl rfl (Nat.le_of_ble_eq_true rfl) (Nat.le_of_ble_eq_true rfl) (Nat.le_of_ble_eq_true rfl) (Nat.le_of_ble_eq_true rfl) (Nat.le_of_ble_eq_true rfl) ?_
  refine tv_lcmp C dk_X9_isConsistent_8 ?_
  refine tv_if_ne C dk_X9_isConsistent_9 (fun h1 => ?_) (fun h1 => ?_)
  · have q2 := q1.2 h1
    refine tv_iconst (v := 0) C dk_X9_isConsistent_16 (by decide) ?_
    exact tv_iret C hQ dk_X9_isConsistent_17 rfl (by rw [f_X9_isConsistent, if_neg h1]) (by rw [f_X9_isConsistent, if_neg h1])
  have q3 := q1.1 h1
  refine tv_iconst (v := 1) C dk_X9_isConsistent_12 (by decide) ?_
  refine tv_goto C dk_X9_isConsistent_13 ?_
  exact tv_iret C hQ dk_X9_isConsistent_17 rfl (by rw [f_X9_isConsistent, if_pos h1]) (by rw [f_X9_isConsistent, if_pos h1])
theorem fz_X9_isConsistent {M : tvM} : narrow .boolean (.int (f_X9_isConsistent M).1) = .int ((f_X9_isConsistent M).1) := by
  unfold f_X9_isConsistent; repeat' split
  all_goals try dsimp only
  all_goals first | rfl
/-- TideVaultModel.isNumber(II)Z -/
def sb_X9_isNumber (x1 : Int32) (x2 : Int32) (y3 : Int32) (y4 : Int32) (M : tvM) : (Int32 × Int32 × tvM) ⊕ (Int32 × tvM) := (if x1 ≤ y4 then (if y4 ≤ 0 then .inr (0, (tpi M 256 x2.toNatClampNeg y3)) else .inr (1, (tpi M 256 x2.toNatClampNeg y3))) else (if (f_X9_isIn M (f_X9_now M) 48 57) = 0 then (if y4 ≤ 0 then .inr (0, (tpi M 256 x2.toNatClampNeg y3)) else .inr (1, (tpi M 256 x2.toNatClampNeg y3))) else .inl ((((10 * y3) + (f_X9_now M)) - 48), (y4 + 1), (tpi M 249 16 ((tgi M 249 16) + 1)))))
def s_X9_isNumber (x1 : Int32) (x2 : Int32) : (Int32 × Int32 × tvM) → (Int32 × Int32 × tvM) ⊕ (Int32 × tvM) := fun q => sb_X9_isNumber x1 x2 q.1 q.2.1 q.2.2
def e_X9_isNumber (M : tvM) (x1 : Int32) (x2 : Int32) : (Int32 × Int32 × tvM) ⊕ (Int32 × tvM) := .inl (0, 0, M)
def qb_X9_isNumber (x1 : Int32) (x2 : Int32) (y3 : Int32) (y4 : Int32) (M : tvM) : Prop := ((x1 ≤ y4 → (vp_in x2 124 ∧ ((y4 ≤ 0 → True) ∧ (¬ y4 ≤ 0 → True)))) ∧ (¬ x1 ≤ y4 → ((q_X9_now M) ∧ (((f_X9_isIn M (f_X9_now M) 48 57) = 0 → (vp_in x2 124 ∧ ((y4 ≤ 0 → True) ∧ (¬ y4 ≤ 0 → True)))) ∧ (¬ (f_X9_isIn M (f_X9_now M) 48 57) = 0 → ((q_X9_now M) ∧ True))))))
def qs_X9_isNumber (x1 : Int32) (x2 : Int32) : (Int32 × Int32 × tvM) → Prop := fun q => qb_X9_isNumber x1 x2 q.1 q.2.1 q.2.2
def qe_X9_isNumber (M : tvM) (x1 : Int32) (x2 : Int32) : Prop := True
theorem m_X9_isNumber (G : tvG) (M : tvM) (x1 : Int32) (x2 : Int32) (n : Nat) (r : (Int32 × tvM)) (hs : tvIter (s_X9_isNumber x1 x2) n (e_X9_isNumber M x1 x2) = some r) (hq : qe_X9_isNumber M x1 x2) (hqn : tvQ (s_X9_isNumber x1 x2) (qs_X9_isNumber x1 x2) n (e_X9_isNumber M x1 x2)) : tvRun G yX9_isNumber cX9_isNumber 5 (some .boolean) 2 0 0 tvP0 tvP0 [.ref (G.2.1 + 249), .int x1, .int x2] M (.inl (some (.int r.1))) r.2 := by
  refine tvRun.of yk_X9_isNumber rfl [some (.ref (G.2.1 + 249)), some (.int x1), some (.int x2), none, none] rfl (Nat.le_of_ble_eq_true rfl) ?_
  intro E hG C hQ; subst hG
  have K : ∀ (n : Nat) (y3 : Int32) (y4 : Int32) (M : tvM), tvQ (s_X9_isNumber x1 x2) (qs_X9_isNumber x1 x2) n (.inl (y3, y4, M)) → tvIter (s_X9_isNumber x1 x2) n (.inl (y3, y4, M)) = some r → tv_W E tvP0 0 0 M 5 [some (.ref (E.G.2.1 + 249)), some (.int x1), some (.int x2), some (.int y3), some (.int y4)] [] := by
    intro n
    induction n with
    | zero => intro y3 y4 M hqq hz; exact (tvIter_0 hz).elim
    | succ n ih =>
      intro y3 y4 M hqq hz
      have hs : tvIter (s_X9_isNumber x1 x2) n (sb_X9_isNumber x1 x2 y3 y4 M) = some r := by have h9 := tvIter_go hz; exact h9
      have hqn : tvQ (s_X9_isNumber x1 x2) (qs_X9_isNumber x1 x2) n (sb_X9_isNumber x1 x2 y3 y4 M) := by have h9 := (tvQ_go hqq).2; exact h9
      have hq : qb_X9_isNumber x1 x2 y3 y4 M := by have h9 := (tvQ_go hqq).1; exact h9
      refine tv_iload C dk_X9_isNumber_5 rfl ?_
      refine tv_iload_n C dk_X9_isNumber_7 rfl ?_
      refine tv_icmp_ge C dk_X9_isNumber_8 (fun h101 => ?_) (fun h101 => ?_)
      · have q1 := hq.1 h101
        refine tv_aload_n C dk_X9_isNumber_54 rfl ?_
        refine tv_getR (r := 256) C dk_X9_isNumber_55 fl_RX9_35 (Nat.le_of_ble_eq_true rfl) rfl rfl (fun _ _ _ _ => rfl) ?_
        refine tv_iload_n C dk_X9_isNumber_58 rfl ?_
        refine tv_iload_n C dk_X9_isNumber_59 rfl ?_
        have q2 := q1.2
        refine tv_iast (j := x2.toNatClampNeg) rfl C tvP0_ex dk_X9_isNumber_60 (Nat.le_of_ble_eq_true rfl) rfl q1.1 ?_
        refine tv_iload C dk_X9_isNumber_61 rfl ?_
        refine tv_if_le C dk_X9_isNumber_63 (fun h102 => ?_) (fun h102 => ?_)
        · have q3 := q2.1 h102
          refine tv_iconst (v := 0) C dk_X9_isNumber_70 (by decide) ?_
          exact tv_iret C hQ dk_X9_isNumber_71 rfl (by rw [sb_X9_isNumber, if_pos h101, if_pos h102] at hs; rw [← tvIter_out hs]) (by rw [sb_X9_isNumber, if_pos h101, if_pos h102] at hs; rw [← tvIter_out hs])
        have q4 := q2.2 h102
        refine tv_iconst (v := 1) C dk_X9_isNumber_66 (by decide) ?_
        refine tv_goto C dk_X9_isNumber_67 ?_
        exact tv_iret C hQ dk_X9_isNumber_71 rfl (by rw [sb_X9_isNumber, if_pos h101, if_neg h102] at hs; rw [← tvIter_out hs]) (by rw [sb_X9_isNumber, if_pos h101, if_neg h102] at hs; rw [← tvIter_out hs])
      have q5 := hq.2 h101
      refine tv_aload_n C dk_X9_isNumber_11 rfl ?_
      have q6 := q5.2
      refine tv_cV1 C dk_X9_isNumber_12 ml_RX9_202 yk_X9_now yi_X9_now (m_X9_now _ M q5.1) (Nat.le_of_ble_eq_true rfl) rfl rfl rfl rfl (Nat.le_of_ble_eq_true rfl) (Nat.le_of_ble_eq_true rfl) (Nat.le_of_ble_eq_true rfl) (Nat.le_of_ble_eq_true rfl) (Nat.le_of_ble_eq_true rfl) ?_
      refine tv_bipush (v := 48) C dk_X9_isNumber_15 (by decide) ?_
      refine tv_bipush (v := 57) C dk_X9_isNumber_17 (by decide) ?_
      refine tv_cS1 C dk_X9_isNumber_19 ml_RX9_51 yk_X9_isIn yi_X9_isIn (m_X9_isIn _ M (f_X9_now M) 48 57) rfl rfl (Nat.le_of_ble_eq_true rfl) (Nat.le_of_ble_eq_true rfl) (Nat.le_of_ble_eq_true rfl) (Nat.le_of_ble_eq_true rfl) (Nat.le_of_ble_eq_true rfl) ?_
      refine tv_if_eq C dk_X9_isNumber_22 (fun h103 => ?_) (fun h103 => ?_)
      · have q7 := q6.1 h103
        refine tv_aload_n C dk_X9_isNumber_54 rfl ?_
        refine tv_getR (r := 256) C dk_X9_isNumber_55 fl_RX9_35 (Nat.le_of_ble_eq_true rfl) rfl rfl (fun _ _ _ _ => rfl) ?_
        refine tv_iload_n C dk_X9_isNumber_58 rfl ?_
        refine tv_iload_n C dk_X9_isNumber_59 rfl ?_
        have q8 := q7.2
        refine tv_iast (j := x2.toNatClampNeg) rfl C tvP0_ex dk_X9_isNumber_60 (Nat.le_of_ble_eq_true rfl) rfl q7.1 ?_
        refine tv_iload C dk_X9_isNumber_61 rfl ?_
        refine tv_if_le C dk_X9_isNumber_63 (fun h104 => ?_) (fun h104 => ?_)
        · have q9 := q8.1 h104
          refine tv_iconst (v := 0) C dk_X9_isNumber_70 (by decide) ?_
          exact tv_iret C hQ dk_X9_isNumber_71 rfl (by rw [sb_X9_isNumber, if_neg h101, if_pos h103, if_pos h104] at hs; rw [← tvIter_out hs]) (by rw [sb_X9_isNumber, if_neg h101, if_pos h103, if_pos h104] at hs; rw [← tvIter_out hs])
        have q10 := q8.2 h104
        refine tv_iconst (v := 1) C dk_X9_isNumber_66 (by decide) ?_
        refine tv_goto C dk_X9_isNumber_67 ?_
        exact tv_iret C hQ dk_X9_isNumber_71 rfl (by rw [sb_X9_isNumber, if_neg h101, if_pos h103, if_neg h104] at hs; rw [← tvIter_out hs]) (by rw [sb_X9_isNumber, if_neg h101, if_pos h103, if_neg h104] at hs; rw [← tvIter_out hs])
      have q11 := q6.2 h103
      refine tv_bipush (v := 10) C dk_X9_isNumber_25 (by decide) ?_
      refine tv_iload_n C dk_X9_isNumber_27 rfl ?_
      refine tv_imul C dk_X9_isNumber_28 ?_
      refine tv_aload_n C dk_X9_isNumber_29 rfl ?_
      have q12 := q11.2
      refine tv_cV1 C dk_X9_isNumber_30 ml_RX9_202 yk_X9_now yi_X9_now (m_X9_now _ M q11.1) (Nat.le_of_ble_eq_true rfl) rfl rfl rfl rfl (Nat.le_of_ble_eq_true rfl) (Nat.le_of_ble_eq_true rfl) (Nat.le_of_ble_eq_true rfl) (Nat.le_of_ble_eq_true rfl) (Nat.le_of_ble_eq_true rfl) ?_
      refine tv_iadd C dk_X9_isNumber_33 ?_
      refine tv_bipush (v := 48) C dk_X9_isNumber_34 (by decide) ?_
      refine tv_isub C dk_X9_isNumber_36 ?_
      refine tv_istore_n (L' := [_, _, _, _, _]) (hn := by decide) (hlt := (Nat.le_of_ble_eq_true rfl)) (hno := rfl) C dk_X9_isNumber_37 rfl ?_
      refine tv_aload_n C dk_X9_isNumber_38 rfl ?_
      refine tv_dup C dk_X9_isNumber_39 rfl ?_
      refine tv_getI C dk_X9_isNumber_40 fl_RX9_199 (Nat.le_of_ble_eq_true rfl) rfl (fun _ _ _ _ => rfl) ?_
      refine tv_iconst (v := 1) C dk_X9_isNumber_43 (by decide) ?_
      refine tv_iadd C dk_X9_isNumber_44 ?_
      refine tv_putI C tvP0_ex dk_X9_isNumber_45 fl_RX9_199 fw_9_16 (Nat.le_of_ble_eq_true rfl) rfl rfl (fun _ _ _ _ _ => rfl) rfl rfl ?_
      refine tv_iinc (v := (y4 + 1)) (L' := [_, _, _, _, _]) (hn := by decide) (hlt := (Nat.le_of_ble_eq_true rfl)) (hno := rfl) C dk_X9_isNumber_48 rfl rfl rfl ?_
      refine tv_goto C dk_X9_isNumber_51 ?_
      exact (ih (((10 * y3) + (f_X9_now M)) - 48) (y4 + 1) (tpi M 249 16 ((tgi M 249 16) + 1)) (by rw [sb_X9_isNumber, if_neg h101, if_neg h103] at hqn; exact hqn) (by rw [sb_X9_isNumber, if_neg h101, if_neg h103] at hs; exact hs))
  refine tv_iconst (v := 0) C dk_X9_isNumber_0 (by decide) ?_
  refine tv_istore_n (L' := [_, _, _, _, _]) (hn := by decide) (hlt := (Nat.le_of_ble_eq_true rfl)) (hno := rfl) C dk_X9_isNumber_1 rfl ?_
  refine tv_iconst (v := 0) C dk_X9_isNumber_2 (by decide) ?_
  refine tv_istore (L' := [_, _, _, _, _]) (hn := by decide) (hlt := (Nat.le_of_ble_eq_true rfl)) (hno := rfl) C dk_X9_isNumber_3 rfl ?_
  exact (K n 0 0 M (by rw [e_X9_isNumber] at hqn; exact hqn) (by rw [e_X9_isNumber] at hs; exact hs))
def f_X9_isNumber (M : tvM) (x1 : Int32) (x2 : Int32) : (Int32 × tvM) := (tvIter (s_X9_isNumber x1 x2) 5000 (e_X9_isNumber M x1 x2)).getD (0, M)
def q_X9_isNumber (M : tvM) (x1 : Int32) (x2 : Int32) : Prop := qe_X9_isNumber M x1 x2 ∧ (∃ r, tvIter (s_X9_isNumber x1 x2) 5000 (e_X9_isNumber M x1 x2) = some r) ∧ tvQ (s_X9_isNumber x1 x2) (qs_X9_isNumber x1 x2) 5000 (e_X9_isNumber M x1 x2)
theorem n_X9_isNumber (G : tvG) (M : tvM) (x1 : Int32) (x2 : Int32) (hq : q_X9_isNumber M x1 x2) : tvRun G yX9_isNumber cX9_isNumber 5 (some .boolean) 2 0 0 tvP0 tvP0 [.ref (G.2.1 + 249), .int x1, .int x2] M (.inl (some (.int (f_X9_isNumber M x1 x2).1))) ((f_X9_isNumber M x1 x2).2) := by
  obtain ⟨h1, ⟨r, h2⟩, h3⟩ := hq
  have h4 : f_X9_isNumber M x1 x2 = r := by show (tvIter _ _ _).getD _ = _; rw [h2]; rfl
  rw [h4]
  exact m_X9_isNumber G M x1 x2 _ r h2 h1 h3
/-- TideVaultModel.isWord(Ljava/lang/String;)Z -/
def sb_X9_isWord (x1 : Nat) (y2 : Int32) (M : tvM) : (Int32 × tvM) ⊕ (Int32 × tvM) := (if (f_J0_length_8abf5 x1) ≤ y2 then .inr (1, M) else (if (f_X9_isSign M (f_J0_charAt_5068e x1 y2)).1 = 0 then .inr (0, (f_X9_isSign M (f_J0_charAt_5068e x1 y2)).2) else .inl ((y2 + 1), (f_X9_isSign M (f_J0_charAt_5068e x1 y2)).2)))
def s_X9_isWord (x1 : Nat) : (Int32 × tvM) → (Int32 × tvM) ⊕ (Int32 × tvM) := fun q => sb_X9_isWord x1 q.1 q.2
def e_X9_isWord (M : tvM) (x1 : Nat) : (Int32 × tvM) ⊕ (Int32 × tvM) := .inl (0, M)
def qb_X9_isWord (x1 : Nat) (y2 : Int32) (M : tvM) : Prop := (((f_J0_length_8abf5 x1) ≤ y2 → True) ∧ (¬ (f_J0_length_8abf5 x1) ≤ y2 → (vp_in y2 (tvLen.getD x1 0) ∧ ((q_X9_isSign M (f_J0_charAt_5068e x1 y2)) ∧ (((f_X9_isSign M (f_J0_charAt_5068e x1 y2)).1 = 0 → True) ∧ (¬ (f_X9_isSign M (f_J0_charAt_5068e x1 y2)).1 = 0 → True))))))
def qs_X9_isWord (x1 : Nat) : (Int32 × tvM) → Prop := fun q => qb_X9_isWord x1 q.1 q.2
def qe_X9_isWord (M : tvM) (x1 : Nat) : Prop := True
theorem m_X9_isWord (G : tvG) (M : tvM) (x1 : Nat) (hx1 : x1 < tvNS) (n : Nat) (r : (Int32 × tvM)) (hs : tvIter (s_X9_isWord x1) n (e_X9_isWord M x1) = some r) (hq : qe_X9_isWord M x1) (hqn : tvQ (s_X9_isWord x1) (qs_X9_isWord x1) n (e_X9_isWord M x1)) : tvRun G yX9_isWord cX9_isWord 3 (some .boolean) 5 0 0 tvP0 tvP0 [.ref (G.2.1 + 249), .ref (G.2.2.2.2.1 x1)] M (.inl (some (.int r.1))) r.2 := by
  refine tvRun.of yk_X9_isWord rfl [some (.ref (G.2.1 + 249)), some (.ref (G.2.2.2.2.1 x1)), none] rfl (Nat.le_of_ble_eq_true rfl) ?_
  intro E hG C hQ; subst hG
  have K : ∀ (n : Nat) (y2 : Int32) (M : tvM), tvQ (s_X9_isWord x1) (qs_X9_isWord x1) n (.inl (y2, M)) → tvIter (s_X9_isWord x1) n (.inl (y2, M)) = some r → tv_W E tvP0 0 0 M 2 [some (.ref (E.G.2.1 + 249)), some (.ref (E.G.2.2.2.2.1 x1)), some (.int y2)] [] := by
    intro n
    induction n with
    | zero => intro y2 M hqq hz; exact (tvIter_0 hz).elim
    | succ n ih =>
      intro y2 M hqq hz
      have hs : tvIter (s_X9_isWord x1) n (sb_X9_isWord x1 y2 M) = some r := by have h9 := tvIter_go hz; exact h9
      have hqn : tvQ (s_X9_isWord x1) (qs_X9_isWord x1) n (sb_X9_isWord x1 y2 M) := by have h9 := (tvQ_go hqq).2; exact h9
      have hq : qb_X9_isWord x1 y2 M := by have h9 := (tvQ_go hqq).1; exact h9
      refine tv_iload_n C dk_X9_isWord_2 rfl ?_
      refine tv_aload_n C dk_X9_isWord_3 rfl ?_
      refine tv_cT1 C dk_X9_isWord_4 ml_RX9_206 yk_J0_length_8abf5 yi_J0_length_8abf5 (m_J0_length_8abf5 _ M hx1) hx1 rfl rfl rfl (Nat.le_of_ble_eq_true rfl) (Nat.le_of_ble_eq_true rfl) (Nat.le_of_ble_eq_true rfl) (Nat.le_of_ble_eq_true rfl) (Nat.le_of_ble_eq_true rfl) ?_
      refine tv_icmp_ge C dk_X9_isWord_7 (fun h101 => ?_) (fun h101 => ?_)
      · have q1 := hq.1 h101
        refine tv_iconst (v := 1) C dk_X9_isWord_30 (by decide) ?_
        exact tv_iret C hQ dk_X9_isWord_31 rfl (by rw [sb_X9_isWord, if_pos h101] at hs; rw [← tvIter_out hs]) (by rw [sb_X9_isWord, if_pos h101] at hs; rw [← tvIter_out hs])
      have q2 := hq.2 h101
      refine tv_aload_n C dk_X9_isWord_10 rfl ?_
      refine tv_aload_n C dk_X9_isWord_11 rfl ?_
      refine tv_iload_n C dk_X9_isWord_12 rfl ?_
      have q3 := q2.2
      refine tv_cT1 C dk_X9_isWord_13 ml_RX9_104 yk_J0_charAt_5068e yi_J0_charAt_5068e (m_J0_charAt_5068e _ M hx1 q2.1) hx1 rfl rfl rfl (Nat.le_of_ble_eq_true rfl) (Nat.le_of_ble_eq_true rfl) (Nat.le_of_ble_eq_true rfl) (Nat.le_of_ble_eq_true rfl) (Nat.le_of_ble_eq_true rfl) ?_
      have q4 := q3.2
      refine tv_cV1 C dk_X9_isWord_16 ml_RX9_209 yk_X9_isSign yi_X9_isSign (m_X9_isSign _ M (f_J0_charAt_5068e x1 y2) q3.1) (Nat.le_of_ble_eq_true rfl) rfl rfl rfl rfl (Nat.le_of_ble_eq_true rfl) (Nat.le_of_ble_eq_true rfl) (Nat.le_of_ble_eq_true rfl) (Nat.le_of_ble_eq_true rfl) (Nat.le_of_ble_eq_true rfl) ?_
      refine tv_if_ne C dk_X9_isWord_19 (fun h102 => ?_) (fun h102 => ?_)
      · have q5 := q4.2 h102
        refine tv_iinc (v := (y2 + 1)) (L' := [_, _, _]) (hn := by decide) (hlt := (Nat.le_of_ble_eq_true rfl)) (hno := rfl) C dk_X9_isWord_24 rfl rfl rfl ?_
        refine tv_goto C dk_X9_isWord_27 ?_
        exact (ih (y2 + 1) ((f_X9_isSign M (f_J0_charAt_5068e x1 y2)).2) (by rw [sb_X9_isWord, if_neg h101, if_neg h102] at hqn; exact hqn) (by rw [sb_X9_isWord, if_neg h101, if_neg h102] at hs; exact hs))
      have q6 := q4.1 h102
      refine tv_iconst (v := 0) C dk_X9_isWord_22 (by decide) ?_
      exact tv_iret C hQ dk_X9_isWord_23 rfl (by rw [sb_X9_isWord, if_neg h101, if_pos h102] at hs; rw [← tvIter_out hs]) (by rw [sb_X9_isWord, if_neg h101, if_pos h102] at hs; rw [← tvIter_out hs])
  refine tv_iconst (v := 0) C dk_X9_isWord_0 (by decide) ?_
  refine tv_istore_n (L' := [_, _, _]) (hn := by decide) (hlt := (Nat.le_of_ble_eq_true rfl)) (hno := rfl) C dk_X9_isWord_1 rfl ?_
  exact (K n 0 M (by rw [e_X9_isWord] at hqn; exact hqn) (by rw [e_X9_isWord] at hs; exact hs))
def f_X9_isWord (M : tvM) (x1 : Nat) : (Int32 × tvM) := (tvIter (s_X9_isWord x1) 5000 (e_X9_isWord M x1)).getD (0, M)
def q_X9_isWord (M : tvM) (x1 : Nat) : Prop := qe_X9_isWord M x1 ∧ (∃ r, tvIter (s_X9_isWord x1) 5000 (e_X9_isWord M x1) = some r) ∧ tvQ (s_X9_isWord x1) (qs_X9_isWord x1) 5000 (e_X9_isWord M x1)
theorem n_X9_isWord (G : tvG) (M : tvM) (x1 : Nat) (hx1 : x1 < tvNS) (hq : q_X9_isWord M x1) : tvRun G yX9_isWord cX9_isWord 3 (some .boolean) 5 0 0 tvP0 tvP0 [.ref (G.2.1 + 249), .ref (G.2.2.2.2.1 x1)] M (.inl (some (.int (f_X9_isWord M x1).1))) ((f_X9_isWord M x1).2) := by
  obtain ⟨h1, ⟨r, h2⟩, h3⟩ := hq
  have h4 : f_X9_isWord M x1 = r := by show (tvIter _ _ _).getD _ = _; rw [h2]; rfl
  rw [h4]
  exact m_X9_isWord G M x1 hx1 _ r h2 h1 h3
