/-- TideVaultModel.remainingDelay(I)I -/
def f_X9_remainingDelay (M : tvM) (x1 : Int32) : Int32 × tvM := (if (f_X9_isNotPending M x1).1 = 0 then ((f_X9_of ((f_X9_isNotPending M x1).2) x1 6), (f_X9_isNotPending M x1).2) else (0, (f_X9_isNotPending M x1).2))
def q_X9_remainingDelay (M : tvM) (x1 : Int32) : Prop := ((q_X9_isNotPending M x1) ∧ (((f_X9_isNotPending M x1).1 = 0 → ((q_X9_of ((f_X9_isNotPending M x1).2) x1 6) ∧ True)) ∧ (¬ (f_X9_isNotPending M x1).1 = 0 → True)))
theorem m_X9_remainingDelay (G : tvG) (M : tvM) (x1 : Int32) (hq : q_X9_remainingDelay M x1) : tvRun G yX9_remainingDelay cX9_remainingDelay 2 (some .int) 4 0 0 tvP0 tvP0 [.ref (G.2.1 + 249), .int x1] M (.inl (some (.int (f_X9_remainingDelay M x1).1))) ((f_X9_remainingDelay M x1).2) := by
  refine tvRun.of yk_X9_remainingDelay rfl [some (.ref (G.2.1 + 249)), some (.int x1)] rfl (Nat.le_of_ble_eq_true rfl) ?_
  intro E hG C hQ; subst hG
  refine tv_aload_n C dk_X9_remainingDelay_0 rfl ?_
  refine tv_iload_n C dk_X9_remainingDelay_1 rfl ?_
  have q1 := hq.2
  refine tv_cV1 C dk_X9_remainingDelay_2 ml_RX9_168 yk_X9_isNotPending yi_X9_isNotPending (m_X9_isNotPending _ M x1 hq.1) (Nat.le_of_ble_eq_true rfl) rfl rfl rfl rfl (Nat.le_of_ble_eq_true rfl) (Nat.le_of_ble_eq_true rfl) (Nat.le_of_ble_eq_true rfl) (Nat.le_of_ble_eq_true rfl) (Nat.le_of_ble_eq_true rfl) ?_
  refine tv_if_eq C dk_X9_remainingDelay_5 (fun h1 => ?_) (fun h1 => ?_)
  · have q2 := q1.1 h1
    refine tv_aload_n C dk_X9_remainingDelay_12 rfl ?_
    refine tv_iload_n C dk_X9_remainingDelay_13 rfl ?_
    refine tv_bipush (v := 6) C dk_X9_remainingDelay_14 (by decide) ?_
    have q3 := q2.2
    refine tv_cV1 C dk_X9_remainingDelay_16 ml_RX9_55 yk_X9_of yi_X9_of (m_X9_of _ ((f_X9_isNotPending M x1).2) x1 6 q2.1) (Nat.le_of_ble_eq_true rfl) rfl rfl rfl rfl (Nat.le_of_ble_eq_true rfl) (Nat.le_of_ble_eq_true rfl) (Nat.le_of_ble_eq_true rfl) (Nat.le_of_ble_eq_true rfl) (Nat.le_of_ble_eq_true rfl) ?_
    exact tv_iret C hQ dk_X9_remainingDelay_19 rfl (by rw [f_X9_remainingDelay, if_pos h1]) (by rw [f_X9_remainingDelay, if_pos h1])
  have q4 := q1.2 h1
  refine tv_iconst (v := 0) C dk_X9_remainingDelay_8 (by decide) ?_
  refine tv_goto C dk_X9_remainingDelay_9 ?_
  exact tv_iret C hQ dk_X9_remainingDelay_19 rfl (by rw [f_X9_remainingDelay, if_neg h1]) (by rw [f_X9_remainingDelay, if_neg h1])
/-- TideVaultModel.pearls(I)I -/
def f_X9_pearls (M : tvM) (x1 : Int32) : Int32 × tvM := (if (f_X9_isBox M x1) = 0 then (0, (f_X9_isThrown M 1 1).2) else ((f_X9_of ((f_X9_isThrown M 0 1).2) x1 7), (f_X9_isThrown M 0 1).2))
def q_X9_pearls (M : tvM) (x1 : Int32) : Prop := (((f_X9_isBox M x1) = 0 → True) ∧ (¬ (f_X9_isBox M x1) = 0 → ((q_X9_of ((f_X9_isThrown M 0 1).2) x1 7) ∧ True)))
theorem m_X9_pearls (G : tvG) (M : tvM) (x1 : Int32) (hq : q_X9_pearls M x1) : tvRun G yX9_pearls cX9_pearls 2 (some .int) 3 0 0 tvP0 tvP0 [.ref (G.2.1 + 249), .int x1] M (.inl (some (.int (f_X9_pearls M x1).1))) ((f_X9_pearls M x1).2) := by
  refine tvRun.of yk_X9_pearls rfl [some (.ref (G.2.1 + 249)), some (.int x1)] rfl (Nat.le_of_ble_eq_true rfl) ?_
  intro E hG C hQ; subst hG
  refine tv_aload_n C dk_X9_pearls_0 rfl ?_
  refine tv_aload_n C dk_X9_pearls_1 rfl ?_
  refine tv_iload_n C dk_X9_pearls_2 rfl ?_
  refine tv_cV1 C dk_X9_pearls_3 ml_RX9_113 yk_X9_isBox yi_X9_isBox (m_X9_isBox _ M x1) (Nat.le_of_ble_eq_true rfl) rfl rfl rfl rfl (Nat.le_of_ble_eq_true rfl) (Nat.le_of_ble_eq_true rfl) (Nat.le_of_ble_eq_true rfl) (Nat.le_of_ble_eq_true rfl) (Nat.le_of_ble_eq_true rfl) ?_
  refine tv_if_ne C dk_X9_pearls_6 (fun h1 => ?_) (fun h1 => ?_)
  · have q1 := hq.2 h1
    refine tv_iconst (v := 0) C dk_X9_pearls_13 (by decide) ?_
    refine tv_iconst (v := 1) C dk_X9_pearls_14 (by decide) ?_
    refine tv_cV1 C dk_X9_pearls_15 ml_RX9_62 yk_X9_isThrown yi_X9_isThrown (m_X9_isThrown _ M 0 1 (tv_qt0 _ _)) (Nat.le_of_ble_eq_true rfl) rfl rfl rfl rfl (Nat.le_of_ble_eq_true rfl) (Nat.le_of_ble_eq_true rfl) (Nat.le_of_ble_eq_true rfl) (Nat.le_of_ble_eq_true rfl) (Nat.le_of_ble_eq_true rfl) ?_
    refine tv_ti (v := 0) rfl ?_
    refine tv_if_eq C dk_X9_pearls_18 (fun _ => ?_) (fun h => absurd h (by decide))
    refine tv_aload_n C dk_X9_pearls_25 rfl ?_
    refine tv_iload_n C dk_X9_pearls_26 rfl ?_
    refine tv_bipush (v := 7) C dk_X9_pearls_27 (by decide) ?_
    have q2 := q1.2
    refine tv_cV1 C dk_X9_pearls_29 ml_RX9_55 yk_X9_of yi_X9_of (m_X9_of _ ((f_X9_isThrown M 0 1).2) x1 7 q1.1) (Nat.le_of_ble_eq_true rfl) rfl rfl rfl rfl (Nat.le_of_ble_eq_true rfl) (Nat.le_of_ble_eq_true rfl) (Nat.le_of_ble_eq_true rfl) (Nat.le_of_ble_eq_true rfl) (Nat.le_of_ble_eq_true rfl) ?_
    exact tv_iret C hQ dk_X9_pearls_32 rfl (by rw [f_X9_pearls, if_neg h1]) (by rw [f_X9_pearls, if_neg h1])
  have q3 := hq.1 h1
  refine tv_iconst (v := 1) C dk_X9_pearls_9 (by decide) ?_
  refine tv_goto C dk_X9_pearls_10 ?_
  refine tv_iconst (v := 1) C dk_X9_pearls_14 (by decide) ?_
  refine tv_cV1 C dk_X9_pearls_15 ml_RX9_62 yk_X9_isThrown yi_X9_isThrown (m_X9_isThrown _ M 1 1 (tv_qt1 _ _)) (Nat.le_of_ble_eq_true rfl) rfl rfl rfl rfl (Nat.le_of_ble_eq_true rfl) (Nat.le_of_ble_eq_true rfl) (Nat.le_of_ble_eq_true rfl) (Nat.le_of_ble_eq_true rfl) (Nat.le_of_ble_eq_true rfl) ?_
  refine tv_ti (v := 1) rfl ?_
  refine tv_if_eq C dk_X9_pearls_18 (fun h => absurd h (by decide)) (fun _ => ?_)
  refine tv_iconst (v := 0) C dk_X9_pearls_21 (by decide) ?_
  refine tv_goto C dk_X9_pearls_22 ?_
  exact tv_iret C hQ dk_X9_pearls_32 rfl (by rw [f_X9_pearls, if_pos h1]) (by rw [f_X9_pearls, if_pos h1])
/-- TideVaultModel.pearl(II)I -/
def f_X9_pearl (M : tvM) (x1 : Int32) (x2 : Int32) : Int32 × tvM := (if (f_X9_isBox M x1) = 0 then (0, (f_X9_isThrown M 1 1).2) else (if (f_X9_isIn ((f_X9_isThrown M 0 1).2) x2 0 ((f_X9_of ((f_X9_isThrown M 0 1).2) x1 7) - 1)) = 0 then (0, (f_X9_isThrown ((f_X9_isThrown M 0 1).2) 1 2).2) else ((f_X9_of ((f_X9_isThrown ((f_X9_isThrown M 0 1).2) 0 2).2) x1 (8 + x2)), (f_X9_isThrown ((f_X9_isThrown M 0 1).2) 0 2).2)))
def q_X9_pearl (M : tvM) (x1 : Int32) (x2 : Int32) : Prop := (((f_X9_isBox M x1) = 0 → True) ∧ (¬ (f_X9_isBox M x1) = 0 → ((q_X9_of ((f_X9_isThrown M 0 1).2) x1 7) ∧ (((f_X9_isIn ((f_X9_isThrown M 0 1).2) x2 0 ((f_X9_of ((f_X9_isThrown M 0 1).2) x1 7) - 1)) = 0 → True) ∧ (¬ (f_X9_isIn ((f_X9_isThrown M 0 1).2) x2 0 ((f_X9_of ((f_X9_isThrown M 0 1).2) x1 7) - 1)) = 0 → ((q_X9_of ((f_X9_isThrown ((f_X9_isThrown M 0 1).2) 0 2).2) x1 (8 + x2)) ∧ True))))))
theorem m_X9_pearl (G : tvG) (M : tvM) (x1 : Int32) (x2 : Int32) (hq : q_X9_pearl M x1 x2) : tvRun G yX9_pearl cX9_pearl 3 (some .int) 3 0 0 tvP0 tvP0 [.ref (G.2.1 + 249), .int x1, .int x2] M (.inl (some (.int (f_X9_pearl M x1 x2).1))) ((f_X9_pearl M x1 x2).2) := by
  refine tvRun.of yk_X9_pearl rfl [some (.ref (G.2.1 + 249)), some (.int x1), some (.int x2)] rfl (Nat.le_of_ble_eq_true rfl) ?_
  intro E hG C hQ; subst hG
  refine tv_aload_n C dk_X9_pearl_0 rfl ?_
  refine tv_aload_n C dk_X9_pearl_1 rfl ?_
  refine tv_iload_n C dk_X9_pearl_2 rfl ?_
  refine tv_cV1 C dk_X9_pearl_3 ml_RX9_113 yk_X9_isBox yi_X9_isBox (m_X9_isBox _ M x1) (Nat.le_of_ble_eq_true rfl) rfl rfl rfl rfl (Nat.le_of_ble_eq_true rfl) (Nat.le_of_ble_eq_true rfl) (Nat.le_of_ble_eq_true rfl) (Nat.le_of_ble_eq_true rfl) (Nat.le_of_ble_eq_true rfl) ?_
  refine tv_if_ne C dk_X9_pearl_6 (fun h1 => ?_) (fun h1 => ?_)
  · have q1 := hq.2 h1
    refine tv_iconst (v := 0) C dk_X9_pearl_13 (by decide) ?_
    refine tv_iconst (v := 1) C dk_X9_pearl_14 (by decide) ?_
    refine tv_cV1 C dk_X9_pearl_15 ml_RX9_62 yk_X9_isThrown yi_X9_isThrown (m_X9_isThrown _ M 0 1 (tv_qt0 _ _)) (Nat.le_of_ble_eq_true rfl) rfl rfl rfl rfl (Nat.le_of_ble_eq_true rfl) (Nat.le_of_ble_eq_true rfl) (Nat.le_of_ble_eq_true rfl) (Nat.le_of_ble_eq_true rfl) (Nat.le_of_ble_eq_true rfl) ?_
    refine tv_ti (v := 0) rfl ?_
    refine tv_if_ne C dk_X9_pearl_18 (fun h => absurd h (by decide)) (fun _ => ?_)
    refine tv_aload_n C dk_X9_pearl_21 rfl ?_
    refine tv_iload_n C dk_X9_pearl_22 rfl ?_
    refine tv_iconst (v := 0) C dk_X9_pearl_23 (by decide) ?_
    refine tv_aload_n C dk_X9_pearl_24 rfl ?_
    refine tv_iload_n C dk_X9_pearl_25 rfl ?_
    refine tv_bipush (v := 7) C dk_X9_pearl_26 (by decide) ?_
    have q2 := q1.2
    refine tv_cV1 C dk_X9_pearl_28 ml_RX9_55 yk_X9_of yi_X9_of (m_X9_of _ ((f_X9_isThrown M 0 1).2) x1 7 q1.1) (Nat.le_of_ble_eq_true rfl) rfl rfl rfl rfl (Nat.le_of_ble_eq_true rfl) (Nat.le_of_ble_eq_true rfl) (Nat.le_of_ble_eq_true rfl) (Nat.le_of_ble_eq_true rfl) (Nat.le_of_ble_eq_true rfl) ?_
    refine tv_iconst (v := 1) C dk_X9_pearl_31 (by decide) ?_
    refine tv_isub C dk_X9_pearl_32 ?_
    refine tv_cS1 C dk_X9_pearl_33 ml_RX9_51 yk_X9_isIn yi_X9_isIn (m_X9_isIn _ ((f_X9_isThrown M 0 1).2) x2 0 ((f_X9_of ((f_X9_isThrown M 0 1).2) x1 7) - 1)) rfl rfl (Nat.le_of_ble_eq_true rfl) (Nat.le_of_ble_eq_true rfl) (Nat.le_of_ble_eq_true rfl) (Nat.le_of_ble_eq_true rfl) (Nat.le_of_ble_eq_true rfl) ?_
    refine tv_if_ne C dk_X9_pearl_36 (fun h2 => ?_) (fun h2 => ?_)
    · have q3 := q2.2 h2
      refine tv_iconst (v := 0) C dk_X9_pearl_43 (by decide) ?_
      refine tv_iconst (v := 2) C dk_X9_pearl_44 (by decide) ?_
      refine tv_cV1 C dk_X9_pearl_45 ml_RX9_62 yk_X9_isThrown yi_X9_isThrown (m_X9_isThrown _ ((f_X9_isThrown M 0 1).2) 0 2 (tv_qt0 _ _)) (Nat.le_of_ble_eq_true rfl) rfl rfl rfl rfl (Nat.le_of_ble_eq_true rfl) (Nat.le_of_ble_eq_true rfl) (Nat.le_of_ble_eq_true rfl) (Nat.le_of_ble_eq_true rfl) (Nat.le_of_ble_eq_true rfl) ?_
      refine tv_ti (v := 0) rfl ?_
      refine tv_if_eq C dk_X9_pearl_48 (fun _ => ?_) (fun h => absurd h (by decide))
      refine tv_aload_n C dk_X9_pearl_55 rfl ?_
      refine tv_iload_n C dk_X9_pearl_56 rfl ?_
      refine tv_bipush (v := 8) C dk_X9_pearl_57 (by decide) ?_
      refine tv_iload_n C dk_X9_pearl_59 rfl ?_
      refine tv_iadd C dk_X9_pearl_60 ?_
      have q4 := q3.2
      refine tv_cV1 C dk_X9_pearl_61 ml_RX9_55 yk_X9_of yi_X9_of (m_X9_of _ ((f_X9_isThrown ((f_X9_isThrown M 0 1).2) 0 2).2) x1 (8 + x2) q3.1) (Nat.le_of_ble_eq_true rfl) rfl rfl rfl rfl (Nat.le_of_ble_eq_true rfl) (Nat.le_of_ble_eq_true rfl) (Nat.le_of_ble_eq_true rfl) (Nat.le_of_ble_eq_true rfl) (Nat.le_of_ble_eq_true rfl) ?_
      exact tv_iret C hQ dk_X9_pearl_64 rfl (by rw [f_X9_pearl, if_neg h1, if_neg h2]) (by rw [f_X9_pearl, if_neg h1, if_neg h2])
    have q5 := q2.1 h2
    refine tv_iconst (v := 1) C dk_X9_pearl_39 (by decide) ?_
    refine tv_goto C dk_X9_pearl_40 ?_
    refine tv_iconst (v := 2) C dk_X9_pearl_44 (by decide) ?_
    refine tv_cV1 C dk_X9_pearl_45 ml_RX9_62 yk_X9_isThrown yi_X9_isThrown (m_X9_isThrown _ ((f_X9_isThrown M 0 1).2) 1 2 (tv_qt1 _ _)) (Nat.le_of_ble_eq_true rfl) rfl rfl rfl rfl (Nat.le_of_ble_eq_true rfl) (Nat.le_of_ble_eq_true rfl) (Nat.le_of_ble_eq_true rfl) (Nat.le_of_ble_eq_true rfl) (Nat.le_of_ble_eq_true rfl) ?_
    refine tv_ti (v := 1) rfl ?_
    refine tv_if_eq C dk_X9_pearl_48 (fun h => absurd h (by decide)) (fun _ => ?_)
    refine tv_iconst (v := 0) C dk_X9_pearl_51 (by decide) ?_
    refine tv_goto C dk_X9_pearl_52 ?_
    exact tv_iret C hQ dk_X9_pearl_64 rfl (by rw [f_X9_pearl, if_neg h1, if_pos h2]) (by rw [f_X9_pearl, if_neg h1, if_pos h2])
  have q6 := hq.1 h1
  refine tv_iconst (v := 1) C dk_X9_pearl_9 (by decide) ?_
  refine tv_goto C dk_X9_pearl_10 ?_
  refine tv_iconst (v := 1) C dk_X9_pearl_14 (by decide) ?_
  refine tv_cV1 C dk_X9_pearl_15 ml_RX9_62 yk_X9_isThrown yi_X9_isThrown (m_X9_isThrown _ M 1 1 (tv_qt1 _ _)) (Nat.le_of_ble_eq_true rfl) rfl rfl rfl rfl (Nat.le_of_ble_eq_true rfl) (Nat.le_of_ble_eq_true rfl) (Nat.le_of_ble_eq_true rfl) (Nat.le_of_ble_eq_true rfl) (Nat.le_of_ble_eq_true rfl) ?_
  refine tv_ti (v := 1) rfl ?_
  refine tv_if_ne C dk_X9_pearl_18 (fun _ => ?_) (fun h => absurd h (by decide))
  refine tv_iconst (v := 0) C dk_X9_pearl_51 (by decide) ?_
  refine tv_goto C dk_X9_pearl_52 ?_
  exact tv_iret C hQ dk_X9_pearl_64 rfl (by rw [f_X9_pearl, if_pos h1]) (by rw [f_X9_pearl, if_pos h1])
/-- TideVaultModel.totalValueByLedger()J -/
def f_X9_totalValueByLedger (M : tvM) : Int64 × tvM := ((((tgi (tpi M 249 5 0) 250 6).toInt64) - ((tgi (tpi M 249 5 0) 250 7).toInt64)), (tpi M 249 5 0))
theorem m_X9_totalValueByLedger (G : tvG) (M : tvM) : tvRun G yX9_totalValueByLedger cX9_totalValueByLedger 1 (some .long) 1 0 0 tvP0 tvP0 [.ref (G.2.1 + 249)] M (.inl (some (.long (f_X9_totalValueByLedger M).1))) ((f_X9_totalValueByLedger M).2) := by
  refine tvRun.of yk_X9_totalValueByLedger rfl [some (.ref (G.2.1 + 249))] rfl (Nat.le_of_ble_eq_true rfl) ?_
  intro E hG C hQ; subst hG
  refine tv_aload_n C dk_X9_totalValueByLedger_0 rfl ?_
  refine tv_iconst (v := 0) C dk_X9_totalValueByLedger_1 (by decide) ?_
  refine tv_putI C tvP0_ex dk_X9_totalValueByLedger_2 fl_RX9_38 fw_9_5 (Nat.le_of_ble_eq_true rfl) rfl rfl (fun _ _ _ _ _ => rfl) rfl rfl ?_
  refine tv_aload_n C dk_X9_totalValueByLedger_5 rfl ?_
  refine tv_getR (r := 250) C dk_X9_totalValueByLedger_6 fl_RX9_9 (Nat.le_of_ble_eq_true rfl) rfl rfl (fun _ _ _ _ => rfl) ?_
  refine tv_bipush (v := 6) C dk_X9_totalValueByLedger_9 (by decide) ?_
  refine tv_iald (j := 6) rfl C dk_X9_totalValueByLedger_11 (Nat.le_of_ble_eq_true rfl) rfl (vp_in_nI (n := 6) (by decide) (by decide)) ?_
  refine tv_i2l C dk_X9_totalValueByLedger_12 ?_
  refine tv_aload_n C dk_X9_totalValueByLedger_13 rfl ?_
  refine tv_getR (r := 250) C dk_X9_totalValueByLedger_14 fl_RX9_9 (Nat.le_of_ble_eq_true rfl) rfl rfl (fun _ _ _ _ => rfl) ?_
  refine tv_bipush (v := 7) C dk_X9_totalValueByLedger_17 (by decide) ?_
  refine tv_iald (j := 7) rfl C dk_X9_totalValueByLedger_19 (Nat.le_of_ble_eq_true rfl) rfl (vp_in_nI (n := 7) (by decide) (by decide)) ?_
  refine tv_i2l C dk_X9_totalValueByLedger_20 ?_
  refine tv_lsub C dk_X9_totalValueByLedger_21 ?_
  exact tv_lret C hQ dk_X9_totalValueByLedger_22 (by rw [f_X9_totalValueByLedger]) (by rw [f_X9_totalValueByLedger])
/-- TideVaultModel.failureRate()F -/
def f_X9_failureRate (M : tvM) : UInt32 × tvM := (if (tgi M 250 4) = 0 then (FP.fconst0, (f_X9_isThrown M 1 1).2) else ((FP.fdiv (FP.i2f (tgi ((f_X9_isThrown M 0 1).2) 250 5)) (FP.i2f (tgi ((f_X9_isThrown M 0 1).2) 250 4))), (f_X9_isThrown M 0 1).2))
def q_X9_failureRate (M : tvM) : Prop := (((tgi M 250 4) = 0 → True) ∧ (¬ (tgi M 250 4) = 0 → (vf_n32 (FP.fdiv (FP.i2f (tgi ((f_X9_isThrown M 0 1).2) 250 5)) (FP.i2f (tgi ((f_X9_isThrown M 0 1).2) 250 4))) ∧ True)))
theorem m_X9_failureRate (G : tvG) (M : tvM) (hq : q_X9_failureRate M) : tvRun G yX9_failureRate cX9_failureRate 1 (some .float) 2 0 0 tvP0 tvP0 [.ref (G.2.1 + 249)] M (.inl (some (.float (f_X9_failureRate M).1))) ((f_X9_failureRate M).2) := by
  refine tvRun.of yk_X9_failureRate rfl [some (.ref (G.2.1 + 249))] rfl (Nat.le_of_ble_eq_true rfl) ?_
  intro E hG C hQ; subst hG
  refine tv_aload_n C dk_X9_failureRate_0 rfl ?_
  refine tv_aload_n C dk_X9_failureRate_1 rfl ?_
  refine tv_getR (r := 250) C dk_X9_failureRate_2 fl_RX9_9 (Nat.le_of_ble_eq_true rfl) rfl rfl (fun _ _ _ _ => rfl) ?_
  refine tv_iconst (v := 4) C dk_X9_failureRate_5 (by decide) ?_
  refine tv_iald (j := 4) rfl C dk_X9_failureRate_6 (Nat.le_of_ble_eq_true rfl) rfl (vp_in_nI (n := 4) (by decide) (by decide)) ?_
  refine tv_if_ne C dk_X9_failureRate_7 (fun h1 => ?_) (fun h1 => ?_)
  · have q1 := hq.2 h1
    refine tv_iconst (v := 0) C dk_X9_failureRate_14 (by decide) ?_
    refine tv_iconst (v := 1) C dk_X9_failureRate_15 (by decide) ?_
    refine tv_cV1 C dk_X9_failureRate_16 ml_RX9_62 yk_X9_isThrown yi_X9_isThrown (m_X9_isThrown _ M 0 1 (tv_qt0 _ _)) (Nat.le_of_ble_eq_true rfl) rfl rfl rfl rfl (Nat.le_of_ble_eq_true rfl) (Nat.le_of_ble_eq_true rfl) (Nat.le_of_ble_eq_true rfl) (Nat.le_of_ble_eq_true rfl) (Nat.le_of_ble_eq_true rfl) ?_
    refine tv_ti (v := 0) rfl ?_
    refine tv_if_eq C dk_X9_failureRate_19 (fun _ => ?_) (fun h => absurd h (by decide))
    refine tv_aload_n C dk_X9_failureRate_26 rfl ?_
    refine tv_getR (r := 250) C dk_X9_failureRate_27 fl_RX9_9 (Nat.le_of_ble_eq_true rfl) rfl rfl (fun _ _ _ _ => rfl) ?_
    refine tv_iconst (v := 5) C dk_X9_failureRate_30 (by decide) ?_
    refine tv_iald (j := 5) rfl C dk_X9_failureRate_31 (Nat.le_of_ble_eq_true rfl) rfl (vp_in_nI (n := 5) (by decide) (by decide)) ?_
    refine tv_i2f C dk_X9_failureRate_32 ?_
    refine tv_aload_n C dk_X9_failureRate_33 rfl ?_
    refine tv_getR (r := 250) C dk_X9_failureRate_34 fl_RX9_9 (Nat.le_of_ble_eq_true rfl) rfl rfl (fun _ _ _ _ => rfl) ?_
    refine tv_iconst (v := 4) C dk_X9_failureRate_37 (by decide) ?_
    refine tv_iald (j := 4) rfl C dk_X9_failureRate_38 (Nat.le_of_ble_eq_true rfl) rfl (vp_in_nI (n := 4) (by decide) (by decide)) ?_
    refine tv_i2f C dk_X9_failureRate_39 ?_
    have q2 := q1.2
    refine tv_fdiv C dk_X9_failureRate_40 q1.1 ?_
    exact tv_fret C hQ dk_X9_failureRate_41 (by rw [f_X9_failureRate, if_neg h1]) (by rw [f_X9_failureRate, if_neg h1])
  have q3 := hq.1 h1
  refine tv_iconst (v := 1) C dk_X9_failureRate_10 (by decide) ?_
  refine tv_goto C dk_X9_failureRate_11 ?_
  refine tv_iconst (v := 1) C dk_X9_failureRate_15 (by decide) ?_
  refine tv_cV1 C dk_X9_failureRate_16 ml_RX9_62 yk_X9_isThrown yi_X9_isThrown (m_X9_isThrown _ M 1 1 (tv_qt1 _ _)) (Nat.le_of_ble_eq_true rfl) rfl rfl rfl rfl (Nat.le_of_ble_eq_true rfl) (Nat.le_of_ble_eq_true rfl) (Nat.le_of_ble_eq_true rfl) (Nat.le_of_ble_eq_true rfl) (Nat.le_of_ble_eq_true rfl) ?_
  refine tv_ti (v := 1) rfl ?_
  refine tv_if_eq C dk_X9_failureRate_19 (fun h => absurd h (by decide)) (fun _ => ?_)
  refine tv_fconst0 C dk_X9_failureRate_22 ?_
  refine tv_goto C dk_X9_failureRate_23 ?_
  exact tv_fret C hQ dk_X9_failureRate_41 (by rw [f_X9_failureRate, if_pos h1]) (by rw [f_X9_failureRate, if_pos h1])
/-- TideVaultModel.events()I -/
def f_X9_events (M : tvM) : Int32 × tvM := ((tgi (tpi M 249 5 0) 250 11), (tpi M 249 5 0))
theorem m_X9_events (G : tvG) (M : tvM) : tvRun G yX9_events cX9_events 1 (some .int) 1 0 0 tvP0 tvP0 [.ref (G.2.1 + 249)] M (.inl (some (.int (f_X9_events M).1))) ((f_X9_events M).2) := by
  refine tvRun.of yk_X9_events rfl [some (.ref (G.2.1 + 249))] rfl (Nat.le_of_ble_eq_true rfl) ?_
  intro E hG C hQ; subst hG
  refine tv_aload_n C dk_X9_events_0 rfl ?_
  refine tv_iconst (v := 0) C dk_X9_events_1 (by decide) ?_
  refine tv_putI C tvP0_ex dk_X9_events_2 fl_RX9_38 fw_9_5 (Nat.le_of_ble_eq_true rfl) rfl rfl (fun _ _ _ _ _ => rfl) rfl rfl ?_
  refine tv_aload_n C dk_X9_events_5 rfl ?_
  refine tv_getR (r := 250) C dk_X9_events_6 fl_RX9_9 (Nat.le_of_ble_eq_true rfl) rfl rfl (fun _ _ _ _ => rfl) ?_
  refine tv_bipush (v := 11) C dk_X9_events_9 (by decide) ?_
  refine tv_iald (j := 11) rfl C dk_X9_events_11 (Nat.le_of_ble_eq_true rfl) rfl (vp_in_nI (n := 11) (by decide) (by decide)) ?_
  exact tv_iret C hQ dk_X9_events_12 rfl (by rw [f_X9_events]) (by rw [f_X9_events])
