/-- TideVaultModel.isOver(I)Z -/
def f_X9_isOver (M : tvM) (x1 : Int32) : Int32 := (if (f_X9_of M x1 3) = 1 then (if 5 ≤ ((tgi M 250 0) - (f_X9_of M x1 5)) then 1 else (if (f_X9_of M x1 3) = 3 then (if ((tgi M 250 0) - (f_X9_of M x1 5)) < 10 then 0 else 1) else 0)) else (if (f_X9_of M x1 3) = 3 then (if ((tgi M 250 0) - (f_X9_of M x1 5)) < 10 then 0 else 1) else 0))
def q_X9_isOver (M : tvM) (x1 : Int32) : Prop := ((q_X9_of M x1 5) ∧ ((q_X9_of M x1 3) ∧ (((f_X9_of M x1 3) = 1 → ((5 ≤ ((tgi M 250 0) - (f_X9_of M x1 5)) → True) ∧ (¬ 5 ≤ ((tgi M 250 0) - (f_X9_of M x1 5)) → ((q_X9_of M x1 3) ∧ (((f_X9_of M x1 3) = 3 → ((((tgi M 250 0) - (f_X9_of M x1 5)) < 10 → True) ∧ (¬ ((tgi M 250 0) - (f_X9_of M x1 5)) < 10 → True))) ∧ (¬ (f_X9_of M x1 3) = 3 → True)))))) ∧ (¬ (f_X9_of M x1 3) = 1 → ((q_X9_of M x1 3) ∧ (((f_X9_of M x1 3) = 3 → ((((tgi M 250 0) - (f_X9_of M x1 5)) < 10 → True) ∧ (¬ ((tgi M 250 0) - (f_X9_of M x1 5)) < 10 → True))) ∧ (¬ (f_X9_of M x1 3) = 3 → True)))))))
theorem m_X9_isOver (G : tvG) (M : tvM) (x1 : Int32) (hq : q_X9_isOver M x1) : tvRun G yX9_isOver cX9_isOver 3 (some .boolean) 2 0 0 tvP0 tvP0 [.ref (G.2.1 + 249), .int x1] M (.inl (some (.int (f_X9_isOver M x1)))) M := by
  refine tvRun.of yk_X9_isOver rfl [some (.ref (G.2.1 + 249)), some (.int x1), none] rfl (Nat.le_of_ble_eq_true rfl) ?_
  intro E hG C hQ; subst hG
  refine tv_aload_n C dk_X9_isOver_0 rfl ?_
  refine tv_getR (r := 250) C dk_X9_isOver_1 fl_RX9_9 (Nat.le_of_ble_eq_true rfl) rfl rfl (fun _ _ _ _ => rfl) ?_
  refine tv_iconst (v := 0) C dk_X9_isOver_4 (by decide) ?_
  refine tv_iald (j := 0) rfl C dk_X9_isOver_5 (Nat.le_of_ble_eq_true rfl) rfl (vp_in_nI (n := 0) (by decide) (by decide)) ?_
  refine tv_aload_n C dk_X9_isOver_6 rfl ?_
  refine tv_iload_n C dk_X9_isOver_7 rfl ?_
  refine tv_iconst (v := 5) C dk_X9_isOver_8 (by decide) ?_
  have q1 := hq.2
  refine tv_cV1 C dk_X9_isOver_9 ml_RX9_55 yk_X9_of yi_X9_of (m_X9_of _ M x1 5 hq.1) (Nat.le_of_ble_eq_true rfl) rfl rfl rfl rfl (Nat.le_of_ble_eq_true rfl) (Nat.le_of_ble_eq_true rfl) (Nat.le_of_ble_eq_true rfl) (Nat.le_of_ble_eq_true rfl) (Nat.le_of_ble_eq_true rfl) ?_
  refine tv_isub C dk_X9_isOver_12 ?_
  refine tv_istore_n (L' := [_, _, _]) (hn := by decide) (hlt := (Nat.le_of_ble_eq_true rfl)) (hno := rfl) C dk_X9_isOver_13 rfl ?_
  refine tv_aload_n C dk_X9_isOver_14 rfl ?_
  refine tv_iload_n C dk_X9_isOver_15 rfl ?_
  refine tv_iconst (v := 3) C dk_X9_isOver_16 (by decide) ?_
  have q2 := q1.2
  refine tv_cV1 C dk_X9_isOver_17 ml_RX9_55 yk_X9_of yi_X9_of (m_X9_of _ M x1 3 q1.1) (Nat.le_of_ble_eq_true rfl) rfl rfl rfl rfl (Nat.le_of_ble_eq_true rfl) (Nat.le_of_ble_eq_true rfl) (Nat.le_of_ble_eq_true rfl) (Nat.le_of_ble_eq_true rfl) (Nat.le_of_ble_eq_true rfl) ?_
  refine tv_iconst (v := 1) C dk_X9_isOver_20 (by decide) ?_
  refine tv_icmp_ne C dk_X9_isOver_21 (fun h1 => ?_) (fun h1 => ?_)
  · have q3 := q2.2 h1
    refine tv_aload_n C dk_X9_isOver_29 rfl ?_
    refine tv_iload_n C dk_X9_isOver_30 rfl ?_
    refine tv_iconst (v := 3) C dk_X9_isOver_31 (by decide) ?_
    have q4 := q3.2
    refine tv_cV1 C dk_X9_isOver_32 ml_RX9_55 yk_X9_of yi_X9_of (m_X9_of _ M x1 3 q3.1) (Nat.le_of_ble_eq_true rfl) rfl rfl rfl rfl (Nat.le_of_ble_eq_true rfl) (Nat.le_of_ble_eq_true rfl) (Nat.le_of_ble_eq_true rfl) (Nat.le_of_ble_eq_true rfl) (Nat.le_of_ble_eq_true rfl) ?_
    refine tv_iconst (v := 3) C dk_X9_isOver_35 (by decide) ?_
    refine tv_icmp_ne C dk_X9_isOver_36 (fun h2 => ?_) (fun h2 => ?_)
    · have q5 := q4.2 h2
      refine tv_iconst (v := 0) C dk_X9_isOver_49 (by decide) ?_
      exact tv_iret C hQ dk_X9_isOver_50 rfl (by rw [f_X9_isOver, if_neg h1, if_neg h2]) rfl
    have q6 := q4.1 h2
    refine tv_iload_n C dk_X9_isOver_39 rfl ?_
    refine tv_bipush (v := 10) C dk_X9_isOver_40 (by decide) ?_
    refine tv_icmp_lt C dk_X9_isOver_42 (fun h3 => ?_) (fun h3 => ?_)
    · have q7 := q6.1 h3
      refine tv_iconst (v := 0) C dk_X9_isOver_49 (by decide) ?_
      exact tv_iret C hQ dk_X9_isOver_50 rfl (by rw [f_X9_isOver, if_neg h1, if_pos h2, if_pos h3]) rfl
    have q8 := q6.2 h3
    refine tv_iconst (v := 1) C dk_X9_isOver_45 (by decide) ?_
    refine tv_goto C dk_X9_isOver_46 ?_
    exact tv_iret C hQ dk_X9_isOver_50 rfl (by rw [f_X9_isOver, if_neg h1, if_pos h2, if_neg h3]) rfl
  have q9 := q2.1 h1
  refine tv_iload_n C dk_X9_isOver_24 rfl ?_
  refine tv_iconst (v := 5) C dk_X9_isOver_25 (by decide) ?_
  refine tv_icmp_ge C dk_X9_isOver_26 (fun h4 => ?_) (fun h4 => ?_)
  · have q10 := q9.1 h4
    refine tv_iconst (v := 1) C dk_X9_isOver_45 (by decide) ?_
    refine tv_goto C dk_X9_isOver_46 ?_
    exact tv_iret C hQ dk_X9_isOver_50 rfl (by rw [f_X9_isOver, if_pos h1, if_pos h4]) rfl
  have q11 := q9.2 h4
  refine tv_aload_n C dk_X9_isOver_29 rfl ?_
  refine tv_iload_n C dk_X9_isOver_30 rfl ?_
  refine tv_iconst (v := 3) C dk_X9_isOver_31 (by decide) ?_
  have q12 := q11.2
  refine tv_cV1 C dk_X9_isOver_32 ml_RX9_55 yk_X9_of yi_X9_of (m_X9_of _ M x1 3 q11.1) (Nat.le_of_ble_eq_true rfl) rfl rfl rfl rfl (Nat.le_of_ble_eq_true rfl) (Nat.le_of_ble_eq_true rfl) (Nat.le_of_ble_eq_true rfl) (Nat.le_of_ble_eq_true rfl) (Nat.le_of_ble_eq_true rfl) ?_
  refine tv_iconst (v := 3) C dk_X9_isOver_35 (by decide) ?_
  refine tv_icmp_ne C dk_X9_isOver_36 (fun h5 => ?_) (fun h5 => ?_)
  · have q13 := q12.2 h5
    refine tv_iconst (v := 0) C dk_X9_isOver_49 (by decide) ?_
    exact tv_iret C hQ dk_X9_isOver_50 rfl (by rw [f_X9_isOver, if_pos h1, if_neg h4, if_neg h5]) rfl
  have q14 := q12.1 h5
  refine tv_iload_n C dk_X9_isOver_39 rfl ?_
  refine tv_bipush (v := 10) C dk_X9_isOver_40 (by decide) ?_
  refine tv_icmp_lt C dk_X9_isOver_42 (fun h6 => ?_) (fun h6 => ?_)
  · have q15 := q14.1 h6
    refine tv_iconst (v := 0) C dk_X9_isOver_49 (by decide) ?_
    exact tv_iret C hQ dk_X9_isOver_50 rfl (by rw [f_X9_isOver, if_pos h1, if_neg h4, if_pos h5, if_pos h6]) rfl
  have q16 := q14.2 h6
  refine tv_iconst (v := 1) C dk_X9_isOver_45 (by decide) ?_
  refine tv_goto C dk_X9_isOver_46 ?_
  exact tv_iret C hQ dk_X9_isOver_50 rfl (by rw [f_X9_isOver, if_pos h1, if_neg h4, if_pos h5, if_neg h6]) rfl
theorem fz_X9_isOver {M : tvM} {x1 : Int32} : narrow .boolean (.int (f_X9_isOver M x1)) = .int (f_X9_isOver M x1) := by
  unfold f_X9_isOver; repeat' split
  all_goals first | rfl
/-- TideVaultModel.time()I -/
def f_X9_time (M : tvM) : Int32 × tvM := ((tgi (tpi M 249 5 0) 250 0), (tpi M 249 5 0))
theorem m_X9_time (G : tvG) (M : tvM) : tvRun G yX9_time cX9_time 1 (some .int) 1 0 0 tvP0 tvP0 [.ref (G.2.1 + 249)] M (.inl (some (.int (f_X9_time M).1))) ((f_X9_time M).2) := by
  refine tvRun.of yk_X9_time rfl [some (.ref (G.2.1 + 249))] rfl (Nat.le_of_ble_eq_true rfl) ?_
  intro E hG C hQ; subst hG
  refine tv_aload_n C dk_X9_time_0 rfl ?_
  refine tv_iconst (v := 0) C dk_X9_time_1 (by decide) ?_
  refine tv_putI C tvP0_ex dk_X9_time_2 fl_RX9_38 fw_9_5 (Nat.le_of_ble_eq_true rfl) rfl rfl (fun _ _ _ _ _ => rfl) rfl rfl ?_
  refine tv_aload_n C dk_X9_time_5 rfl ?_
  refine tv_getR (r := 250) C dk_X9_time_6 fl_RX9_9 (Nat.le_of_ble_eq_true rfl) rfl rfl (fun _ _ _ _ => rfl) ?_
  refine tv_iconst (v := 0) C dk_X9_time_9 (by decide) ?_
  refine tv_iald (j := 0) rfl C dk_X9_time_10 (Nat.le_of_ble_eq_true rfl) rfl (vp_in_nI (n := 0) (by decide) (by decide)) ?_
  exact tv_iret C hQ dk_X9_time_11 rfl (by rw [f_X9_time]) (by rw [f_X9_time])
/-- TideVaultModel.isLowTide()Z -/
def f_X9_isLowTide (M : tvM) : Int32 × tvM := ((f_X9_low (tpi M 249 5 0) (tgi (tpi M 249 5 0) 250 0)), (tpi M 249 5 0))
def q_X9_isLowTide (M : tvM) : Prop := ((q_X9_low (tpi M 249 5 0) (tgi (tpi M 249 5 0) 250 0)) ∧ True)
theorem m_X9_isLowTide (G : tvG) (M : tvM) (hq : q_X9_isLowTide M) : tvRun G yX9_isLowTide cX9_isLowTide 1 (some .boolean) 2 0 0 tvP0 tvP0 [.ref (G.2.1 + 249)] M (.inl (some (.int (f_X9_isLowTide M).1))) ((f_X9_isLowTide M).2) := by
  refine tvRun.of yk_X9_isLowTide rfl [some (.ref (G.2.1 + 249))] rfl (Nat.le_of_ble_eq_true rfl) ?_
  intro E hG C hQ; subst hG
  refine tv_aload_n C dk_X9_isLowTide_0 rfl ?_
  refine tv_iconst (v := 0) C dk_X9_isLowTide_1 (by decide) ?_
  refine tv_putI C tvP0_ex dk_X9_isLowTide_2 fl_RX9_38 fw_9_5 (Nat.le_of_ble_eq_true rfl) rfl rfl (fun _ _ _ _ _ => rfl) rfl rfl ?_
  refine tv_aload_n C dk_X9_isLowTide_5 rfl ?_
  refine tv_aload_n C dk_X9_isLowTide_6 rfl ?_
  refine tv_getR (r := 250) C dk_X9_isLowTide_7 fl_RX9_9 (Nat.le_of_ble_eq_true rfl) rfl rfl (fun _ _ _ _ => rfl) ?_
  refine tv_iconst (v := 0) C dk_X9_isLowTide_10 (by decide) ?_
  refine tv_iald (j := 0) rfl C dk_X9_isLowTide_11 (Nat.le_of_ble_eq_true rfl) rfl (vp_in_nI (n := 0) (by decide) (by decide)) ?_
  have q1 := hq.2
  refine tv_cV1 C dk_X9_isLowTide_12 ml_RX9_126 yk_X9_low yi_X9_low (m_X9_low _ (tpi M 249 5 0) (tgi (tpi M 249 5 0) 250 0) hq.1) (Nat.le_of_ble_eq_true rfl) rfl rfl rfl rfl (Nat.le_of_ble_eq_true rfl) (Nat.le_of_ble_eq_true rfl) (Nat.le_of_ble_eq_true rfl) (Nat.le_of_ble_eq_true rfl) (Nat.le_of_ble_eq_true rfl) ?_
  exact tv_iret C hQ dk_X9_isLowTide_15 (fz_X9_low) (by rw [f_X9_isLowTide]) (by rw [f_X9_isLowTide])
theorem fz_X9_isLowTide {M : tvM} : narrow .boolean (.int (f_X9_isLowTide M).1) = .int ((f_X9_isLowTide M).1) := by
  unfold f_X9_isLowTide; repeat' split
  all_goals try dsimp only
  all_goals first | rfl | exact (fz_X9_low)
/-- TideVaultModel.alarm()I -/
def f_X9_alarm (M : tvM) : Int32 × tvM := ((tgi (tpi M 249 5 0) 250 3), (tpi M 249 5 0))
theorem m_X9_alarm (G : tvG) (M : tvM) : tvRun G yX9_alarm cX9_alarm 1 (some .int) 1 0 0 tvP0 tvP0 [.ref (G.2.1 + 249)] M (.inl (some (.int (f_X9_alarm M).1))) ((f_X9_alarm M).2) := by
  refine tvRun.of yk_X9_alarm rfl [some (.ref (G.2.1 + 249))] rfl (Nat.le_of_ble_eq_true rfl) ?_
  intro E hG C hQ; subst hG
  refine tv_aload_n C dk_X9_alarm_0 rfl ?_
  refine tv_iconst (v := 0) C dk_X9_alarm_1 (by decide) ?_
  refine tv_putI C tvP0_ex dk_X9_alarm_2 fl_RX9_38 fw_9_5 (Nat.le_of_ble_eq_true rfl) rfl rfl (fun _ _ _ _ _ => rfl) rfl rfl ?_
  refine tv_aload_n C dk_X9_alarm_5 rfl ?_
  refine tv_getR (r := 250) C dk_X9_alarm_6 fl_RX9_9 (Nat.le_of_ble_eq_true rfl) rfl rfl (fun _ _ _ _ => rfl) ?_
  refine tv_iconst (v := 3) C dk_X9_alarm_9 (by decide) ?_
  refine tv_iald (j := 3) rfl C dk_X9_alarm_10 (Nat.le_of_ble_eq_true rfl) rfl (vp_in_nI (n := 3) (by decide) (by decide)) ?_
  exact tv_iret C hQ dk_X9_alarm_11 rfl (by rw [f_X9_alarm]) (by rw [f_X9_alarm])
/-- TideVaultModel.holders()I -/
def f_X9_holders (M : tvM) : Int32 × tvM := ((tgi (tpi M 249 5 0) 250 9), (tpi M 249 5 0))
theorem m_X9_holders (G : tvG) (M : tvM) : tvRun G yX9_holders cX9_holders 1 (some .int) 1 0 0 tvP0 tvP0 [.ref (G.2.1 + 249)] M (.inl (some (.int (f_X9_holders M).1))) ((f_X9_holders M).2) := by
  refine tvRun.of yk_X9_holders rfl [some (.ref (G.2.1 + 249))] rfl (Nat.le_of_ble_eq_true rfl) ?_
  intro E hG C hQ; subst hG
  refine tv_aload_n C dk_X9_holders_0 rfl ?_
  refine tv_iconst (v := 0) C dk_X9_holders_1 (by decide) ?_
  refine tv_putI C tvP0_ex dk_X9_holders_2 fl_RX9_38 fw_9_5 (Nat.le_of_ble_eq_true rfl) rfl rfl (fun _ _ _ _ _ => rfl) rfl rfl ?_
  refine tv_aload_n C dk_X9_holders_5 rfl ?_
  refine tv_getR (r := 250) C dk_X9_holders_6 fl_RX9_9 (Nat.le_of_ble_eq_true rfl) rfl rfl (fun _ _ _ _ => rfl) ?_
  refine tv_bipush (v := 9) C dk_X9_holders_9 (by decide) ?_
  refine tv_iald (j := 9) rfl C dk_X9_holders_11 (Nat.le_of_ble_eq_true rfl) rfl (vp_in_nI (n := 9) (by decide) (by decide)) ?_
  exact tv_iret C hQ dk_X9_holders_12 rfl (by rw [f_X9_holders]) (by rw [f_X9_holders])
/-- TideVaultModel.attempts(I)I -/
def f_X9_attempts (M : tvM) (x1 : Int32) : Int32 × tvM := (if (f_X9_isHolder M x1) = 0 then (0, (f_X9_isThrown M 1 1).2) else ((f_X9_ofHolder ((f_X9_isThrown M 0 1).2) x1 1), (f_X9_isThrown M 0 1).2))
def q_X9_attempts (M : tvM) (x1 : Int32) : Prop := (((f_X9_isHolder M x1) = 0 → True) ∧ (¬ (f_X9_isHolder M x1) = 0 → ((q_X9_ofHolder ((f_X9_isThrown M 0 1).2) x1 1) ∧ True)))
theorem m_X9_attempts (G : tvG) (M : tvM) (x1 : Int32) (hq : q_X9_attempts M x1) : tvRun G yX9_attempts cX9_attempts 2 (some .int) 3 0 0 tvP0 tvP0 [.ref (G.2.1 + 249), .int x1] M (.inl (some (.int (f_X9_attempts M x1).1))) ((f_X9_attempts M x1).2) := by
  refine tvRun.of yk_X9_attempts rfl [some (.ref (G.2.1 + 249)), some (.int x1)] rfl (Nat.le_of_ble_eq_true rfl) ?_
  intro E hG C hQ; subst hG
  refine tv_aload_n C dk_X9_attempts_0 rfl ?_
  refine tv_aload_n C dk_X9_attempts_1 rfl ?_
  refine tv_iload_n C dk_X9_attempts_2 rfl ?_
  refine tv_cV1 C dk_X9_attempts_3 ml_RX9_80 yk_X9_isHolder yi_X9_isHolder (m_X9_isHolder _ M x1) (Nat.le_of_ble_eq_true rfl) rfl rfl rfl rfl (Nat.le_of_ble_eq_true rfl) (Nat.le_of_ble_eq_true rfl) (Nat.le_of_ble_eq_true rfl) (Nat.le_of_ble_eq_true rfl) (Nat.le_of_ble_eq_true rfl) ?_
  refine tv_if_ne C dk_X9_attempts_6 (fun h1 => ?_) (fun h1 => ?_)
  · have q1 := hq.2 h1
    refine tv_iconst (v := 0) C dk_X9_attempts_13 (by decide) ?_
    refine tv_iconst (v := 1) C dk_X9_attempts_14 (by decide) ?_
    refine tv_cV1 C dk_X9_attempts_15 ml_RX9_62 yk_X9_isThrown yi_X9_isThrown (m_X9_isThrown _ M 0 1 (tv_qt0 _ _)) (Nat.le_of_ble_eq_true rfl) rfl rfl rfl rfl (Nat.le_of_ble_eq_true rfl) (Nat.le_of_ble_eq_true rfl) (Nat.le_of_ble_eq_true rfl) (Nat.le_of_ble_eq_true rfl) (Nat.le_of_ble_eq_true rfl) ?_
    refine tv_ti (v := 0) rfl ?_
    refine tv_if_eq C dk_X9_attempts_18 (fun _ => ?_) (fun h => absurd h (by decide))
    refine tv_aload_n C dk_X9_attempts_25 rfl ?_
    refine tv_iload_n C dk_X9_attempts_26 rfl ?_
    refine tv_iconst (v := 1) C dk_X9_attempts_27 (by decide) ?_
    have q2 := q1.2
    refine tv_cV1 C dk_X9_attempts_28 ml_RX9_59 yk_X9_ofHolder yi_X9_ofHolder (m_X9_ofHolder _ ((f_X9_isThrown M 0 1).2) x1 1 q1.1) (Nat.le_of_ble_eq_true rfl) rfl rfl rfl rfl (Nat.le_of_ble_eq_true rfl) (Nat.le_of_ble_eq_true rfl) (Nat.le_of_ble_eq_true rfl) (Nat.le_of_ble_eq_true rfl) (Nat.le_of_ble_eq_true rfl) ?_
    exact tv_iret C hQ dk_X9_attempts_31 rfl (by rw [f_X9_attempts, if_neg h1]) (by rw [f_X9_attempts, if_neg h1])
  have q3 := hq.1 h1
  refine tv_iconst (v := 1) C dk_X9_attempts_9 (by decide) ?_
  refine tv_goto C dk_X9_attempts_10 ?_
  refine tv_iconst (v := 1) C dk_X9_attempts_14 (by decide) ?_
  refine tv_cV1 C dk_X9_attempts_15 ml_RX9_62 yk_X9_isThrown yi_X9_isThrown (m_X9_isThrown _ M 1 1 (tv_qt1 _ _)) (Nat.le_of_ble_eq_true rfl) rfl rfl rfl rfl (Nat.le_of_ble_eq_true rfl) (Nat.le_of_ble_eq_true rfl) (Nat.le_of_ble_eq_true rfl) (Nat.le_of_ble_eq_true rfl) (Nat.le_of_ble_eq_true rfl) ?_
  refine tv_ti (v := 1) rfl ?_
  refine tv_if_eq C dk_X9_attempts_18 (fun h => absurd h (by decide)) (fun _ => ?_)
  refine tv_iconst (v := 0) C dk_X9_attempts_21 (by decide) ?_
  refine tv_goto C dk_X9_attempts_22 ?_
  exact tv_iret C hQ dk_X9_attempts_31 rfl (by rw [f_X9_attempts, if_pos h1]) (by rw [f_X9_attempts, if_pos h1])
