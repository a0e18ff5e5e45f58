/-- TideVaultModel.minutesLocked(I)I -/
def f_X9_minutesLocked (M : tvM) (x1 : Int32) : Int32 × tvM := (if (f_X9_isHolder M x1) = 0 then (if (f_X9_isThrown M 1 1).1 = 0 then (if (f_X9_locked ((f_X9_isThrown M 1 1).2) x1) = 0 then (0, (f_X9_isThrown M 1 1).2) else (((f_X9_ofHolder ((f_X9_isThrown M 1 1).2) x1 2) - (tgi ((f_X9_isThrown M 1 1).2) 250 0)), (f_X9_isThrown M 1 1).2)) else (0, (f_X9_isThrown M 1 1).2)) else (if (f_X9_isThrown M 0 1).1 = 0 then (if (f_X9_locked ((f_X9_isThrown M 0 1).2) x1) = 0 then (0, (f_X9_isThrown M 0 1).2) else (((f_X9_ofHolder ((f_X9_isThrown M 0 1).2) x1 2) - (tgi ((f_X9_isThrown M 0 1).2) 250 0)), (f_X9_isThrown M 0 1).2)) else (0, (f_X9_isThrown M 0 1).2)))
def q_X9_minutesLocked (M : tvM) (x1 : Int32) : Prop := (((f_X9_isHolder M x1) = 0 → ((q_X9_isThrown M 1 1) ∧ (((f_X9_isThrown M 1 1).1 = 0 → ((q_X9_locked ((f_X9_isThrown M 1 1).2) x1) ∧ (((f_X9_locked ((f_X9_isThrown M 1 1).2) x1) = 0 → True) ∧ (¬ (f_X9_locked ((f_X9_isThrown M 1 1).2) x1) = 0 → ((q_X9_ofHolder ((f_X9_isThrown M 1 1).2) x1 2) ∧ True))))) ∧ (¬ (f_X9_isThrown M 1 1).1 = 0 → True)))) ∧ (¬ (f_X9_isHolder M x1) = 0 → ((q_X9_isThrown M 0 1) ∧ (((f_X9_isThrown M 0 1).1 = 0 → ((q_X9_locked ((f_X9_isThrown M 0 1).2) x1) ∧ (((f_X9_locked ((f_X9_isThrown M 0 1).2) x1) = 0 → True) ∧ (¬ (f_X9_locked ((f_X9_isThrown M 0 1).2) x1) = 0 → ((q_X9_ofHolder ((f_X9_isThrown M 0 1).2) x1 2) ∧ True))))) ∧ (¬ (f_X9_isThrown M 0 1).1 = 0 → True)))))
theorem m_X9_minutesLocked (G : tvG) (M : tvM) (x1 : Int32) (hq : q_X9_minutesLocked M x1) : tvRun G yX9_minutesLocked cX9_minutesLocked 2 (some .int) 3 0 0 tvP0 tvP0 [.ref (G.2.1 + 249), .int x1] M (.inl (some (.int (f_X9_minutesLocked M x1).1))) ((f_X9_minutesLocked M x1).2) := by
  refine tvRun.of yk_X9_minutesLocked rfl [some (.ref (G.2.1 + 249)), some (.int x1)] rfl (Nat.le_of_ble_eq_true rfl) ?_
  intro E hG C hQ; subst hG
  refine tv_aload_n C dk_X9_minutesLocked_0 rfl ?_
  refine tv_aload_n C dk_X9_minutesLocked_1 rfl ?_
  refine tv_iload_n C dk_X9_minutesLocked_2 rfl ?_
  refine tv_cV1 C dk_X9_minutesLocked_3 ml_RX9_80 yk_X9_isHolder yi_X9_isHolder (m_X9_isHolder _ M x1) (Nat.le_of_ble_eq_true rfl) rfl rfl rfl rfl (Nat.le_of_ble_eq_true rfl) (Nat.le_of_ble_eq_true rfl) (Nat.le_of_ble_eq_true rfl) (Nat.le_of_ble_eq_true rfl) (Nat.le_of_ble_eq_true rfl) ?_
  refine tv_if_ne C dk_X9_minutesLocked_6 (fun h1 => ?_) (fun h1 => ?_)
  · have q1 := hq.2 h1
    refine tv_iconst (v := 0) C dk_X9_minutesLocked_13 (by decide) ?_
    refine tv_iconst (v := 1) C dk_X9_minutesLocked_14 (by decide) ?_
    have q2 := q1.2
    refine tv_cV1 C dk_X9_minutesLocked_15 ml_RX9_62 yk_X9_isThrown yi_X9_isThrown (m_X9_isThrown _ M 0 1 q1.1) (Nat.le_of_ble_eq_true rfl) rfl rfl rfl rfl (Nat.le_of_ble_eq_true rfl) (Nat.le_of_ble_eq_true rfl) (Nat.le_of_ble_eq_true rfl) (Nat.le_of_ble_eq_true rfl) (Nat.le_of_ble_eq_true rfl) ?_
    refine tv_if_ne C dk_X9_minutesLocked_18 (fun h2 => ?_) (fun h2 => ?_)
    · have q3 := q2.2 h2
      refine tv_iconst (v := 0) C dk_X9_minutesLocked_29 (by decide) ?_
      refine tv_goto C dk_X9_minutesLocked_30 ?_
      exact tv_iret C hQ dk_X9_minutesLocked_46 rfl (by rw [f_X9_minutesLocked, if_neg h1, if_neg h2]) (by rw [f_X9_minutesLocked, if_neg h1, if_neg h2])
    have q4 := q2.1 h2
    refine tv_aload_n C dk_X9_minutesLocked_21 rfl ?_
    refine tv_iload_n C dk_X9_minutesLocked_22 rfl ?_
    have q5 := q4.2
    refine tv_cV1 C dk_X9_minutesLocked_23 ml_RX9_110 yk_X9_locked yi_X9_locked (m_X9_locked _ ((f_X9_isThrown M 0 1).2) x1 q4.1) (Nat.le_of_ble_eq_true rfl) rfl rfl rfl rfl (Nat.le_of_ble_eq_true rfl) (Nat.le_of_ble_eq_true rfl) (Nat.le_of_ble_eq_true rfl) (Nat.le_of_ble_eq_true rfl) (Nat.le_of_ble_eq_true rfl) ?_
    refine tv_if_ne C dk_X9_minutesLocked_26 (fun h3 => ?_) (fun h3 => ?_)
    · have q6 := q5.2 h3
      refine tv_aload_n C dk_X9_minutesLocked_33 rfl ?_
      refine tv_iload_n C dk_X9_minutesLocked_34 rfl ?_
      refine tv_iconst (v := 2) C dk_X9_minutesLocked_35 (by decide) ?_
      have q7 := q6.2
      refine tv_cV1 C dk_X9_minutesLocked_36 ml_RX9_59 yk_X9_ofHolder yi_X9_ofHolder (m_X9_ofHolder _ ((f_X9_isThrown M 0 1).2) x1 2 q6.1) (Nat.le_of_ble_eq_true rfl) rfl rfl rfl rfl (Nat.le_of_ble_eq_true rfl) (Nat.le_of_ble_eq_true rfl) (Nat.le_of_ble_eq_true rfl) (Nat.le_of_ble_eq_true rfl) (Nat.le_of_ble_eq_true rfl) ?_
      refine tv_aload_n C dk_X9_minutesLocked_39 rfl ?_
      refine tv_getR (r := 250) C dk_X9_minutesLocked_40 fl_RX9_9 (Nat.le_of_ble_eq_true rfl) rfl rfl (fun _ _ _ _ => rfl) ?_
      refine tv_iconst (v := 0) C dk_X9_minutesLocked_43 (by decide) ?_
      refine tv_iald (j := 0) rfl C dk_X9_minutesLocked_44 (Nat.le_of_ble_eq_true rfl) rfl (vp_in_nI (n := 0) (by decide) (by decide)) ?_
      refine tv_isub C dk_X9_minutesLocked_45 ?_
      exact tv_iret C hQ dk_X9_minutesLocked_46 rfl (by rw [f_X9_minutesLocked, if_neg h1, if_pos h2, if_neg h3]) (by rw [f_X9_minutesLocked, if_neg h1, if_pos h2, if_neg h3])
    have q8 := q5.1 h3
    refine tv_iconst (v := 0) C dk_X9_minutesLocked_29 (by decide) ?_
    refine tv_goto C dk_X9_minutesLocked_30 ?_
    exact tv_iret C hQ dk_X9_minutesLocked_46 rfl (by rw [f_X9_minutesLocked, if_neg h1, if_pos h2, if_pos h3]) (by rw [f_X9_minutesLocked, if_neg h1, if_pos h2, if_pos h3])
  have q9 := hq.1 h1
  refine tv_iconst (v := 1) C dk_X9_minutesLocked_9 (by decide) ?_
  refine tv_goto C dk_X9_minutesLocked_10 ?_
  refine tv_iconst (v := 1) C dk_X9_minutesLocked_14 (by decide) ?_
  have q10 := q9.2
  refine tv_cV1 C dk_X9_minutesLocked_15 ml_RX9_62 yk_X9_isThrown yi_X9_isThrown (m_X9_isThrown _ M 1 1 q9.1) (Nat.le_of_ble_eq_true rfl) rfl rfl rfl rfl (Nat.le_of_ble_eq_true rfl) (Nat.le_of_ble_eq_true rfl) (Nat.le_of_ble_eq_true rfl) (Nat.le_of_ble_eq_true rfl) (Nat.le_of_ble_eq_true rfl) ?_
  refine tv_if_ne C dk_X9_minutesLocked_18 (fun h4 => ?_) (fun h4 => ?_)
  · have q11 := q10.2 h4
    refine tv_iconst (v := 0) C dk_X9_minutesLocked_29 (by decide) ?_
    refine tv_goto C dk_X9_minutesLocked_30 ?_
    exact tv_iret C hQ dk_X9_minutesLocked_46 rfl (by rw [f_X9_minutesLocked, if_pos h1, if_neg h4]) (by rw [f_X9_minutesLocked, if_pos h1, if_neg h4])
  have q12 := q10.1 h4
  refine tv_aload_n C dk_X9_minutesLocked_21 rfl ?_
  refine tv_iload_n C dk_X9_minutesLocked_22 rfl ?_
  have q13 := q12.2
  refine tv_cV1 C dk_X9_minutesLocked_23 ml_RX9_110 yk_X9_locked yi_X9_locked (m_X9_locked _ ((f_X9_isThrown M 1 1).2) x1 q12.1) (Nat.le_of_ble_eq_true rfl) rfl rfl rfl rfl (Nat.le_of_ble_eq_true rfl) (Nat.le_of_ble_eq_true rfl) (Nat.le_of_ble_eq_true rfl) (Nat.le_of_ble_eq_true rfl) (Nat.le_of_ble_eq_true rfl) ?_
  refine tv_if_ne C dk_X9_minutesLocked_26 (fun h5 => ?_) (fun h5 => ?_)
  · have q14 := q13.2 h5
    refine tv_aload_n C dk_X9_minutesLocked_33 rfl ?_
    refine tv_iload_n C dk_X9_minutesLocked_34 rfl ?_
    refine tv_iconst (v := 2) C dk_X9_minutesLocked_35 (by decide) ?_
    have q15 := q14.2
    refine tv_cV1 C dk_X9_minutesLocked_36 ml_RX9_59 yk_X9_ofHolder yi_X9_ofHolder (m_X9_ofHolder _ ((f_X9_isThrown M 1 1).2) x1 2 q14.1) (Nat.le_of_ble_eq_true rfl) rfl rfl rfl rfl (Nat.le_of_ble_eq_true rfl) (Nat.le_of_ble_eq_true rfl) (Nat.le_of_ble_eq_true rfl) (Nat.le_of_ble_eq_true rfl) (Nat.le_of_ble_eq_true rfl) ?_
    refine tv_aload_n C dk_X9_minutesLocked_39 rfl ?_
    refine tv_getR (r := 250) C dk_X9_minutesLocked_40 fl_RX9_9 (Nat.le_of_ble_eq_true rfl) rfl rfl (fun _ _ _ _ => rfl) ?_
    refine tv_iconst (v := 0) C dk_X9_minutesLocked_43 (by decide) ?_
    refine tv_iald (j := 0) rfl C dk_X9_minutesLocked_44 (Nat.le_of_ble_eq_true rfl) rfl (vp_in_nI (n := 0) (by decide) (by decide)) ?_
    refine tv_isub C dk_X9_minutesLocked_45 ?_
    exact tv_iret C hQ dk_X9_minutesLocked_46 rfl (by rw [f_X9_minutesLocked, if_pos h1, if_pos h4, if_neg h5]) (by rw [f_X9_minutesLocked, if_pos h1, if_pos h4, if_neg h5])
  have q16 := q13.1 h5
  refine tv_iconst (v := 0) C dk_X9_minutesLocked_29 (by decide) ?_
  refine tv_goto C dk_X9_minutesLocked_30 ?_
  exact tv_iret C hQ dk_X9_minutesLocked_46 rfl (by rw [f_X9_minutesLocked, if_pos h1, if_pos h4, if_pos h5]) (by rw [f_X9_minutesLocked, if_pos h1, if_pos h4, if_pos h5])
/-- TideVaultModel.boxes()I -/
def f_X9_boxes (M : tvM) : Int32 × tvM := ((tgi (tpi M 249 5 0) 250 10), (tpi M 249 5 0))
theorem m_X9_boxes (G : tvG) (M : tvM) : tvRun G yX9_boxes cX9_boxes 1 (some .int) 1 0 0 tvP0 tvP0 [.ref (G.2.1 + 249)] M (.inl (some (.int (f_X9_boxes M).1))) ((f_X9_boxes M).2) := by
  refine tvRun.of yk_X9_boxes rfl [some (.ref (G.2.1 + 249))] rfl (Nat.le_of_ble_eq_true rfl) ?_
  intro E hG C hQ; subst hG
  refine tv_aload_n C dk_X9_boxes_0 rfl ?_
  refine tv_iconst (v := 0) C dk_X9_boxes_1 (by decide) ?_
  refine tv_putI C tvP0_ex dk_X9_boxes_2 fl_RX9_38 fw_9_5 (Nat.le_of_ble_eq_true rfl) rfl rfl (fun _ _ _ _ _ => rfl) rfl rfl ?_
  refine tv_aload_n C dk_X9_boxes_5 rfl ?_
  refine tv_getR (r := 250) C dk_X9_boxes_6 fl_RX9_9 (Nat.le_of_ble_eq_true rfl) rfl rfl (fun _ _ _ _ => rfl) ?_
  refine tv_bipush (v := 10) C dk_X9_boxes_9 (by decide) ?_
  refine tv_iald (j := 10) rfl C dk_X9_boxes_11 (Nat.le_of_ble_eq_true rfl) rfl (vp_in_nI (n := 10) (by decide) (by decide)) ?_
  exact tv_iret C hQ dk_X9_boxes_12 rfl (by rw [f_X9_boxes]) (by rw [f_X9_boxes])
/-- TideVaultModel.otherHolder(II)I -/
def f_X9_otherHolder (M : tvM) (x1 : Int32) (x2 : Int32) : Int32 × tvM := (if (f_X9_isBox M x1) = 0 then (if (f_X9_isThrown M 1 1).1 = 0 then (if (f_X9_isOf ((f_X9_isThrown M 1 1).2) x1 x2) = 0 then (if (f_X9_isThrown ((f_X9_isThrown M 1 1).2) 1 2).1 = 0 then (if (f_X9_of ((f_X9_isThrown ((f_X9_isThrown M 1 1).2) 1 2).2) x1 0) = x2 then ((f_X9_of ((f_X9_isThrown ((f_X9_isThrown M 1 1).2) 1 2).2) x1 1), (f_X9_isThrown ((f_X9_isThrown M 1 1).2) 1 2).2) else ((f_X9_of ((f_X9_isThrown ((f_X9_isThrown M 1 1).2) 1 2).2) x1 0), (f_X9_isThrown ((f_X9_isThrown M 1 1).2) 1 2).2)) else (0, (f_X9_isThrown ((f_X9_isThrown M 1 1).2) 1 2).2)) else (if (f_X9_isThrown ((f_X9_isThrown M 1 1).2) 0 2).1 = 0 then (if (f_X9_of ((f_X9_isThrown ((f_X9_isThrown M 1 1).2) 0 2).2) x1 0) = x2 then ((f_X9_of ((f_X9_isThrown ((f_X9_isThrown M 1 1).2) 0 2).2) x1 1), (f_X9_isThrown ((f_X9_isThrown M 1 1).2) 0 2).2) else ((f_X9_of ((f_X9_isThrown ((f_X9_isThrown M 1 1).2) 0 2).2) x1 0), (f_X9_isThrown ((f_X9_isThrown M 1 1).2) 0 2).2)) else (0, (f_X9_isThrown ((f_X9_isThrown M 1 1).2) 0 2).2))) else (0, (f_X9_isThrown M 1 1).2)) else (if (f_X9_isThrown M 0 1).1 = 0 then (if (f_X9_isOf ((f_X9_isThrown M 0 1).2) x1 x2) = 0 then (if (f_X9_isThrown ((f_X9_isThrown M 0 1).2) 1 2).1 = 0 then (if (f_X9_of ((f_X9_isThrown ((f_X9_isThrown M 0 1).2) 1 2).2) x1 0) = x2 then ((f_X9_of ((f_X9_isThrown ((f_X9_isThrown M 0 1).2) 1 2).2) x1 1), (f_X9_isThrown ((f_X9_isThrown M 0 1).2) 1 2).2) else ((f_X9_of ((f_X9_isThrown ((f_X9_isThrown M 0 1).2) 1 2).2) x1 0), (f_X9_isThrown ((f_X9_isThrown M 0 1).2) 1 2).2)) else (0, (f_X9_isThrown ((f_X9_isThrown M 0 1).2) 1 2).2)) else (if (f_X9_isThrown ((f_X9_isThrown M 0 1).2) 0 2).1 = 0 then (if (f_X9_of ((f_X9_isThrown ((f_X9_isThrown M 0 1).2) 0 2).2) x1 0) = x2 then ((f_X9_of ((f_X9_isThrown ((f_X9_isThrown M 0 1).2) 0 2).2) x1 1), (f_X9_isThrown ((f_X9_isThrown M 0 1).2) 0 2).2) else ((f_X9_of ((f_X9_isThrown ((f_X9_isThrown M 0 1).2) 0 2).2) x1 0), (f_X9_isThrown ((f_X9_isThrown M 0 1).2) 0 2).2)) else (0, (f_X9_isThrown ((f_X9_isThrown M 0 1).2) 0 2).2))) else (0, (f_X9_isThrown M 0 1).2)))
def q_X9_otherHolder (M : tvM) (x1 : Int32) (x2 : Int32) : Prop := (((f_X9_isBox M x1) = 0 → ((q_X9_isThrown M 1 1) ∧ (((f_X9_isThrown M 1 1).1 = 0 → ((q_X9_isOf ((f_X9_isThrown M 1 1).2) x1 x2) ∧ (((f_X9_isOf ((f_X9_isThrown M 1 1).2) x1 x2) = 0 → ((q_X9_isThrown ((f_X9_isThrown M 1 1).2) 1 2) ∧ (((f_X9_isThrown ((f_X9_isThrown M 1 1).2) 1 2).1 = 0 → ((q_X9_of ((f_X9_isThrown ((f_X9_isThrown M 1 1).2) 1 2).2) x1 0) ∧ (((f_X9_of ((f_X9_isThrown ((f_X9_isThrown M 1 1).2) 1 2).2) x1 0) = x2 → ((q_X9_of ((f_X9_isThrown ((f_X9_isThrown M 1 1).2) 1 2).2) x1 1) ∧ True)) ∧ (¬ (f_X9_of ((f_X9_isThrown ((f_X9_isThrown M 1 1).2) 1 2).2) x1 0) = x2 → ((q_X9_of ((f_X9_isThrown ((f_X9_isThrown M 1 1).2) 1 2).2) x1 0) ∧ True))))) ∧ (¬ (f_X9_isThrown ((f_X9_isThrown M 1 1).2) 1 2).1 = 0 → True)))) ∧ (¬ (f_X9_isOf ((f_X9_isThrown M 1 1).2) x1 x2) = 0 → ((q_X9_isThrown ((f_X9_isThrown M 1 1).2) 0 2) ∧ (((f_X9_isThrown ((f_X9_isThrown M 1 1).2) 0 2).1 = 0 → ((q_X9_of ((f_X9_isThrown ((f_X9_isThrown M 1 1).2) 0 2).2) x1 0) ∧ (((f_X9_of ((f_X9_isThrown ((f_X9_isThrown M 1 1).2) 0 2).2) x1 0) = x2 → ((q_X9_of ((f_X9_isThrown ((f_X9_isThrown M 1 1).2) 0 2).2) x1 1) ∧ True)) ∧ (¬ (f_X9_of ((f_X9_isThrown ((f_X9_isThrown M 1 1).2) 0 2).2) x1 0) = x2 → ((q_X9_of ((f_X9_isThrown ((f_X9_isThrown M 1 1).2) 0 2).2) x1 0) ∧ True))))) ∧ (¬ (f_X9_isThrown ((f_X9_isThrown M 1 1).2) 0 2).1 = 0 → True))))))) ∧ (¬ (f_X9_isThrown M 1 1).1 = 0 → True)))) ∧ (¬ (f_X9_isBox M x1) = 0 → ((q_X9_isThrown M 0 1) ∧ (((f_X9_isThrown M 0 1).1 = 0 → ((q_X9_isOf ((f_X9_isThrown M 0 1).2) x1 x2) ∧ (((f_X9_isOf ((f_X9_isThrown M 0 1).2) x1 x2) = 0 → ((q_X9_isThrown ((f_X9_isThrown M 0 1).2) 1 2) ∧ (((f_X9_isThrown ((f_X9_isThrown M 0 1).2) 1 2).1 = 0 → ((q_X9_of ((f_X9_isThrown ((f_X9_isThrown M 0 1).2) 1 2).2) x1 0) ∧ (((f_X9_of ((f_X9_isThrown ((f_X9_isThrown M 0 1).2) 1 2).2) x1 0) = x2 → ((q_X9_of ((f_X9_isThrown ((f_X9_isThrown M 0 1).2) 1 2).2) x1 1) ∧ True)) ∧ (¬ (f_X9_of ((f_X9_isThrown ((f_X9_isThrown M 0 1).2) 1 2).2) x1 0) = x2 → ((q_X9_of ((f_X9_isThrown ((f_X9_isThrown M 0 1).2) 1 2).2) x1 0) ∧ True))))) ∧ (¬ (f_X9_isThrown ((f_X9_isThrown M 0 1).2) 1 2).1 = 0 → True)))) ∧ (¬ (f_X9_isOf ((f_X9_isThrown M 0 1).2) x1 x2) = 0 → ((q_X9_isThrown ((f_X9_isThrown M 0 1).2) 0 2) ∧ (((f_X9_isThrown ((f_X9_isThrown M 0 1).2) 0 2).1 = 0 → ((q_X9_of ((f_X9_isThrown ((f_X9_isThrown M 0 1).2) 0 2).2) x1 0) ∧ (((f_X9_of ((f_X9_isThrown ((f_X9_isThrown M 0 1).2) 0 2).2) x1 0) = x2 → ((q_X9_of ((f_X9_isThrown ((f_X9_isThrown M 0 1).2) 0 2).2) x1 1) ∧ True)) ∧ (¬ (f_X9_of ((f_X9_isThrown ((f_X9_isThrown M 0 1).2) 0 2).2) x1 0) = x2 → ((q_X9_of ((f_X9_isThrown ((f_X9_isThrown M 0 1).2) 0 2).2) x1 0) ∧ True))))) ∧ (¬ (f_X9_isThrown ((f_X9_isThrown M 0 1).2) 0 2).1 = 0 → True))))))) ∧ (¬ (f_X9_isThrown M 0 1).1 = 0 → True)))))
theorem m_X9_otherHolder (G : tvG) (M : tvM) (x1 : Int32) (x2 : Int32) (hq : q_X9_otherHolder M x1 x2) : tvRun G yX9_otherHolder cX9_otherHolder 3 (some .int) 3 0 0 tvP0 tvP0 [.ref (G.2.1 + 249), .int x1, .int x2] M (.inl (some (.int (f_X9_otherHolder M x1 x2).1))) ((f_X9_otherHolder M x1 x2).2) := by
  refine tvRun.of yk_X9_otherHolder rfl [some (.ref (G.2.1 + 249)), some (.int x1), some (.int x2)] rfl (Nat.le_of_ble_eq_true rfl) ?_
  intro E hG C hQ; subst hG
  refine tv_aload_n C dk_X9_otherHolder_0 rfl ?_
  refine tv_aload_n C dk_X9_otherHolder_1 rfl ?_
  refine tv_iload_n C dk_X9_otherHolder_2 rfl ?_
  refine tv_cV1 C dk_X9_otherHolder_3 ml_RX9_113 yk_X9_isBox yi_X9_isBox (m_X9_isBox _ M x1) (Nat.le_of_ble_eq_true rfl) rfl rfl rfl rfl (Nat.le_of_ble_eq_true rfl) (Nat.le_of_ble_eq_true rfl) (Nat.le_of_ble_eq_true rfl) (Nat.le_of_ble_eq_true rfl) (Nat.le_of_ble_eq_true rfl) ?_
  refine tv_if_ne C dk_X9_otherHolder_6 (fun h1 => ?_) (fun h1 => ?_)
  · have q1 := hq.2 h1
    refine tv_iconst (v := 0) C dk_X9_otherHolder_13 (by decide) ?_
    refine tv_iconst (v := 1) C dk_X9_otherHolder_14 (by decide) ?_
    have q2 := q1.2
    refine tv_cV1 C dk_X9_otherHolder_15 ml_RX9_62 yk_X9_isThrown yi_X9_isThrown (m_X9_isThrown _ M 0 1 q1.1) (Nat.le_of_ble_eq_true rfl) rfl rfl rfl rfl (Nat.le_of_ble_eq_true rfl) (Nat.le_of_ble_eq_true rfl) (Nat.le_of_ble_eq_true rfl) (Nat.le_of_ble_eq_true rfl) (Nat.le_of_ble_eq_true rfl) ?_
    refine tv_if_ne C dk_X9_otherHolder_18 (fun h2 => ?_) (fun h2 => ?_)
    · have q3 := q2.2 h2
      refine tv_iconst (v := 0) C dk_X9_otherHolder_43 (by decide) ?_
      exact tv_iret C hQ dk_X9_otherHolder_44 rfl (by rw [f_X9_otherHolder, if_neg h1, if_neg h2]) (by rw [f_X9_otherHolder, if_neg h1, if_neg h2])
    have q4 := q2.1 h2
    refine tv_aload_n C dk_X9_otherHolder_21 rfl ?_
    refine tv_aload_n C dk_X9_otherHolder_22 rfl ?_
    refine tv_iload_n C dk_X9_otherHolder_23 rfl ?_
    refine tv_iload_n C dk_X9_otherHolder_24 rfl ?_
    have q5 := q4.2
    refine tv_cV1 C dk_X9_otherHolder_25 ml_RX9_116 yk_X9_isOf yi_X9_isOf (m_X9_isOf _ ((f_X9_isThrown M 0 1).2) x1 x2 q4.1) (Nat.le_of_ble_eq_true rfl) rfl rfl rfl rfl (Nat.le_of_ble_eq_true rfl) (Nat.le_of_ble_eq_true rfl) (Nat.le_of_ble_eq_true rfl) (Nat.le_of_ble_eq_true rfl) (Nat.le_of_ble_eq_true rfl) ?_
    refine tv_if_ne C dk_X9_otherHolder_28 (fun h3 => ?_) (fun h3 => ?_)
    · have q6 := q5.2 h3
      refine tv_iconst (v := 0) C dk_X9_otherHolder_35 (by decide) ?_
      refine tv_iconst (v := 2) C dk_X9_otherHolder_36 (by decide) ?_
      have q7 := q6.2
      refine tv_cV1 C dk_X9_otherHolder_37 ml_RX9_62 yk_X9_isThrown yi_X9_isThrown (m_X9_isThrown _ ((f_X9_isThrown M 0 1).2) 0 2 q6.1) (Nat.le_of_ble_eq_true rfl) rfl rfl rfl rfl (Nat.le_of_ble_eq_true rfl) (Nat.le_of_ble_eq_true rfl) (Nat.le_of_ble_eq_true rfl) (Nat.le_of_ble_eq_true rfl) (Nat.le_of_ble_eq_true rfl) ?_
      refine tv_if_eq C dk_X9_otherHolder_40 (fun h4 => ?_) (fun h4 => ?_)
      · have q8 := q7.1 h4
        refine tv_aload_n C dk_X9_otherHolder_45 rfl ?_
        refine tv_iload_n C dk_X9_otherHolder_46 rfl ?_
        refine tv_iconst (v := 0) C dk_X9_otherHolder_47 (by decide) ?_
        have q9 := q8.2
        refine tv_cV1 C dk_X9_otherHolder_48 ml_RX9_55 yk_X9_of yi_X9_of (m_X9_of _ ((f_X9_isThrown ((f_X9_isThrown M 0 1).2) 0 2).2) x1 0 q8.1) (Nat.le_of_ble_eq_true rfl) rfl rfl rfl rfl (Nat.le_of_ble_eq_true rfl) (Nat.le_of_ble_eq_true rfl) (Nat.le_of_ble_eq_true rfl) (Nat.le_of_ble_eq_true rfl) (Nat.le_of_ble_eq_true rfl) ?_
        refine tv_iload_n C dk_X9_otherHolder_51 rfl ?_
        refine tv_icmp_ne C dk_X9_otherHolder_52 (fun h5 => ?_) (fun h5 => ?_)
        · have q10 := q9.2 h5
          refine tv_aload_n C dk_X9_otherHolder_64 rfl ?_
          refine tv_iload_n C dk_X9_otherHolder_65 rfl ?_
          refine tv_iconst (v := 0) C dk_X9_otherHolder_66 (by decide) ?_
          have q11 := q10.2
          refine tv_cV1 C dk_X9_otherHolder_67 ml_RX9_55 yk_X9_of yi_X9_of (m_X9_of _ ((f_X9_isThrown ((f_X9_isThrown M 0 1).2) 0 2).2) x1 0 q10.1) (Nat.le_of_ble_eq_true rfl) rfl rfl rfl rfl (Nat.le_of_ble_eq_true rfl) (Nat.le_of_ble_eq_true rfl) (Nat.le_of_ble_eq_true rfl) (Nat.le_of_ble_eq_true rfl) (Nat.le_of_ble_eq_true rfl) ?_
          exact tv_iret C hQ dk_X9_otherHolder_70 rfl (by rw [f_X9_otherHolder, if_neg h1, if_pos h2, if_neg h3, if_pos h4, if_neg h5]) (by rw [f_X9_otherHolder, if_neg h1, if_pos h2, if_neg h3, if_pos h4, if_neg h5])
        have q12 := q9.1 h5
        refine tv_aload_n C dk_X9_otherHolder_55 rfl ?_
        refine tv_iload_n C dk_X9_otherHolder_56 rfl ?_
        refine tv_iconst (v := 1) C dk_X9_otherHolder_57 (by decide) ?_
        have q13 := q12.2
        refine tv_cV1 C dk_X9_otherHolder_58 ml_RX9_55 yk_X9_of yi_X9_of (m_X9_of _ ((f_X9_isThrown ((f_X9_isThrown M 0 1).2) 0 2).2) x1 1 q12.1) (Nat.le_of_ble_eq_true rfl) rfl rfl rfl rfl (Nat.le_of_ble_eq_true rfl) (Nat.le_of_ble_eq_true rfl) (Nat.le_of_ble_eq_true rfl) (Nat.le_of_ble_eq_true rfl) (Nat.le_of_ble_eq_true rfl) ?_
        refine tv_goto C dk_X9_otherHolder_61 ?_
        exact tv_iret C hQ dk_X9_otherHolder_70 rfl (by rw [f_X9_otherHolder, if_neg h1, if_pos h2, if_neg h3, if_pos h4, if_pos h5]) (by rw [f_X9_otherHolder, if_neg h1, if_pos h2, if_neg h3, if_pos h4, if_pos h5])
      have q14 := q7.2 h4
      refine tv_iconst (v := 0) C dk_X9_otherHolder_43 (by decide) ?_
      exact tv_iret C hQ dk_X9_otherHolder_44 rfl (by rw [f_X9_otherHolder, if_neg h1, if_pos h2, if_neg h3, if_neg h4]) (by rw [f_X9_otherHolder, if_neg h1, if_pos h2, if_neg h3, if_neg h4])
    have q15 := q5.1 h3
    refine tv_iconst (v := 1) C dk_X9_otherHolder_31 (by decide) ?_
    refine tv_goto C dk_X9_otherHolder_32 ?_
    refine tv_iconst (v := 2) C dk_X9_otherHolder_36 (by decide) ?_
    have q16 := q15.2
    refine tv_cV1 C dk_X9_otherHolder_37 ml_RX9_62 yk_X9_isThrown yi_X9_isThrown (m_X9_isThrown _ ((f_X9_isThrown M 0 1).2) 1 2 q15.1) (Nat.le_of_ble_eq_true rfl) rfl rfl rfl rfl (Nat.le_of_ble_eq_true rfl) (Nat.le_of_ble_eq_true rfl) (Nat.le_of_ble_eq_true rfl) (Nat.le_of_ble_eq_true rfl) (Nat.le_of_ble_eq_true rfl) ?_
    refine tv_if_eq C dk_X9_otherHolder_40 (fun h6 => ?_) (fun h6 => ?_)
    · have q17 := q16.1 h6
      refine tv_aload_n C dk_X9_otherHolder_45 rfl ?_
      refine tv_iload_n C dk_X9_otherHolder_46 rfl ?_
      refine tv_iconst (v := 0) C dk_X9_otherHolder_47 (by decide) ?_
      have q18 := q17.2
      refine tv_cV1 C dk_X9_otherHolder_48 ml_RX9_55 yk_X9_of yi_X9_of (m_X9_of _ ((f_X9_isThrown ((f_X9_isThrown M 0 1).2) 1 2).2) x1 0 q17.1) (Nat.le_of_ble_eq_true rfl) rfl rfl rfl rfl (Nat.le_of_ble_eq_true rfl) (Nat.le_of_ble_eq_true rfl) (Nat.le_of_ble_eq_true rfl) (Nat.le_of_ble_eq_true rfl) (Nat.le_of_ble_eq_true rfl) ?_
      refine tv_iload_n C dk_X9_otherHolder_51 rfl ?_
      refine tv_icmp_ne C dk_X9_otherHolder_52 (fun h7 => ?_) (fun h7 => ?_)
      · have q19 := q18.2 h7
        refine tv_aload_n C dk_X9_otherHolder_64 rfl ?_
        refine tv_iload_n C dk_X9_otherHolder_65 rfl ?_
        refine tv_iconst (v := 0) C dk_X9_otherHolder_66 (by decide) ?_
        have q20 := q19.2
        refine tv_cV1 C dk_X9_otherHolder_67 ml_RX9_55 yk_X9_of yi_X9_of (m_X9_of _ ((f_X9_isThrown ((f_X9_isThrown M 0 1).2) 1 2).2) x1 0 q19.1) (Nat.le_of_ble_eq_true rfl) rfl rfl rfl rfl (Nat.le_of_ble_eq_true rfl) (Nat.le_of_ble_eq_true rfl) (Nat.le_of_ble_eq_true rfl) (Nat.le_of_ble_eq_true rfl) (Nat.le_of_ble_eq_true rfl) ?_
        exact tv_iret C hQ dk_X9_otherHolder_70 rfl (by rw [f_X9_otherHolder, if_neg h1, if_pos h2, if_pos h3, if_pos h6, if_neg h7]) (by rw [f_X9_otherHolder, if_neg h1, if_pos h2, if_pos h3, if_pos h6, if_neg h7])
      have q21 := q18.1 h7
      refine tv_aload_n C dk_X9_otherHolder_55 rfl ?_
      refine tv_iload_n C dk_X9_otherHolder_56 rfl ?_
      refine tv_iconst (v := 1) C dk_X9_otherHolder_57 (by decide) ?_
      have q22 := q21.2
      refine tv_cV1 C dk_X9_otherHolder_58 ml_RX9_55 yk_X9_of yi_X9_of (m_X9_of _ ((f_X9_isThrown ((f_X9_isThrown M 0 1).2) 1 2).2) x1 1 q21.1) (Nat.le_of_ble_eq_true rfl) rfl rfl rfl rfl (Nat.le_of_ble_eq_true rfl) (Nat.le_of_ble_eq_true rfl) (Nat.le_of_ble_eq_true rfl) (Nat.le_of_ble_eq_true rfl) (Nat.le_of_ble_eq_true rfl) ?_
      refine tv_goto C dk_X9_otherHolder_61 ?_
      exact tv_iret C hQ dk_X9_otherHolder_70 rfl (by rw [f_X9_otherHolder, if_neg h1, if_pos h2, if_pos h3, if_pos h6, if_pos h7]) (by rw [f_X9_otherHolder, if_neg h1, if_pos h2, if_pos h3, if_pos h6, if_pos h7])
    have q23 := q16.2 h6
    refine tv_iconst (v := 0) C dk_X9_otherHolder_43 (by decide) ?_
    exact tv_iret C hQ dk_X9_otherHolder_44 rfl (by rw [f_X9_otherHolder, if_neg h1, if_pos h2, if_pos h3, if_neg h6]) (by rw [f_X9_otherHolder, if_neg h1, if_pos h2, if_pos h3, if_neg h6])
  have q24 := hq.1 h1
  refine tv_iconst (v := 1) C dk_X9_otherHolder_9 (by decide) ?_
  refine tv_goto C dk_X9_otherHolder_10 ?_
  refine tv_iconst (v := 1) C dk_X9_otherHolder_14 (by decide) ?_
  have q25 := q24.2
  refine tv_cV1 C dk_X9_otherHolder_15 ml_RX9_62 yk_X9_isThrown yi_X9_isThrown (m_X9_isThrown _ M 1 1 q24.1) (Nat.le_of_ble_eq_true rfl) rfl rfl rfl rfl (Nat.le_of_ble_eq_true rfl) (Nat.le_of_ble_eq_true rfl) (Nat.le_of_ble_eq_true rfl) (Nat.le_of_ble_eq_true rfl) (Nat.le_of_ble_eq_true rfl) ?_
  refine tv_if_ne C dk_X9_otherHolder_18 (fun h8 => ?_) (fun h8 => ?_)
  · have q26 := q25.2 h8
    refine tv_iconst (v := 0) C dk_X9_otherHolder_43 (by decide) ?_
    exact tv_iret C hQ dk_X9_otherHolder_44 rfl (by rw [f_X9_otherHolder, if_pos h1, if_neg h8]) (by rw [f_X9_otherHolder, if_pos h1, if_neg h8])
  have q27 := q25.1 h8
  refine tv_aload_n C dk_X9_otherHolder_21 rfl ?_
  refine tv_aload_n C dk_X9_otherHolder_22 rfl ?_
  refine tv_iload_n C dk_X9_otherHolder_23 rfl ?_
  refine tv_iload_n C dk_X9_otherHolder_24 rfl ?_
  have q28 := q27.2
  refine tv_cV1 C dk_X9_otherHolder_25 ml_RX9_116 yk_X9_isOf yi_X9_isOf (m_X9_isOf _ ((f_X9_isThrown M 1 1).2) x1 x2 q27.1) (Nat.le_of_ble_eq_true rfl) rfl rfl rfl rfl (Nat.le_of_ble_eq_true rfl) (Nat.le_of_ble_eq_true rfl) (Nat.le_of_ble_eq_true rfl) (Nat.le_of_ble_eq_true rfl) (Nat.le_of_ble_eq_true rfl) ?_
  refine tv_if_ne C dk_X9_otherHolder_28 (fun h9 => ?_) (fun h9 => ?_)
  · have q29 := q28.2 h9
    refine tv_iconst (v := 0) C dk_X9_otherHolder_35 (by decide) ?_
    refine tv_iconst (v := 2) C dk_X9_otherHolder_36 (by decide) ?_
    have q30 := q29.2
    refine tv_cV1 C dk_X9_otherHolder_37 ml_RX9_62 yk_X9_isThrown yi_X9_isThrown (m_X9_isThrown _ ((f_X9_isThrown M 1 1).2) 0 2 q29.1) (Nat.le_of_ble_eq_true rfl) rfl rfl rfl rfl (Nat.le_of_ble_eq_true rfl) (Nat.le_of_ble_eq_true rfl) (Nat.le_of_ble_eq_true rfl) (Nat.le_of_ble_eq_true rfl) (Nat.le_of_ble_eq_true rfl) ?_
    refine tv_if_eq C dk_X9_otherHolder_40 (fun h10 => ?_) (fun h10 => ?_)
    · have q31 := q30.1 h10
      refine tv_aload_n C dk_X9_otherHolder_45 rfl ?_
      refine tv_iload_n C dk_X9_otherHolder_46 rfl ?_
      refine tv_iconst (v := 0) C dk_X9_otherHolder_47 (by decide) ?_
      have q32 := q31.2
      refine tv_cV1 C dk_X9_otherHolder_48 ml_RX9_55 yk_X9_of yi_X9_of (m_X9_of _ ((f_X9_isThrown ((f_X9_isThrown M 1 1).2) 0 2).2) x1 0 q31.1) (Nat.le_of_ble_eq_true rfl) rfl rfl rfl rfl (Nat.le_of_ble_eq_true rfl) (Nat.le_of_ble_eq_true rfl) (Nat.le_of_ble_eq_true rfl) (Nat.le_of_ble_eq_true rfl) (Nat.le_of_ble_eq_true rfl) ?_
      refine tv_iload_n C dk_X9_otherHolder_51 rfl ?_
      refine tv_icmp_ne C dk_X9_otherHolder_52 (fun h11 => ?_) (fun h11 => ?_)
      · have q33 := q32.2 h11
        refine tv_aload_n C dk_X9_otherHolder_64 rfl ?_
        refine tv_iload_n C dk_X9_otherHolder_65 rfl ?_
        refine tv_iconst (v := 0) C dk_X9_otherHolder_66 (by decide) ?_
        have q34 := q33.2
        refine tv_cV1 C dk_X9_otherHolder_67 ml_RX9_55 yk_X9_of yi_X9_of (m_X9_of _ ((f_X9_isThrown ((f_X9_isThrown M 1 1).2) 0 2).2) x1 0 q33.1) (Nat.le_of_ble_eq_true rfl) rfl rfl rfl rfl (Nat.le_of_ble_eq_true rfl) (Nat.le_of_ble_eq_true rfl) (Nat.le_of_ble_eq_true rfl) (Nat.le_of_ble_eq_true rfl) (Nat.le_of_ble_eq_true rfl) ?_
        exact tv_iret C hQ dk_X9_otherHolder_70 rfl (by rw [f_X9_otherHolder, if_pos h1, if_pos h8, if_neg h9, if_pos h10, if_neg h11]) (by rw [f_X9_otherHolder, if_pos h1, if_pos h8, if_neg h9, if_pos h10, if_neg h11])
      have q35 := q32.1 h11
      refine tv_aload_n C dk_X9_otherHolder_55 rfl ?_
      refine tv_iload_n C dk_X9_otherHolder_56 rfl ?_
      refine tv_iconst (v := 1) C dk_X9_otherHolder_57 (by decide) ?_
      have q36 := q35.2
      refine tv_cV1 C dk_X9_otherHolder_58 ml_RX9_55 yk_X9_of yi_X9_of (m_X9_of _ ((f_X9_isThrown ((f_X9_isThrown M 1 1).2) 0 2).2) x1 1 q35.1) (Nat.le_of_ble_eq_true rfl) rfl rfl rfl rfl (Nat.le_of_ble_eq_true rfl) (Nat.le_of_ble_eq_true rfl) (Nat.le_of_ble_eq_true rfl) (Nat.le_of_ble_eq_true rfl) (Nat.le_of_ble_eq_true rfl) ?_
      refine tv_goto C dk_X9_otherHolder_61 ?_
      exact tv_iret C hQ dk_X9_otherHolder_70 rfl (by rw [f_X9_otherHolder, if_pos h1, if_pos h8, if_neg h9, if_pos h10, if_pos h11]) (by rw [f_X9_otherHolder, if_pos h1, if_pos h8, if_neg h9, if_pos h10, if_pos h11])
    have q37 := q30.2 h10
    refine tv_iconst (v := 0) C dk_X9_otherHolder_43 (by decide) ?_
    exact tv_iret C hQ dk_X9_otherHolder_44 rfl (by rw [f_X9_otherHolder, if_pos h1, if_pos h8, if_neg h9, if_neg h10]) (by rw [f_X9_otherHolder, if_pos h1, if_pos h8, if_neg h9, if_neg h10])
  have q38 := q28.1 h9
  refine tv_iconst (v := 1) C dk_X9_otherHolder_31 (by decide) ?_
  refine tv_goto C dk_X9_otherHolder_32 ?_
  refine tv_iconst (v := 2) C dk_X9_otherHolder_36 (by decide) ?_
  have q39 := q38.2
  refine tv_cV1 C dk_X9_otherHolder_37 ml_RX9_62 yk_X9_isThrown yi_X9_isThrown (m_X9_isThrown _ ((f_X9_isThrown M 1 1).2) 1 2 q38.1) (Nat.le_of_ble_eq_true rfl) rfl rfl rfl rfl (Nat.le_of_ble_eq_true rfl) (Nat.le_of_ble_eq_true rfl) (Nat.le_of_ble_eq_true rfl) (Nat.le_of_ble_eq_true rfl) (Nat.le_of_ble_eq_true rfl) ?_
  refine tv_if_eq C dk_X9_otherHolder_40 (fun h12 => ?_) (fun h12 => ?_)
  · have q40 := q39.1 h12
    refine tv_aload_n C dk_X9_otherHolder_45 rfl ?_
    refine tv_iload_n C dk_X9_otherHolder_46 rfl ?_
    refine tv_iconst (v := 0) C dk_X9_otherHolder_47 (by decide) ?_
    have q41 := q40.2
    refine tv_cV1 C dk_X9_otherHolder_48 ml_RX9_55 yk_X9_of yi_X9_of (m_X9_of _ ((f_X9_isThrown ((f_X9_isThrown M 1 1).2) 1 2).2) x1 0 q40.1) (Nat.le_of_ble_eq_true rfl) rfl rfl rfl rfl (Nat.le_of_ble_eq_true rfl) (Nat.le_of_ble_eq_true rfl) (Nat.le_of_ble_eq_true rfl) (Nat.le_of_ble_eq_true rfl) (Nat.le_of_ble_eq_true rfl) ?_
    refine tv_iload_n C dk_X9_otherHolder_51 rfl ?_
    refine tv_icmp_ne C dk_X9_otherHolder_52 (fun h13 => ?_) (fun h13 => ?_)
    · have q42 := q41.2 h13
      refine tv_aload_n C dk_X9_otherHolder_64 rfl ?_
      refine tv_iload_n C dk_X9_otherHolder_65 rfl ?_
      refine tv_iconst (v := 0) C dk_X9_otherHolder_66 (by decide) ?_
      have q43 := q42.2
      refine tv_cV1 C dk_X9_otherHolder_67 ml_RX9_55 yk_X9_of yi_X9_of (m_X9_of _ ((f_X9_isThrown ((f_X9_isThrown M 1 1).2) 1 2).2) x1 0 q42.1) (Nat.le_of_ble_eq_true rfl) rfl rfl rfl rfl (Nat.le_of_ble_eq_true rfl) (Nat.le_of_ble_eq_true rfl) (Nat.le_of_ble_eq_true rfl) (Nat.le_of_ble_eq_true rfl) (Nat.le_of_ble_eq_true rfl) ?_
      exact tv_iret C hQ dk_X9_otherHolder_70 rfl (by rw [f_X9_otherHolder, if_pos h1, if_pos h8, if_pos h9, if_pos h12, if_neg h13]) (by rw [f_X9_otherHolder, if_pos h1, if_pos h8, if_pos h9, if_pos h12, if_neg h13])
    have q44 := q41.1 h13
    refine tv_aload_n C dk_X9_otherHolder_55 rfl ?_
    refine tv_iload_n C dk_X9_otherHolder_56 rfl ?_
    refine tv_iconst (v := 1) C dk_X9_otherHolder_57 (by decide) ?_
    have q45 := q44.2
    refine tv_cV1 C dk_X9_otherHolder_58 ml_RX9_55 yk_X9_of yi_X9_of (m_X9_of _ ((f_X9_isThrown ((f_X9_isThrown M 1 1).2) 1 2).2) x1 1 q44.1) (Nat.le_of_ble_eq_true rfl) rfl rfl rfl rfl (Nat.le_of_ble_eq_true rfl) (Nat.le_of_ble_eq_true rfl) (Nat.le_of_ble_eq_true rfl) (Nat.le_of_ble_eq_true rfl) (Nat.le_of_ble_eq_true rfl) ?_
    refine tv_goto C dk_X9_otherHolder_61 ?_
    exact tv_iret C hQ dk_X9_otherHolder_70 rfl (by rw [f_X9_otherHolder, if_pos h1, if_pos h8, if_pos h9, if_pos h12, if_pos h13]) (by rw [f_X9_otherHolder, if_pos h1, if_pos h8, if_pos h9, if_pos h12, if_pos h13])
  have q46 := q39.2 h12
  refine tv_iconst (v := 0) C dk_X9_otherHolder_43 (by decide) ?_
  exact tv_iret C hQ dk_X9_otherHolder_44 rfl (by rw [f_X9_otherHolder, if_pos h1, if_pos h8, if_pos h9, if_neg h12]) (by rw [f_X9_otherHolder, if_pos h1, if_pos h8, if_pos h9, if_neg h12])
/-- TideVaultModel.status(I)C -/
def f_X9_status (M : tvM) (x1 : Int32) : Int32 × tvM := (if (f_X9_isBox M x1) = 0 then (if (f_X9_isThrown M 1 1).1 = 0 then (((f_X9_sign ((f_X9_isThrown M 1 1).2) (f_X9_of ((f_X9_isThrown M 1 1).2) x1 3)).toUInt32 % 65536).toInt32, (f_X9_isThrown M 1 1).2) else (0, (f_X9_isThrown M 1 1).2)) else (if (f_X9_isThrown M 0 1).1 = 0 then (((f_X9_sign ((f_X9_isThrown M 0 1).2) (f_X9_of ((f_X9_isThrown M 0 1).2) x1 3)).toUInt32 % 65536).toInt32, (f_X9_isThrown M 0 1).2) else (0, (f_X9_isThrown M 0 1).2)))
def q_X9_status (M : tvM) (x1 : Int32) : Prop := (((f_X9_isBox M x1) = 0 → ((q_X9_isThrown M 1 1) ∧ (((f_X9_isThrown M 1 1).1 = 0 → ((q_X9_of ((f_X9_isThrown M 1 1).2) x1 3) ∧ ((q_X9_sign ((f_X9_isThrown M 1 1).2) (f_X9_of ((f_X9_isThrown M 1 1).2) x1 3)) ∧ True))) ∧ (¬ (f_X9_isThrown M 1 1).1 = 0 → True)))) ∧ (¬ (f_X9_isBox M x1) = 0 → ((q_X9_isThrown M 0 1) ∧ (((f_X9_isThrown M 0 1).1 = 0 → ((q_X9_of ((f_X9_isThrown M 0 1).2) x1 3) ∧ ((q_X9_sign ((f_X9_isThrown M 0 1).2) (f_X9_of ((f_X9_isThrown M 0 1).2) x1 3)) ∧ True))) ∧ (¬ (f_X9_isThrown M 0 1).1 = 0 → True)))))
theorem m_X9_status (G : tvG) (M : tvM) (x1 : Int32) (hq : q_X9_status M x1) : tvRun G yX9_status cX9_status 2 (some .char) 6 0 0 tvP0 tvP0 [.ref (G.2.1 + 249), .int x1] M (.inl (some (.int (f_X9_status M x1).1))) ((f_X9_status M x1).2) := by
  refine tvRun.of yk_X9_status rfl [some (.ref (G.2.1 + 249)), some (.int x1)] rfl (Nat.le_of_ble_eq_true rfl) ?_
  intro E hG C hQ; subst hG
  refine tv_aload_n C dk_X9_status_0 rfl ?_
  refine tv_aload_n C dk_X9_status_1 rfl ?_
  refine tv_iload_n C dk_X9_status_2 rfl ?_
  refine tv_cV1 C dk_X9_status_3 ml_RX9_113 yk_X9_isBox yi_X9_isBox (m_X9_isBox _ M x1) (Nat.le_of_ble_eq_true rfl) rfl rfl rfl rfl (Nat.le_of_ble_eq_true rfl) (Nat.le_of_ble_eq_true rfl) (Nat.le_of_ble_eq_true rfl) (Nat.le_of_ble_eq_true rfl) (Nat.le_of_ble_eq_true rfl) ?_
  refine tv_if_ne C dk_X9_status_6 (fun h1 => ?_) (fun h1 => ?_)
  · have q1 := hq.2 h1
    refine tv_iconst (v := 0) C dk_X9_status_13 (by decide) ?_
    refine tv_iconst (v := 1) C dk_X9_status_14 (by decide) ?_
    have q2 := q1.2
    refine tv_cV1 C dk_X9_status_15 ml_RX9_62 yk_X9_isThrown yi_X9_isThrown (m_X9_isThrown _ M 0 1 q1.1) (Nat.le_of_ble_eq_true rfl) rfl rfl rfl rfl (Nat.le_of_ble_eq_true rfl) (Nat.le_of_ble_eq_true rfl) (Nat.le_of_ble_eq_true rfl) (Nat.le_of_ble_eq_true rfl) (Nat.le_of_ble_eq_true rfl) ?_
    refine tv_if_eq C dk_X9_status_18 (fun h2 => ?_) (fun h2 => ?_)
    · have q3 := q2.1 h2
      refine tv_aload_n C dk_X9_status_25 rfl ?_
      refine tv_iload_n C dk_X9_status_26 rfl ?_
      refine tv_iconst (v := 3) C dk_X9_status_27 (by decide) ?_
      have q4 := q3.2
      refine tv_cV1 C dk_X9_status_28 ml_RX9_55 yk_X9_of yi_X9_of (m_X9_of _ ((f_X9_isThrown M 0 1).2) x1 3 q3.1) (Nat.le_of_ble_eq_true rfl) rfl rfl rfl rfl (Nat.le_of_ble_eq_true rfl) (Nat.le_of_ble_eq_true rfl) (Nat.le_of_ble_eq_true rfl) (Nat.le_of_ble_eq_true rfl) (Nat.le_of_ble_eq_true rfl) ?_
      have q5 := q4.2
      refine tv_cS1 C dk_X9_status_31 ml_RX9_132 yk_X9_sign yi_X9_sign (m_X9_sign _ ((f_X9_isThrown M 0 1).2) (f_X9_of ((f_X9_isThrown M 0 1).2) x1 3) q4.1) rfl rfl (Nat.le_of_ble_eq_true rfl) (Nat.le_of_ble_eq_true rfl) (Nat.le_of_ble_eq_true rfl) (Nat.le_of_ble_eq_true rfl) (Nat.le_of_ble_eq_true rfl) ?_
      refine tv_i2c C dk_X9_status_34 ?_
      exact tv_iret C hQ dk_X9_status_35 (pk_nc _) (by rw [f_X9_status, if_neg h1, if_pos h2]) (by rw [f_X9_status, if_neg h1, if_pos h2])
    have q6 := q2.2 h2
    refine tv_iconst (v := 0) C dk_X9_status_21 (by decide) ?_
    refine tv_goto C dk_X9_status_22 ?_
    exact tv_iret C hQ dk_X9_status_35 rfl (by rw [f_X9_status, if_neg h1, if_neg h2]) (by rw [f_X9_status, if_neg h1, if_neg h2])
  have q7 := hq.1 h1
  refine tv_iconst (v := 1) C dk_X9_status_9 (by decide) ?_
  refine tv_goto C dk_X9_status_10 ?_
  refine tv_iconst (v := 1) C dk_X9_status_14 (by decide) ?_
  have q8 := q7.2
  refine tv_cV1 C dk_X9_status_15 ml_RX9_62 yk_X9_isThrown yi_X9_isThrown (m_X9_isThrown _ M 1 1 q7.1) (Nat.le_of_ble_eq_true rfl) rfl rfl rfl rfl (Nat.le_of_ble_eq_true rfl) (Nat.le_of_ble_eq_true rfl) (Nat.le_of_ble_eq_true rfl) (Nat.le_of_ble_eq_true rfl) (Nat.le_of_ble_eq_true rfl) ?_
  refine tv_if_eq C dk_X9_status_18 (fun h3 => ?_) (fun h3 => ?_)
  · have q9 := q8.1 h3
    refine tv_aload_n C dk_X9_status_25 rfl ?_
    refine tv_iload_n C dk_X9_status_26 rfl ?_
    refine tv_iconst (v := 3) C dk_X9_status_27 (by decide) ?_
    have q10 := q9.2
    refine tv_cV1 C dk_X9_status_28 ml_RX9_55 yk_X9_of yi_X9_of (m_X9_of _ ((f_X9_isThrown M 1 1).2) x1 3 q9.1) (Nat.le_of_ble_eq_true rfl) rfl rfl rfl rfl (Nat.le_of_ble_eq_true rfl) (Nat.le_of_ble_eq_true rfl) (Nat.le_of_ble_eq_true rfl) (Nat.le_of_ble_eq_true rfl) (Nat.le_of_ble_eq_true rfl) ?_
    have q11 := q10.2
    refine tv_cS1 C dk_X9_status_31 ml_RX9_132 yk_X9_sign yi_X9_sign (m_X9_sign _ ((f_X9_isThrown M 1 1).2) (f_X9_of ((f_X9_isThrown M 1 1).2) x1 3) q10.1) rfl rfl (Nat.le_of_ble_eq_true rfl) (Nat.le_of_ble_eq_true rfl) (Nat.le_of_ble_eq_true rfl) (Nat.le_of_ble_eq_true rfl) (Nat.le_of_ble_eq_true rfl) ?_
    refine tv_i2c C dk_X9_status_34 ?_
    exact tv_iret C hQ dk_X9_status_35 (pk_nc _) (by rw [f_X9_status, if_pos h1, if_pos h3]) (by rw [f_X9_status, if_pos h1, if_pos h3])
  have q12 := q8.2 h3
  refine tv_iconst (v := 0) C dk_X9_status_21 (by decide) ?_
  refine tv_goto C dk_X9_status_22 ?_
  exact tv_iret C hQ dk_X9_status_35 rfl (by rw [f_X9_status, if_pos h1, if_neg h3]) (by rw [f_X9_status, if_pos h1, if_neg h3])
theorem fz_X9_status {M : tvM} {x1 : Int32} : narrow .char (.int (f_X9_status M x1).1) = .int ((f_X9_status M x1).1) := by
  unfold f_X9_status; repeat' split
  all_goals try dsimp only
  all_goals first | rfl | exact (pk_nc _)
/-- TideVaultModel.firstHolder(I)I -/
def f_X9_firstHolder (M : tvM) (x1 : Int32) : Int32 × tvM := (if (f_X9_isBox M x1) = 0 then (if (f_X9_isThrown M 1 1).1 = 0 then (if (f_X9_of ((f_X9_isThrown M 1 1).2) x1 3) = 1 then (if (f_X9_isThrown ((f_X9_isThrown M 1 1).2) 0 2).1 = 0 then ((f_X9_of ((f_X9_isThrown ((f_X9_isThrown M 1 1).2) 0 2).2) x1 4), (f_X9_isThrown ((f_X9_isThrown M 1 1).2) 0 2).2) else (0, (f_X9_isThrown ((f_X9_isThrown M 1 1).2) 0 2).2)) else (if (f_X9_isThrown ((f_X9_isThrown M 1 1).2) 1 2).1 = 0 then ((f_X9_of ((f_X9_isThrown ((f_X9_isThrown M 1 1).2) 1 2).2) x1 4), (f_X9_isThrown ((f_X9_isThrown M 1 1).2) 1 2).2) else (0, (f_X9_isThrown ((f_X9_isThrown M 1 1).2) 1 2).2))) else (0, (f_X9_isThrown M 1 1).2)) else (if (f_X9_isThrown M 0 1).1 = 0 then (if (f_X9_of ((f_X9_isThrown M 0 1).2) x1 3) = 1 then (if (f_X9_isThrown ((f_X9_isThrown M 0 1).2) 0 2).1 = 0 then ((f_X9_of ((f_X9_isThrown ((f_X9_isThrown M 0 1).2) 0 2).2) x1 4), (f_X9_isThrown ((f_X9_isThrown M 0 1).2) 0 2).2) else (0, (f_X9_isThrown ((f_X9_isThrown M 0 1).2) 0 2).2)) else (if (f_X9_isThrown ((f_X9_isThrown M 0 1).2) 1 2).1 = 0 then ((f_X9_of ((f_X9_isThrown ((f_X9_isThrown M 0 1).2) 1 2).2) x1 4), (f_X9_isThrown ((f_X9_isThrown M 0 1).2) 1 2).2) else (0, (f_X9_isThrown ((f_X9_isThrown M 0 1).2) 1 2).2))) else (0, (f_X9_isThrown M 0 1).2)))
def q_X9_firstHolder (M : tvM) (x1 : Int32) : Prop := (((f_X9_isBox M x1) = 0 → ((q_X9_isThrown M 1 1) ∧ (((f_X9_isThrown M 1 1).1 = 0 → ((q_X9_of ((f_X9_isThrown M 1 1).2) x1 3) ∧ (((f_X9_of ((f_X9_isThrown M 1 1).2) x1 3) = 1 → ((q_X9_isThrown ((f_X9_isThrown M 1 1).2) 0 2) ∧ (((f_X9_isThrown ((f_X9_isThrown M 1 1).2) 0 2).1 = 0 → ((q_X9_of ((f_X9_isThrown ((f_X9_isThrown M 1 1).2) 0 2).2) x1 4) ∧ True)) ∧ (¬ (f_X9_isThrown ((f_X9_isThrown M 1 1).2) 0 2).1 = 0 → True)))) ∧ (¬ (f_X9_of ((f_X9_isThrown M 1 1).2) x1 3) = 1 → ((q_X9_isThrown ((f_X9_isThrown M 1 1).2) 1 2) ∧ (((f_X9_isThrown ((f_X9_isThrown M 1 1).2) 1 2).1 = 0 → ((q_X9_of ((f_X9_isThrown ((f_X9_isThrown M 1 1).2) 1 2).2) x1 4) ∧ True)) ∧ (¬ (f_X9_isThrown ((f_X9_isThrown M 1 1).2) 1 2).1 = 0 → True))))))) ∧ (¬ (f_X9_isThrown M 1 1).1 = 0 → True)))) ∧ (¬ (f_X9_isBox M x1) = 0 → ((q_X9_isThrown M 0 1) ∧ (((f_X9_isThrown M 0 1).1 = 0 → ((q_X9_of ((f_X9_isThrown M 0 1).2) x1 3) ∧ (((f_X9_of ((f_X9_isThrown M 0 1).2) x1 3) = 1 → ((q_X9_isThrown ((f_X9_isThrown M 0 1).2) 0 2) ∧ (((f_X9_isThrown ((f_X9_isThrown M 0 1).2) 0 2).1 = 0 → ((q_X9_of ((f_X9_isThrown ((f_X9_isThrown M 0 1).2) 0 2).2) x1 4) ∧ True)) ∧ (¬ (f_X9_isThrown ((f_X9_isThrown M 0 1).2) 0 2).1 = 0 → True)))) ∧ (¬ (f_X9_of ((f_X9_isThrown M 0 1).2) x1 3) = 1 → ((q_X9_isThrown ((f_X9_isThrown M 0 1).2) 1 2) ∧ (((f_X9_isThrown ((f_X9_isThrown M 0 1).2) 1 2).1 = 0 → ((q_X9_of ((f_X9_isThrown ((f_X9_isThrown M 0 1).2) 1 2).2) x1 4) ∧ True)) ∧ (¬ (f_X9_isThrown ((f_X9_isThrown M 0 1).2) 1 2).1 = 0 → True))))))) ∧ (¬ (f_X9_isThrown M 0 1).1 = 0 → True)))))
theorem m_X9_firstHolder (G : tvG) (M : tvM) (x1 : Int32) (hq : q_X9_firstHolder M x1) : tvRun G yX9_firstHolder cX9_firstHolder 2 (some .int) 3 0 0 tvP0 tvP0 [.ref (G.2.1 + 249), .int x1] M (.inl (some (.int (f_X9_firstHolder M x1).1))) ((f_X9_firstHolder M x1).2) := by
  refine tvRun.of yk_X9_firstHolder rfl [some (.ref (G.2.1 + 249)), some (.int x1)] rfl (Nat.le_of_ble_eq_true rfl) ?_
  intro E hG C hQ; subst hG
  refine tv_aload_n C dk_X9_firstHolder_0 rfl ?_
  refine tv_aload_n C dk_X9_firstHolder_1 rfl ?_
  refine tv_iload_n C dk_X9_firstHolder_2 rfl ?_
  refine tv_cV1 C dk_X9_firstHolder_3 ml_RX9_113 yk_X9_isBox yi_X9_isBox (m_X9_isBox _ M x1) (Nat.le_of_ble_eq_true rfl) rfl rfl rfl rfl (Nat.le_of_ble_eq_true rfl) (Nat.le_of_ble_eq_true rfl) (Nat.le_of_ble_eq_true rfl) (Nat.le_of_ble_eq_true rfl) (Nat.le_of_ble_eq_true rfl) ?_
  refine tv_if_ne C dk_X9_firstHolder_6 (fun h1 => ?_) (fun h1 => ?_)
  · have q1 := hq.2 h1
    refine tv_iconst (v := 0) C dk_X9_firstHolder_13 (by decide) ?_
    refine tv_iconst (v := 1) C dk_X9_firstHolder_14 (by decide) ?_
    have q2 := q1.2
    refine tv_cV1 C dk_X9_firstHolder_15 ml_RX9_62 yk_X9_isThrown yi_X9_isThrown (m_X9_isThrown _ M 0 1 q1.1) (Nat.le_of_ble_eq_true rfl) rfl rfl rfl rfl (Nat.le_of_ble_eq_true rfl) (Nat.le_of_ble_eq_true rfl) (Nat.le_of_ble_eq_true rfl) (Nat.le_of_ble_eq_true rfl) (Nat.le_of_ble_eq_true rfl) ?_
    refine tv_if_ne C dk_X9_firstHolder_18 (fun h2 => ?_) (fun h2 => ?_)
    · have q3 := q2.2 h2
      refine tv_iconst (v := 0) C dk_X9_firstHolder_44 (by decide) ?_
      refine tv_goto C dk_X9_firstHolder_45 ?_
      exact tv_iret C hQ dk_X9_firstHolder_54 rfl (by rw [f_X9_firstHolder, if_neg h1, if_neg h2]) (by rw [f_X9_firstHolder, if_neg h1, if_neg h2])
    have q4 := q2.1 h2
    refine tv_aload_n C dk_X9_firstHolder_21 rfl ?_
    refine tv_aload_n C dk_X9_firstHolder_22 rfl ?_
    refine tv_iload_n C dk_X9_firstHolder_23 rfl ?_
    refine tv_iconst (v := 3) C dk_X9_firstHolder_24 (by decide) ?_
    have q5 := q4.2
    refine tv_cV1 C dk_X9_firstHolder_25 ml_RX9_55 yk_X9_of yi_X9_of (m_X9_of _ ((f_X9_isThrown M 0 1).2) x1 3 q4.1) (Nat.le_of_ble_eq_true rfl) rfl rfl rfl rfl (Nat.le_of_ble_eq_true rfl) (Nat.le_of_ble_eq_true rfl) (Nat.le_of_ble_eq_true rfl) (Nat.le_of_ble_eq_true rfl) (Nat.le_of_ble_eq_true rfl) ?_
    refine tv_iconst (v := 1) C dk_X9_firstHolder_28 (by decide) ?_
    refine tv_icmp_eq C dk_X9_firstHolder_29 (fun h3 => ?_) (fun h3 => ?_)
    · have q6 := q5.1 h3
      refine tv_iconst (v := 0) C dk_X9_firstHolder_36 (by decide) ?_
      refine tv_iconst (v := 2) C dk_X9_firstHolder_37 (by decide) ?_
      have q7 := q6.2
      refine tv_cV1 C dk_X9_firstHolder_38 ml_RX9_62 yk_X9_isThrown yi_X9_isThrown (m_X9_isThrown _ ((f_X9_isThrown M 0 1).2) 0 2 q6.1) (Nat.le_of_ble_eq_true rfl) rfl rfl rfl rfl (Nat.le_of_ble_eq_true rfl) (Nat.le_of_ble_eq_true rfl) (Nat.le_of_ble_eq_true rfl) (Nat.le_of_ble_eq_true rfl) (Nat.le_of_ble_eq_true rfl) ?_
      refine tv_if_eq C dk_X9_firstHolder_41 (fun h4 => ?_) (fun h4 => ?_)
      · have q8 := q7.1 h4
        refine tv_aload_n C dk_X9_firstHolder_48 rfl ?_
        refine tv_iload_n C dk_X9_firstHolder_49 rfl ?_
        refine tv_iconst (v := 4) C dk_X9_firstHolder_50 (by decide) ?_
        have q9 := q8.2
        refine tv_cV1 C dk_X9_firstHolder_51 ml_RX9_55 yk_X9_of yi_X9_of (m_X9_of _ ((f_X9_isThrown ((f_X9_isThrown M 0 1).2) 0 2).2) x1 4 q8.1) (Nat.le_of_ble_eq_true rfl) rfl rfl rfl rfl (Nat.le_of_ble_eq_true rfl) (Nat.le_of_ble_eq_true rfl) (Nat.le_of_ble_eq_true rfl) (Nat.le_of_ble_eq_true rfl) (Nat.le_of_ble_eq_true rfl) ?_
        exact tv_iret C hQ dk_X9_firstHolder_54 rfl (by rw [f_X9_firstHolder, if_neg h1, if_pos h2, if_pos h3, if_pos h4]) (by rw [f_X9_firstHolder, if_neg h1, if_pos h2, if_pos h3, if_pos h4])
      have q10 := q7.2 h4
      refine tv_iconst (v := 0) C dk_X9_firstHolder_44 (by decide) ?_
      refine tv_goto C dk_X9_firstHolder_45 ?_
      exact tv_iret C hQ dk_X9_firstHolder_54 rfl (by rw [f_X9_firstHolder, if_neg h1, if_pos h2, if_pos h3, if_neg h4]) (by rw [f_X9_firstHolder, if_neg h1, if_pos h2, if_pos h3, if_neg h4])
    have q11 := q5.2 h3
    refine tv_iconst (v := 1) C dk_X9_firstHolder_32 (by decide) ?_
    refine tv_goto C dk_X9_firstHolder_33 ?_
    refine tv_iconst (v := 2) C dk_X9_firstHolder_37 (by decide) ?_
    have q12 := q11.2
    refine tv_cV1 C dk_X9_firstHolder_38 ml_RX9_62 yk_X9_isThrown yi_X9_isThrown (m_X9_isThrown _ ((f_X9_isThrown M 0 1).2) 1 2 q11.1) (Nat.le_of_ble_eq_true rfl) rfl rfl rfl rfl (Nat.le_of_ble_eq_true rfl) (Nat.le_of_ble_eq_true rfl) (Nat.le_of_ble_eq_true rfl) (Nat.le_of_ble_eq_true rfl) (Nat.le_of_ble_eq_true rfl) ?_
    refine tv_if_eq C dk_X9_firstHolder_41 (fun h5 => ?_) (fun h5 => ?_)
    · have q13 := q12.1 h5
      refine tv_aload_n C dk_X9_firstHolder_48 rfl ?_
      refine tv_iload_n C dk_X9_firstHolder_49 rfl ?_
      refine tv_iconst (v := 4) C dk_X9_firstHolder_50 (by decide) ?_
      have q14 := q13.2
      refine tv_cV1 C dk_X9_firstHolder_51 ml_RX9_55 yk_X9_of yi_X9_of (m_X9_of _ ((f_X9_isThrown ((f_X9_isThrown M 0 1).2) 1 2).2) x1 4 q13.1) (Nat.le_of_ble_eq_true rfl) rfl rfl rfl rfl (Nat.le_of_ble_eq_true rfl) (Nat.le_of_ble_eq_true rfl) (Nat.le_of_ble_eq_true rfl) (Nat.le_of_ble_eq_true rfl) (Nat.le_of_ble_eq_true rfl) ?_
      exact tv_iret C hQ dk_X9_firstHolder_54 rfl (by rw [f_X9_firstHolder, if_neg h1, if_pos h2, if_neg h3, if_pos h5]) (by rw [f_X9_firstHolder, if_neg h1, if_pos h2, if_neg h3, if_pos h5])
    have q15 := q12.2 h5
    refine tv_iconst (v := 0) C dk_X9_firstHolder_44 (by decide) ?_
    refine tv_goto C dk_X9_firstHolder_45 ?_
    exact tv_iret C hQ dk_X9_firstHolder_54 rfl (by rw [f_X9_firstHolder, if_neg h1, if_pos h2, if_neg h3, if_neg h5]) (by rw [f_X9_firstHolder, if_neg h1, if_pos h2, if_neg h3, if_neg h5])
  have q16 := hq.1 h1
  refine tv_iconst (v := 1) C dk_X9_firstHolder_9 (by decide) ?_
  refine tv_goto C dk_X9_firstHolder_10 ?_
  refine tv_iconst (v := 1) C dk_X9_firstHolder_14 (by decide) ?_
  have q17 := q16.2
  refine tv_cV1 C dk_X9_firstHolder_15 ml_RX9_62 yk_X9_isThrown yi_X9_isThrown (m_X9_isThrown _ M 1 1 q16.1) (Nat.le_of_ble_eq_true rfl) rfl rfl rfl rfl (Nat.le_of_ble_eq_true rfl) (Nat.le_of_ble_eq_true rfl) (Nat.le_of_ble_eq_true rfl) (Nat.le_of_ble_eq_true rfl) (Nat.le_of_ble_eq_true rfl) ?_
  refine tv_if_ne C dk_X9_firstHolder_18 (fun h6 => ?_) (fun h6 => ?_)
  · have q18 := q17.2 h6
    refine tv_iconst (v := 0) C dk_X9_firstHolder_44 (by decide) ?_
    refine tv_goto C dk_X9_firstHolder_45 ?_
    exact tv_iret C hQ dk_X9_firstHolder_54 rfl (by rw [f_X9_firstHolder, if_pos h1, if_neg h6]) (by rw [f_X9_firstHolder, if_pos h1, if_neg h6])
  have q19 := q17.1 h6
  refine tv_aload_n C dk_X9_firstHolder_21 rfl ?_
  refine tv_aload_n C dk_X9_firstHolder_22 rfl ?_
  refine tv_iload_n C dk_X9_firstHolder_23 rfl ?_
  refine tv_iconst (v := 3) C dk_X9_firstHolder_24 (by decide) ?_
  have q20 := q19.2
  refine tv_cV1 C dk_X9_firstHolder_25 ml_RX9_55 yk_X9_of yi_X9_of (m_X9_of _ ((f_X9_isThrown M 1 1).2) x1 3 q19.1) (Nat.le_of_ble_eq_true rfl) rfl rfl rfl rfl (Nat.le_of_ble_eq_true rfl) (Nat.le_of_ble_eq_true rfl) (Nat.le_of_ble_eq_true rfl) (Nat.le_of_ble_eq_true rfl) (Nat.le_of_ble_eq_true rfl) ?_
  refine tv_iconst (v := 1) C dk_X9_firstHolder_28 (by decide) ?_
  refine tv_icmp_eq C dk_X9_firstHolder_29 (fun h7 => ?_) (fun h7 => ?_)
  · have q21 := q20.1 h7
    refine tv_iconst (v := 0) C dk_X9_firstHolder_36 (by decide) ?_
    refine tv_iconst (v := 2) C dk_X9_firstHolder_37 (by decide) ?_
    have q22 := q21.2
    refine tv_cV1 C dk_X9_firstHolder_38 ml_RX9_62 yk_X9_isThrown yi_X9_isThrown (m_X9_isThrown _ ((f_X9_isThrown M 1 1).2) 0 2 q21.1) (Nat.le_of_ble_eq_true rfl) rfl rfl rfl rfl (Nat.le_of_ble_eq_true rfl) (Nat.le_of_ble_eq_true rfl) (Nat.le_of_ble_eq_true rfl) (Nat.le_of_ble_eq_true rfl) (Nat.le_of_ble_eq_true rfl) ?_
    refine tv_if_eq C dk_X9_firstHolder_41 (fun h8 => ?_) (fun h8 => ?_)
    · have q23 := q22.1 h8
      refine tv_aload_n C dk_X9_firstHolder_48 rfl ?_
      refine tv_iload_n C dk_X9_firstHolder_49 rfl ?_
      refine tv_iconst (v := 4) C dk_X9_firstHolder_50 (by decide) ?_
      have q24 := q23.2
      refine tv_cV1 C dk_X9_firstHolder_51 ml_RX9_55 yk_X9_of yi_X9_of (m_X9_of _ ((f_X9_isThrown ((f_X9_isThrown M 1 1).2) 0 2).2) x1 4 q23.1) (Nat.le_of_ble_eq_true rfl) rfl rfl rfl rfl (Nat.le_of_ble_eq_true rfl) (Nat.le_of_ble_eq_true rfl) (Nat.le_of_ble_eq_true rfl) (Nat.le_of_ble_eq_true rfl) (Nat.le_of_ble_eq_true rfl) ?_
      exact tv_iret C hQ dk_X9_firstHolder_54 rfl (by rw [f_X9_firstHolder, if_pos h1, if_pos h6, if_pos h7, if_pos h8]) (by rw [f_X9_firstHolder, if_pos h1, if_pos h6, if_pos h7, if_pos h8])
    have q25 := q22.2 h8
    refine tv_iconst (v := 0) C dk_X9_firstHolder_44 (by decide) ?_
    refine tv_goto C dk_X9_firstHolder_45 ?_
    exact tv_iret C hQ dk_X9_firstHolder_54 rfl (by rw [f_X9_firstHolder, if_pos h1, if_pos h6, if_pos h7, if_neg h8]) (by rw [f_X9_firstHolder, if_pos h1, if_pos h6, if_pos h7, if_neg h8])
  have q26 := q20.2 h7
  refine tv_iconst (v := 1) C dk_X9_firstHolder_32 (by decide) ?_
  refine tv_goto C dk_X9_firstHolder_33 ?_
  refine tv_iconst (v := 2) C dk_X9_firstHolder_37 (by decide) ?_
  have q27 := q26.2
  refine tv_cV1 C dk_X9_firstHolder_38 ml_RX9_62 yk_X9_isThrown yi_X9_isThrown (m_X9_isThrown _ ((f_X9_isThrown M 1 1).2) 1 2 q26.1) (Nat.le_of_ble_eq_true rfl) rfl rfl rfl rfl (Nat.le_of_ble_eq_true rfl) (Nat.le_of_ble_eq_true rfl) (Nat.le_of_ble_eq_true rfl) (Nat.le_of_ble_eq_true rfl) (Nat.le_of_ble_eq_true rfl) ?_
  refine tv_if_eq C dk_X9_firstHolder_41 (fun h9 => ?_) (fun h9 => ?_)
  · have q28 := q27.1 h9
    refine tv_aload_n C dk_X9_firstHolder_48 rfl ?_
    refine tv_iload_n C dk_X9_firstHolder_49 rfl ?_
    refine tv_iconst (v := 4) C dk_X9_firstHolder_50 (by decide) ?_
    have q29 := q28.2
    refine tv_cV1 C dk_X9_firstHolder_51 ml_RX9_55 yk_X9_of yi_X9_of (m_X9_of _ ((f_X9_isThrown ((f_X9_isThrown M 1 1).2) 1 2).2) x1 4 q28.1) (Nat.le_of_ble_eq_true rfl) rfl rfl rfl rfl (Nat.le_of_ble_eq_true rfl) (Nat.le_of_ble_eq_true rfl) (Nat.le_of_ble_eq_true rfl) (Nat.le_of_ble_eq_true rfl) (Nat.le_of_ble_eq_true rfl) ?_
    exact tv_iret C hQ dk_X9_firstHolder_54 rfl (by rw [f_X9_firstHolder, if_pos h1, if_pos h6, if_neg h7, if_pos h9]) (by rw [f_X9_firstHolder, if_pos h1, if_pos h6, if_neg h7, if_pos h9])
  have q30 := q27.2 h9
  refine tv_iconst (v := 0) C dk_X9_firstHolder_44 (by decide) ?_
  refine tv_goto C dk_X9_firstHolder_45 ?_
  exact tv_iret C hQ dk_X9_firstHolder_54 rfl (by rw [f_X9_firstHolder, if_pos h1, if_pos h6, if_neg h7, if_neg h9]) (by rw [f_X9_firstHolder, if_pos h1, if_pos h6, if_neg h7, if_neg h9])
/-- TideVaultModel.isNotPending(I)Z -/
def f_X9_isNotPending (M : tvM) (x1 : Int32) : Int32 × tvM := (if (f_X9_isBox M x1) = 0 then (if (f_X9_isThrown M 1 1).1 = 0 then (if (f_X9_of ((f_X9_isThrown M 1 1).2) x1 3) = 2 then (if (f_X9_isThrown ((f_X9_isThrown M 1 1).2) 0 2).1 = 0 then (0, (f_X9_isThrown ((f_X9_isThrown M 1 1).2) 0 2).2) else (1, (f_X9_isThrown ((f_X9_isThrown M 1 1).2) 0 2).2)) else (if (f_X9_isThrown ((f_X9_isThrown M 1 1).2) 1 2).1 = 0 then (0, (f_X9_isThrown ((f_X9_isThrown M 1 1).2) 1 2).2) else (1, (f_X9_isThrown ((f_X9_isThrown M 1 1).2) 1 2).2))) else (1, (f_X9_isThrown M 1 1).2)) else (if (f_X9_isThrown M 0 1).1 = 0 then (if (f_X9_of ((f_X9_isThrown M 0 1).2) x1 3) = 2 then (if (f_X9_isThrown ((f_X9_isThrown M 0 1).2) 0 2).1 = 0 then (0, (f_X9_isThrown ((f_X9_isThrown M 0 1).2) 0 2).2) else (1, (f_X9_isThrown ((f_X9_isThrown M 0 1).2) 0 2).2)) else (if (f_X9_isThrown ((f_X9_isThrown M 0 1).2) 1 2).1 = 0 then (0, (f_X9_isThrown ((f_X9_isThrown M 0 1).2) 1 2).2) else (1, (f_X9_isThrown ((f_X9_isThrown M 0 1).2) 1 2).2))) else (1, (f_X9_isThrown M 0 1).2)))
def q_X9_isNotPending (M : tvM) (x1 : Int32) : Prop := (((f_X9_isBox M x1) = 0 → ((q_X9_isThrown M 1 1) ∧ (((f_X9_isThrown M 1 1).1 = 0 → ((q_X9_of ((f_X9_isThrown M 1 1).2) x1 3) ∧ (((f_X9_of ((f_X9_isThrown M 1 1).2) x1 3) = 2 → ((q_X9_isThrown ((f_X9_isThrown M 1 1).2) 0 2) ∧ (((f_X9_isThrown ((f_X9_isThrown M 1 1).2) 0 2).1 = 0 → True) ∧ (¬ (f_X9_isThrown ((f_X9_isThrown M 1 1).2) 0 2).1 = 0 → True)))) ∧ (¬ (f_X9_of ((f_X9_isThrown M 1 1).2) x1 3) = 2 → ((q_X9_isThrown ((f_X9_isThrown M 1 1).2) 1 2) ∧ (((f_X9_isThrown ((f_X9_isThrown M 1 1).2) 1 2).1 = 0 → True) ∧ (¬ (f_X9_isThrown ((f_X9_isThrown M 1 1).2) 1 2).1 = 0 → True))))))) ∧ (¬ (f_X9_isThrown M 1 1).1 = 0 → True)))) ∧ (¬ (f_X9_isBox M x1) = 0 → ((q_X9_isThrown M 0 1) ∧ (((f_X9_isThrown M 0 1).1 = 0 → ((q_X9_of ((f_X9_isThrown M 0 1).2) x1 3) ∧ (((f_X9_of ((f_X9_isThrown M 0 1).2) x1 3) = 2 → ((q_X9_isThrown ((f_X9_isThrown M 0 1).2) 0 2) ∧ (((f_X9_isThrown ((f_X9_isThrown M 0 1).2) 0 2).1 = 0 → True) ∧ (¬ (f_X9_isThrown ((f_X9_isThrown M 0 1).2) 0 2).1 = 0 → True)))) ∧ (¬ (f_X9_of ((f_X9_isThrown M 0 1).2) x1 3) = 2 → ((q_X9_isThrown ((f_X9_isThrown M 0 1).2) 1 2) ∧ (((f_X9_isThrown ((f_X9_isThrown M 0 1).2) 1 2).1 = 0 → True) ∧ (¬ (f_X9_isThrown ((f_X9_isThrown M 0 1).2) 1 2).1 = 0 → True))))))) ∧ (¬ (f_X9_isThrown M 0 1).1 = 0 → True)))))
theorem m_X9_isNotPending (G : tvG) (M : tvM) (x1 : Int32) (hq : q_X9_isNotPending M x1) : tvRun G yX9_isNotPending cX9_isNotPending 2 (some .boolean) 3 0 0 tvP0 tvP0 [.ref (G.2.1 + 249), .int x1] M (.inl (some (.int (f_X9_isNotPending M x1).1))) ((f_X9_isNotPending M x1).2) := by
  refine tvRun.of yk_X9_isNotPending rfl [some (.ref (G.2.1 + 249)), some (.int x1)] rfl (Nat.le_of_ble_eq_true rfl) ?_
  intro E hG C hQ; subst hG
  refine tv_aload_n C dk_X9_isNotPending_0 rfl ?_
  refine tv_aload_n C dk_X9_isNotPending_1 rfl ?_
  refine tv_iload_n C dk_X9_isNotPending_2 rfl ?_
  refine tv_cV1 C dk_X9_isNotPending_3 ml_RX9_113 yk_X9_isBox yi_X9_isBox (m_X9_isBox _ M x1) (Nat.le_of_ble_eq_true rfl) rfl rfl rfl rfl (Nat.le_of_ble_eq_true rfl) (Nat.le_of_ble_eq_true rfl) (Nat.le_of_ble_eq_true rfl) (Nat.le_of_ble_eq_true rfl) (Nat.le_of_ble_eq_true rfl) ?_
  refine tv_if_ne C dk_X9_isNotPending_6 (fun h1 => ?_) (fun h1 => ?_)
  · have q1 := hq.2 h1
    refine tv_iconst (v := 0) C dk_X9_isNotPending_13 (by decide) ?_
    refine tv_iconst (v := 1) C dk_X9_isNotPending_14 (by decide) ?_
    have q2 := q1.2
    refine tv_cV1 C dk_X9_isNotPending_15 ml_RX9_62 yk_X9_isThrown yi_X9_isThrown (m_X9_isThrown _ M 0 1 q1.1) (Nat.le_of_ble_eq_true rfl) rfl rfl rfl rfl (Nat.le_of_ble_eq_true rfl) (Nat.le_of_ble_eq_true rfl) (Nat.le_of_ble_eq_true rfl) (Nat.le_of_ble_eq_true rfl) (Nat.le_of_ble_eq_true rfl) ?_
    refine tv_if_ne C dk_X9_isNotPending_18 (fun h2 => ?_) (fun h2 => ?_)
    · have q3 := q2.2 h2
      refine tv_iconst (v := 1) C dk_X9_isNotPending_44 (by decide) ?_
      refine tv_goto C dk_X9_isNotPending_45 ?_
      exact tv_iret C hQ dk_X9_isNotPending_49 rfl (by rw [f_X9_isNotPending, if_neg h1, if_neg h2]) (by rw [f_X9_isNotPending, if_neg h1, if_neg h2])
    have q4 := q2.1 h2
    refine tv_aload_n C dk_X9_isNotPending_21 rfl ?_
    refine tv_aload_n C dk_X9_isNotPending_22 rfl ?_
    refine tv_iload_n C dk_X9_isNotPending_23 rfl ?_
    refine tv_iconst (v := 3) C dk_X9_isNotPending_24 (by decide) ?_
    have q5 := q4.2
    refine tv_cV1 C dk_X9_isNotPending_25 ml_RX9_55 yk_X9_of yi_X9_of (m_X9_of _ ((f_X9_isThrown M 0 1).2) x1 3 q4.1) (Nat.le_of_ble_eq_true rfl) rfl rfl rfl rfl (Nat.le_of_ble_eq_true rfl) (Nat.le_of_ble_eq_true rfl) (Nat.le_of_ble_eq_true rfl) (Nat.le_of_ble_eq_true rfl) (Nat.le_of_ble_eq_true rfl) ?_
    refine tv_iconst (v := 2) C dk_X9_isNotPending_28 (by decide) ?_
    refine tv_icmp_eq C dk_X9_isNotPending_29 (fun h3 => ?_) (fun h3 => ?_)
    · have q6 := q5.1 h3
      refine tv_iconst (v := 0) C dk_X9_isNotPending_36 (by decide) ?_
      refine tv_iconst (v := 2) C dk_X9_isNotPending_37 (by decide) ?_
      have q7 := q6.2
      refine tv_cV1 C dk_X9_isNotPending_38 ml_RX9_62 yk_X9_isThrown yi_X9_isThrown (m_X9_isThrown _ ((f_X9_isThrown M 0 1).2) 0 2 q6.1) (Nat.le_of_ble_eq_true rfl) rfl rfl rfl rfl (Nat.le_of_ble_eq_true rfl) (Nat.le_of_ble_eq_true rfl) (Nat.le_of_ble_eq_true rfl) (Nat.le_of_ble_eq_true rfl) (Nat.le_of_ble_eq_true rfl) ?_
      refine tv_if_eq C dk_X9_isNotPending_41 (fun h4 => ?_) (fun h4 => ?_)
      · have q8 := q7.1 h4
        refine tv_iconst (v := 0) C dk_X9_isNotPending_48 (by decide) ?_
        exact tv_iret C hQ dk_X9_isNotPending_49 rfl (by rw [f_X9_isNotPending, if_neg h1, if_pos h2, if_pos h3, if_pos h4]) (by rw [f_X9_isNotPending, if_neg h1, if_pos h2, if_pos h3, if_pos h4])
      have q9 := q7.2 h4
      refine tv_iconst (v := 1) C dk_X9_isNotPending_44 (by decide) ?_
      refine tv_goto C dk_X9_isNotPending_45 ?_
      exact tv_iret C hQ dk_X9_isNotPending_49 rfl (by rw [f_X9_isNotPending, if_neg h1, if_pos h2, if_pos h3, if_neg h4]) (by rw [f_X9_isNotPending, if_neg h1, if_pos h2, if_pos h3, if_neg h4])
    have q10 := q5.2 h3
    refine tv_iconst (v := 1) C dk_X9_isNotPending_32 (by decide) ?_
    refine tv_goto C dk_X9_isNotPending_33 ?_
    refine tv_iconst (v := 2) C dk_X9_isNotPending_37 (by decide) ?_
    have q11 := q10.2
    refine tv_cV1 C dk_X9_isNotPending_38 ml_RX9_62 yk_X9_isThrown yi_X9_isThrown (m_X9_isThrown _ ((f_X9_isThrown M 0 1).2) 1 2 q10.1) (Nat.le_of_ble_eq_true rfl) rfl rfl rfl rfl (Nat.le_of_ble_eq_true rfl) (Nat.le_of_ble_eq_true rfl) (Nat.le_of_ble_eq_true rfl) (Nat.le_of_ble_eq_true rfl) (Nat.le_of_ble_eq_true rfl) ?_
    refine tv_if_eq C dk_X9_isNotPending_41 (fun h5 => ?_) (fun h5 => ?_)
    · have q12 := q11.1 h5
      refine tv_iconst (v := 0) C dk_X9_isNotPending_48 (by decide) ?_
      exact tv_iret C hQ dk_X9_isNotPending_49 rfl (by rw [f_X9_isNotPending, if_neg h1, if_pos h2, if_neg h3, if_pos h5]) (by rw [f_X9_isNotPending, if_neg h1, if_pos h2, if_neg h3, if_pos h5])
    have q13 := q11.2 h5
    refine tv_iconst (v := 1) C dk_X9_isNotPending_44 (by decide) ?_
    refine tv_goto C dk_X9_isNotPending_45 ?_
    exact tv_iret C hQ dk_X9_isNotPending_49 rfl (by rw [f_X9_isNotPending, if_neg h1, if_pos h2, if_neg h3, if_neg h5]) (by rw [f_X9_isNotPending, if_neg h1, if_pos h2, if_neg h3, if_neg h5])
  have q14 := hq.1 h1
  refine tv_iconst (v := 1) C dk_X9_isNotPending_9 (by decide) ?_
  refine tv_goto C dk_X9_isNotPending_10 ?_
  refine tv_iconst (v := 1) C dk_X9_isNotPending_14 (by decide) ?_
  have q15 := q14.2
  refine tv_cV1 C dk_X9_isNotPending_15 ml_RX9_62 yk_X9_isThrown yi_X9_isThrown (m_X9_isThrown _ M 1 1 q14.1) (Nat.le_of_ble_eq_true rfl) rfl rfl rfl rfl (Nat.le_of_ble_eq_true rfl) (Nat.le_of_ble_eq_true rfl) (Nat.le_of_ble_eq_true rfl) (Nat.le_of_ble_eq_true rfl) (Nat.le_of_ble_eq_true rfl) ?_
  refine tv_if_ne C dk_X9_isNotPending_18 (fun h6 => ?_) (fun h6 => ?_)
  · have q16 := q15.2 h6
    refine tv_iconst (v := 1) C dk_X9_isNotPending_44 (by decide) ?_
    refine tv_goto C dk_X9_isNotPending_45 ?_
    exact tv_iret C hQ dk_X9_isNotPending_49 rfl (by rw [f_X9_isNotPending, if_pos h1, if_neg h6]) (by rw [f_X9_isNotPending, if_pos h1, if_neg h6])
  have q17 := q15.1 h6
  refine tv_aload_n C dk_X9_isNotPending_21 rfl ?_
  refine tv_aload_n C dk_X9_isNotPending_22 rfl ?_
  refine tv_iload_n C dk_X9_isNotPending_23 rfl ?_
  refine tv_iconst (v := 3) C dk_X9_isNotPending_24 (by decide) ?_
  have q18 := q17.2
  refine tv_cV1 C dk_X9_isNotPending_25 ml_RX9_55 yk_X9_of yi_X9_of (m_X9_of _ ((f_X9_isThrown M 1 1).2) x1 3 q17.1) (Nat.le_of_ble_eq_true rfl) rfl rfl rfl rfl (Nat.le_of_ble_eq_true rfl) (Nat.le_of_ble_eq_true rfl) (Nat.le_of_ble_eq_true rfl) (Nat.le_of_ble_eq_true rfl) (Nat.le_of_ble_eq_true rfl) ?_
  refine tv_iconst (v := 2) C dk_X9_isNotPending_28 (by decide) ?_
  refine tv_icmp_eq C dk_X9_isNotPending_29 (fun h7 => ?_) (fun h7 => ?_)
  · have q19 := q18.1 h7
    refine tv_iconst (v := 0) C dk_X9_isNotPending_36 (by decide) ?_
    refine tv_iconst (v := 2) C dk_X9_isNotPending_37 (by decide) ?_
    have q20 := q19.2
    refine tv_cV1 C dk_X9_isNotPending_38 ml_RX9_62 yk_X9_isThrown yi_X9_isThrown (m_X9_isThrown _ ((f_X9_isThrown M 1 1).2) 0 2 q19.1) (Nat.le_of_ble_eq_true rfl) rfl rfl rfl rfl (Nat.le_of_ble_eq_true rfl) (Nat.le_of_ble_eq_true rfl) (Nat.le_of_ble_eq_true rfl) (Nat.le_of_ble_eq_true rfl) (Nat.le_of_ble_eq_true rfl) ?_
    refine tv_if_eq C dk_X9_isNotPending_41 (fun h8 => ?_) (fun h8 => ?_)
    · have q21 := q20.1 h8
      refine tv_iconst (v := 0) C dk_X9_isNotPending_48 (by decide) ?_
      exact tv_iret C hQ dk_X9_isNotPending_49 rfl (by rw [f_X9_isNotPending, if_pos h1, if_pos h6, if_pos h7, if_pos h8]) (by rw [f_X9_isNotPending, if_pos h1, if_pos h6, if_pos h7, if_pos h8])
    have q22 := q20.2 h8
    refine tv_iconst (v := 1) C dk_X9_isNotPending_44 (by decide) ?_
    refine tv_goto C dk_X9_isNotPending_45 ?_
    exact tv_iret C hQ dk_X9_isNotPending_49 rfl (by rw [f_X9_isNotPending, if_pos h1, if_pos h6, if_pos h7, if_neg h8]) (by rw [f_X9_isNotPending, if_pos h1, if_pos h6, if_pos h7, if_neg h8])
  have q23 := q18.2 h7
  refine tv_iconst (v := 1) C dk_X9_isNotPending_32 (by decide) ?_
  refine tv_goto C dk_X9_isNotPending_33 ?_
  refine tv_iconst (v := 2) C dk_X9_isNotPending_37 (by decide) ?_
  have q24 := q23.2
  refine tv_cV1 C dk_X9_isNotPending_38 ml_RX9_62 yk_X9_isThrown yi_X9_isThrown (m_X9_isThrown _ ((f_X9_isThrown M 1 1).2) 1 2 q23.1) (Nat.le_of_ble_eq_true rfl) rfl rfl rfl rfl (Nat.le_of_ble_eq_true rfl) (Nat.le_of_ble_eq_true rfl) (Nat.le_of_ble_eq_true rfl) (Nat.le_of_ble_eq_true rfl) (Nat.le_of_ble_eq_true rfl) ?_
  refine tv_if_eq C dk_X9_isNotPending_41 (fun h9 => ?_) (fun h9 => ?_)
  · have q25 := q24.1 h9
    refine tv_iconst (v := 0) C dk_X9_isNotPending_48 (by decide) ?_
    exact tv_iret C hQ dk_X9_isNotPending_49 rfl (by rw [f_X9_isNotPending, if_pos h1, if_pos h6, if_neg h7, if_pos h9]) (by rw [f_X9_isNotPending, if_pos h1, if_pos h6, if_neg h7, if_pos h9])
  have q26 := q24.2 h9
  refine tv_iconst (v := 1) C dk_X9_isNotPending_44 (by decide) ?_
  refine tv_goto C dk_X9_isNotPending_45 ?_
  exact tv_iret C hQ dk_X9_isNotPending_49 rfl (by rw [f_X9_isNotPending, if_pos h1, if_pos h6, if_neg h7, if_neg h9]) (by rw [f_X9_isNotPending, if_pos h1, if_pos h6, if_neg h7, if_neg h9])
theorem fz_X9_isNotPending {M : tvM} {x1 : Int32} : narrow .boolean (.int (f_X9_isNotPending M x1).1) = .int ((f_X9_isNotPending M x1).1) := by
  unfold f_X9_isNotPending; repeat' split
  all_goals try dsimp only
  all_goals first | rfl
