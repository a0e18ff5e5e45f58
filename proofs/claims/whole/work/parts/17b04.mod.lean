/-- TideVaultModel.minutesLocked(I)I -/
def f_X9_minutesLocked (M : tvM) (x1 : Int32) : Int32 × tvM := (if (f_X9_isHolder M x1) = 0 then (0, (f_X9_isThrown M 1 1).2) else (if (f_X9_locked ((f_X9_isThrown M 0 1).2) x1) = 0 then (0, (f_X9_isThrown M 0 1).2) else (((f_X9_ofHolder ((f_X9_isThrown M 0 1).2) x1 2) - (tgi ((f_X9_isThrown M 0 1).2) 250 0)), (f_X9_isThrown M 0 1).2)))
def q_X9_minutesLocked (M : tvM) (x1 : Int32) : Prop := (((f_X9_isHolder M x1) = 0 → True) ∧ (¬ (f_X9_isHolder M x1) = 0 → ((q_X9_locked ((f_X9_isThrown M 0 1).2) x1) ∧ (((f_X9_locked ((f_X9_isThrown M 0 1).2) x1) = 0 → True) ∧ (¬ (f_X9_locked ((f_X9_isThrown M 0 1).2) x1) = 0 → ((q_X9_ofHolder ((f_X9_isThrown M 0 1).2) x1 2) ∧ True))))))
theorem m_X9_minutesLocked (G : tvG) (M : tvM) (x1 : Int32) (hq : q_X9_minutesLocked M x1) : tvRun G yX9_minutesLocked cX9_minutesLocked 2 (some .int) 3 0 0 tvP0 tvP0 [.ref (G.2.1 + 249), .int x1] M (.inl (some (.int (f_X9_minutesLocked M x1).1))) ((f_X9_minutesLocked M x1).2) := by
  refine tvRun.of yk_X9_minutesLocked rfl [some (.ref (G.2.1 + 249)), some (.int x1)] rfl (Nat.le_of_ble_eq_true rfl) ?_
  intro E hG C hQ; subst hG
  refine tv_aload_n C dk_X9_minutesLocked_0 rfl ?_
  refine tv_aload_n C dk_X9_minutesLocked_1 rfl ?_
  refine tv_iload_n C dk_X9_minutesLocked_2 rfl ?_
  refine tv_cV1 C dk_X9_minutesLocked_3 ml_RX9_80 yk_X9_isHolder yi_X9_isHolder (m_X9_isHolder _ M x1) (Nat.le_of_ble_eq_true rfl) rfl rfl rfl rfl (Nat.le_of_ble_eq_true rfl) (Nat.le_of_ble_eq_true rfl) (Nat.le_of_ble_eq_true rfl) (Nat.le_of_ble_eq_true rfl) (Nat.le_of_ble_eq_true rfl) ?_
  refine tv_if_ne C dk_X9_minutesLocked_6 (fun h1 => ?_) (fun h1 => ?_)
  · have q1 := hq.2 h1
    refine tv_iconst (v := 0) C dk_X9_minutesLocked_13 (by decide) ?_
    refine tv_iconst (v := 1) C dk_X9_minutesLocked_14 (by decide) ?_
    refine tv_cV1 C dk_X9_minutesLocked_15 ml_RX9_62 yk_X9_isThrown yi_X9_isThrown (m_X9_isThrown _ M 0 1 (tv_qt0 _ _)) (Nat.le_of_ble_eq_true rfl) rfl rfl rfl rfl (Nat.le_of_ble_eq_true rfl) (Nat.le_of_ble_eq_true rfl) (Nat.le_of_ble_eq_true rfl) (Nat.le_of_ble_eq_true rfl) (Nat.le_of_ble_eq_true rfl) ?_
    refine tv_ti (v := 0) rfl ?_
    refine tv_if_ne C dk_X9_minutesLocked_18 (fun h => absurd h (by decide)) (fun _ => ?_)
    refine tv_aload_n C dk_X9_minutesLocked_21 rfl ?_
    refine tv_iload_n C dk_X9_minutesLocked_22 rfl ?_
    have q2 := q1.2
    refine tv_cV1 C dk_X9_minutesLocked_23 ml_RX9_110 yk_X9_locked yi_X9_locked (m_X9_locked _ ((f_X9_isThrown M 0 1).2) x1 q1.1) (Nat.le_of_ble_eq_true rfl) rfl rfl rfl rfl (Nat.le_of_ble_eq_true rfl) (Nat.le_of_ble_eq_true rfl) (Nat.le_of_ble_eq_true rfl) (Nat.le_of_ble_eq_true rfl) (Nat.le_of_ble_eq_true rfl) ?_
    refine tv_if_ne C dk_X9_minutesLocked_26 (fun h2 => ?_) (fun h2 => ?_)
    · have q3 := q2.2 h2
      refine tv_aload_n C dk_X9_minutesLocked_33 rfl ?_
      refine tv_iload_n C dk_X9_minutesLocked_34 rfl ?_
      refine tv_iconst (v := 2) C dk_X9_minutesLocked_35 (by decide) ?_
      have q4 := q3.2
      refine tv_cV1 C dk_X9_minutesLocked_36 ml_RX9_59 yk_X9_ofHolder yi_X9_ofHolder (m_X9_ofHolder _ ((f_X9_isThrown M 0 1).2) x1 2 q3.1) (Nat.le_of_ble_eq_true rfl) rfl rfl rfl rfl (Nat.le_of_ble_eq_true rfl) (Nat.le_of_ble_eq_true rfl) (Nat.le_of_ble_eq_true rfl) (Nat.le_of_ble_eq_true rfl) (Nat.le_of_ble_eq_true rfl) ?_
      refine tv_aload_n C dk_X9_minutesLocked_39 rfl ?_
      refine tv_getR (r := 250) C dk_X9_minutesLocked_40 fl_RX9_9 (Nat.le_of_ble_eq_true rfl) rfl rfl (fun _ _ _ _ => rfl) ?_
      refine tv_iconst (v := 0) C dk_X9_minutesLocked_43 (by decide) ?_
      refine tv_iald (j := 0) rfl C dk_X9_minutesLocked_44 (Nat.le_of_ble_eq_true rfl) rfl (vp_in_nI (n := 0) (by decide) (by decide)) ?_
      refine tv_isub C dk_X9_minutesLocked_45 ?_
      exact tv_iret C hQ dk_X9_minutesLocked_46 rfl (by rw [f_X9_minutesLocked, if_neg h1, if_neg h2]) (by rw [f_X9_minutesLocked, if_neg h1, if_neg h2])
    have q5 := q2.1 h2
    refine tv_iconst (v := 0) C dk_X9_minutesLocked_29 (by decide) ?_
    refine tv_goto C dk_X9_minutesLocked_30 ?_
    exact tv_iret C hQ dk_X9_minutesLocked_46 rfl (by rw [f_X9_minutesLocked, if_neg h1, if_pos h2]) (by rw [f_X9_minutesLocked, if_neg h1, if_pos h2])
  have q6 := hq.1 h1
  refine tv_iconst (v := 1) C dk_X9_minutesLocked_9 (by decide) ?_
  refine tv_goto C dk_X9_minutesLocked_10 ?_
  refine tv_iconst (v := 1) C dk_X9_minutesLocked_14 (by decide) ?_
  refine tv_cV1 C dk_X9_minutesLocked_15 ml_RX9_62 yk_X9_isThrown yi_X9_isThrown (m_X9_isThrown _ M 1 1 (tv_qt1 _ _)) (Nat.le_of_ble_eq_true rfl) rfl rfl rfl rfl (Nat.le_of_ble_eq_true rfl) (Nat.le_of_ble_eq_true rfl) (Nat.le_of_ble_eq_true rfl) (Nat.le_of_ble_eq_true rfl) (Nat.le_of_ble_eq_true rfl) ?_
  refine tv_ti (v := 1) rfl ?_
  refine tv_if_ne C dk_X9_minutesLocked_18 (fun _ => ?_) (fun h => absurd h (by decide))
  refine tv_iconst (v := 0) C dk_X9_minutesLocked_29 (by decide) ?_
  refine tv_goto C dk_X9_minutesLocked_30 ?_
  exact tv_iret C hQ dk_X9_minutesLocked_46 rfl (by rw [f_X9_minutesLocked, if_pos h1]) (by rw [f_X9_minutesLocked, if_pos h1])
/-- TideVaultModel.boxes()I -/
def f_X9_boxes (M : tvM) : Int32 × tvM := ((tgi (tpi M 249 5 0) 250 10), (tpi M 249 5 0))
theorem m_X9_boxes (G : tvG) (M : tvM) : tvRun G yX9_boxes cX9_boxes 1 (some .int) 1 0 0 tvP0 tvP0 [.ref (G.2.1 + 249)] M (.inl (some (.int (f_X9_boxes M).1))) ((f_X9_boxes M).2) := by
  refine tvRun.of yk_X9_boxes rfl [some (.ref (G.2.1 + 249))] rfl (Nat.le_of_ble_eq_true rfl) ?_
  intro E hG C hQ; subst hG
  refine tv_aload_n C dk_X9_boxes_0 rfl ?_
  refine tv_iconst (v := 0) C dk_X9_boxes_1 (by decide) ?_
  refine tv_putI C tvP0_ex dk_X9_boxes_2 fl_RX9_38 fw_9_5 (Nat.le_of_ble_eq_true rfl) rfl rfl (fun _ _ _ _ _ => rfl) rfl rfl ?_
  refine tv_aload_n C dk_X9_boxes_5 rfl ?_
  refine tv_getR (r := 250) C dk_X9_boxes_6 fl_RX9_9 (Nat.le_of_ble_eq_true rfl) rfl rfl (fun _ _ _ _ => rfl) ?_
  refine tv_bipush (v := 10) C dk_X9_boxes_9 (by decide) ?_
  refine tv_iald (j := 10) rfl C dk_X9_boxes_11 (Nat.le_of_ble_eq_true rfl) rfl (vp_in_nI (n := 10) (by decide) (by decide)) ?_
  exact tv_iret C hQ dk_X9_boxes_12 rfl (by rw [f_X9_boxes]) (by rw [f_X9_boxes])
/-- TideVaultModel.otherHolder(II)I -/
def f_X9_otherHolder (M : tvM) (x1 : Int32) (x2 : Int32) : Int32 × tvM := (if (f_X9_isBox M x1) = 0 then (0, (f_X9_isThrown M 1 1).2) else (if (f_X9_isOf ((f_X9_isThrown M 0 1).2) x1 x2) = 0 then (0, (f_X9_isThrown ((f_X9_isThrown M 0 1).2) 1 2).2) else (if (f_X9_of ((f_X9_isThrown ((f_X9_isThrown M 0 1).2) 0 2).2) x1 0) = x2 then ((f_X9_of ((f_X9_isThrown ((f_X9_isThrown M 0 1).2) 0 2).2) x1 1), (f_X9_isThrown ((f_X9_isThrown M 0 1).2) 0 2).2) else ((f_X9_of ((f_X9_isThrown ((f_X9_isThrown M 0 1).2) 0 2).2) x1 0), (f_X9_isThrown ((f_X9_isThrown M 0 1).2) 0 2).2))))
def q_X9_otherHolder (M : tvM) (x1 : Int32) (x2 : Int32) : Prop := (((f_X9_isBox M x1) = 0 → True) ∧ (¬ (f_X9_isBox M x1) = 0 → ((q_X9_isOf ((f_X9_isThrown M 0 1).2) x1 x2) ∧ (((f_X9_isOf ((f_X9_isThrown M 0 1).2) x1 x2) = 0 → True) ∧ (¬ (f_X9_isOf ((f_X9_isThrown M 0 1).2) x1 x2) = 0 → ((q_X9_of ((f_X9_isThrown ((f_X9_isThrown M 0 1).2) 0 2).2) x1 0) ∧ (((f_X9_of ((f_X9_isThrown ((f_X9_isThrown M 0 1).2) 0 2).2) x1 0) = x2 → ((q_X9_of ((f_X9_isThrown ((f_X9_isThrown M 0 1).2) 0 2).2) x1 1) ∧ True)) ∧ (¬ (f_X9_of ((f_X9_isThrown ((f_X9_isThrown M 0 1).2) 0 2).2) x1 0) = x2 → ((q_X9_of ((f_X9_isThrown ((f_X9_isThrown M 0 1).2) 0 2).2) x1 0) ∧ True)))))))))
theorem m_X9_otherHolder (G : tvG) (M : tvM) (x1 : Int32) (x2 : Int32) (hq : q_X9_otherHolder M x1 x2) : tvRun G yX9_otherHolder cX9_otherHolder 3 (some .int) 3 0 0 tvP0 tvP0 [.ref (G.2.1 + 249), .int x1, .int x2] M (.inl (some (.int (f_X9_otherHolder M x1 x2).1))) ((f_X9_otherHolder M x1 x2).2) := by
  refine tvRun.of yk_X9_otherHolder rfl [some (.ref (G.2.1 + 249)), some (.int x1), some (.int x2)] rfl (Nat.le_of_ble_eq_true rfl) ?_
  intro E hG C hQ; subst hG
  refine tv_aload_n C dk_X9_otherHolder_0 rfl ?_
  refine tv_aload_n C dk_X9_otherHolder_1 rfl ?_
  refine tv_iload_n C dk_X9_otherHolder_2 rfl ?_
  refine tv_cV1 C dk_X9_otherHolder_3 ml_RX9_113 yk_X9_isBox yi_X9_isBox (m_X9_isBox _ M x1) (Nat.le_of_ble_eq_true rfl) rfl rfl rfl rfl (Nat.le_of_ble_eq_true rfl) (Nat.le_of_ble_eq_true rfl) (Nat.le_of_ble_eq_true rfl) (Nat.le_of_ble_eq_true rfl) (Nat.le_of_ble_eq_true rfl) ?_
  refine tv_if_ne C dk_X9_otherHolder_6 (fun h1 => ?_) (fun h1 => ?_)
  · have q1 := hq.2 h1
    refine tv_iconst (v := 0) C dk_X9_otherHolder_13 (by decide) ?_
    refine tv_iconst (v := 1) C dk_X9_otherHolder_14 (by decide) ?_
    refine tv_cV1 C dk_X9_otherHolder_15 ml_RX9_62 yk_X9_isThrown yi_X9_isThrown (m_X9_isThrown _ M 0 1 (tv_qt0 _ _)) (Nat.le_of_ble_eq_true rfl) rfl rfl rfl rfl (Nat.le_of_ble_eq_true rfl) (Nat.le_of_ble_eq_true rfl) (Nat.le_of_ble_eq_true rfl) (Nat.le_of_ble_eq_true rfl) (Nat.le_of_ble_eq_true rfl) ?_
    refine tv_ti (v := 0) rfl ?_
    refine tv_if_ne C dk_X9_otherHolder_18 (fun h => absurd h (by decide)) (fun _ => ?_)
    refine tv_aload_n C dk_X9_otherHolder_21 rfl ?_
    refine tv_aload_n C dk_X9_otherHolder_22 rfl ?_
    refine tv_iload_n C dk_X9_otherHolder_23 rfl ?_
    refine tv_iload_n C dk_X9_otherHolder_24 rfl ?_
    have q2 := q1.2
    refine tv_cV1 C dk_X9_otherHolder_25 ml_RX9_116 yk_X9_isOf yi_X9_isOf (m_X9_isOf _ ((f_X9_isThrown M 0 1).2) x1 x2 q1.1) (Nat.le_of_ble_eq_true rfl) rfl rfl rfl rfl (Nat.le_of_ble_eq_true rfl) (Nat.le_of_ble_eq_true rfl) (Nat.le_of_ble_eq_true rfl) (Nat.le_of_ble_eq_true rfl) (Nat.le_of_ble_eq_true rfl) ?_
    refine tv_if_ne C dk_X9_otherHolder_28 (fun h2 => ?_) (fun h2 => ?_)
    · have q3 := q2.2 h2
      refine tv_iconst (v := 0) C dk_X9_otherHolder_35 (by decide) ?_
      refine tv_iconst (v := 2) C dk_X9_otherHolder_36 (by decide) ?_
      refine tv_cV1 C dk_X9_otherHolder_37 ml_RX9_62 yk_X9_isThrown yi_X9_isThrown (m_X9_isThrown _ ((f_X9_isThrown M 0 1).2) 0 2 (tv_qt0 _ _)) (Nat.le_of_ble_eq_true rfl) rfl rfl rfl rfl (Nat.le_of_ble_eq_true rfl) (Nat.le_of_ble_eq_true rfl) (Nat.le_of_ble_eq_true rfl) (Nat.le_of_ble_eq_true rfl) (Nat.le_of_ble_eq_true rfl) ?_
      refine tv_ti (v := 0) rfl ?_
      refine tv_if_eq C dk_X9_otherHolder_40 (fun _ => ?_) (fun h => absurd h (by decide))
      refine tv_aload_n C dk_X9_otherHolder_45 rfl ?_
      refine tv_iload_n C dk_X9_otherHolder_46 rfl ?_
      refine tv_iconst (v := 0) C dk_X9_otherHolder_47 (by decide) ?_
      have q4 := q3.2
      refine tv_cV1 C dk_X9_otherHolder_48 ml_RX9_55 yk_X9_of yi_X9_of (m_X9_of _ ((f_X9_isThrown ((f_X9_isThrown M 0 1).2) 0 2).2) x1 0 q3.1) (Nat.le_of_ble_eq_true rfl) rfl rfl rfl rfl (Nat.le_of_ble_eq_true rfl) (Nat.le_of_ble_eq_true rfl) (Nat.le_of_ble_eq_true rfl) (Nat.le_of_ble_eq_true rfl) (Nat.le_of_ble_eq_true rfl) ?_
      refine tv_iload_n C dk_X9_otherHolder_51 rfl ?_
      refine tv_icmp_ne C dk_X9_otherHolder_52 (fun h3 => ?_) (fun h3 => ?_)
      · have q5 := q4.2 h3
        refine tv_aload_n C dk_X9_otherHolder_64 rfl ?_
        refine tv_iload_n C dk_X9_otherHolder_65 rfl ?_
        refine tv_iconst (v := 0) C dk_X9_otherHolder_66 (by decide) ?_
        have q6 := q5.2
        refine tv_cV1 C dk_X9_otherHolder_67 ml_RX9_55 yk_X9_of yi_X9_of (m_X9_of _ ((f_X9_isThrown ((f_X9_isThrown M 0 1).2) 0 2).2) x1 0 q5.1) (Nat.le_of_ble_eq_true rfl) rfl rfl rfl rfl (Nat.le_of_ble_eq_true rfl) (Nat.le_of_ble_eq_true rfl) (Nat.le_of_ble_eq_true rfl) (Nat.le_of_ble_eq_true rfl) (Nat.le_of_ble_eq_true rfl) ?_
        exact tv_iret C hQ dk_X9_otherHolder_70 rfl (by rw [f_X9_otherHolder, if_neg h1, if_neg h2, if_neg h3]) (by rw [f_X9_otherHolder, if_neg h1, if_neg h2, if_neg h3])
      have q7 := q4.1 h3
      refine tv_aload_n C dk_X9_otherHolder_55 rfl ?_
      refine tv_iload_n C dk_X9_otherHolder_56 rfl ?_
      refine tv_iconst (v := 1) C dk_X9_otherHolder_57 (by decide) ?_
      have q8 := q7.2
      refine tv_cV1 C dk_X9_otherHolder_58 ml_RX9_55 yk_X9_of yi_X9_of (m_X9_of _ ((f_X9_isThrown ((f_X9_isThrown M 0 1).2) 0 2).2) x1 1 q7.1) (Nat.le_of_ble_eq_true rfl) rfl rfl rfl rfl (Nat.le_of_ble_eq_true rfl) (Nat.le_of_ble_eq_true rfl) (Nat.le_of_ble_eq_true rfl) (Nat.le_of_ble_eq_true rfl) (Nat.le_of_ble_eq_true rfl) ?_
      refine tv_goto C dk_X9_otherHolder_61 ?_
      exact tv_iret C hQ dk_X9_otherHolder_70 rfl (by rw [f_X9_otherHolder, if_neg h1, if_neg h2, if_pos h3]) (by rw [f_X9_otherHolder, if_neg h1, if_neg h2, if_pos h3])
    have q9 := q2.1 h2
    refine tv_iconst (v := 1) C dk_X9_otherHolder_31 (by decide) ?_
    refine tv_goto C dk_X9_otherHolder_32 ?_
    refine tv_iconst (v := 2) C dk_X9_otherHolder_36 (by decide) ?_
    refine tv_cV1 C dk_X9_otherHolder_37 ml_RX9_62 yk_X9_isThrown yi_X9_isThrown (m_X9_isThrown _ ((f_X9_isThrown M 0 1).2) 1 2 (tv_qt1 _ _)) (Nat.le_of_ble_eq_true rfl) rfl rfl rfl rfl (Nat.le_of_ble_eq_true rfl) (Nat.le_of_ble_eq_true rfl) (Nat.le_of_ble_eq_true rfl) (Nat.le_of_ble_eq_true rfl) (Nat.le_of_ble_eq_true rfl) ?_
    refine tv_ti (v := 1) rfl ?_
    refine tv_if_eq C dk_X9_otherHolder_40 (fun h => absurd h (by decide)) (fun _ => ?_)
    refine tv_iconst (v := 0) C dk_X9_otherHolder_43 (by decide) ?_
    exact tv_iret C hQ dk_X9_otherHolder_44 rfl (by rw [f_X9_otherHolder, if_neg h1, if_pos h2]) (by rw [f_X9_otherHolder, if_neg h1, if_pos h2])
  have q10 := hq.1 h1
  refine tv_iconst (v := 1) C dk_X9_otherHolder_9 (by decide) ?_
  refine tv_goto C dk_X9_otherHolder_10 ?_
  refine tv_iconst (v := 1) C dk_X9_otherHolder_14 (by decide) ?_
  refine tv_cV1 C dk_X9_otherHolder_15 ml_RX9_62 yk_X9_isThrown yi_X9_isThrown (m_X9_isThrown _ M 1 1 (tv_qt1 _ _)) (Nat.le_of_ble_eq_true rfl) rfl rfl rfl rfl (Nat.le_of_ble_eq_true rfl) (Nat.le_of_ble_eq_true rfl) (Nat.le_of_ble_eq_true rfl) (Nat.le_of_ble_eq_true rfl) (Nat.le_of_ble_eq_true rfl) ?_
  refine tv_ti (v := 1) rfl ?_
  refine tv_if_ne C dk_X9_otherHolder_18 (fun _ => ?_) (fun h => absurd h (by decide))
  refine tv_iconst (v := 0) C dk_X9_otherHolder_43 (by decide) ?_
  exact tv_iret C hQ dk_X9_otherHolder_44 rfl (by rw [f_X9_otherHolder, if_pos h1]) (by rw [f_X9_otherHolder, if_pos h1])
/-- TideVaultModel.status(I)C -/
def f_X9_status (M : tvM) (x1 : Int32) : Int32 × tvM := (if (f_X9_isBox M x1) = 0 then (0, (f_X9_isThrown M 1 1).2) else (((f_X9_sign ((f_X9_isThrown M 0 1).2) (f_X9_of ((f_X9_isThrown M 0 1).2) x1 3)).toUInt32 % 65536).toInt32, (f_X9_isThrown M 0 1).2))
def q_X9_status (M : tvM) (x1 : Int32) : Prop := (((f_X9_isBox M x1) = 0 → True) ∧ (¬ (f_X9_isBox M x1) = 0 → ((q_X9_of ((f_X9_isThrown M 0 1).2) x1 3) ∧ ((q_X9_sign ((f_X9_isThrown M 0 1).2) (f_X9_of ((f_X9_isThrown M 0 1).2) x1 3)) ∧ True))))
theorem m_X9_status (G : tvG) (M : tvM) (x1 : Int32) (hq : q_X9_status M x1) : tvRun G yX9_status cX9_status 2 (some .char) 6 0 0 tvP0 tvP0 [.ref (G.2.1 + 249), .int x1] M (.inl (some (.int (f_X9_status M x1).1))) ((f_X9_status M x1).2) := by
  refine tvRun.of yk_X9_status rfl [some (.ref (G.2.1 + 249)), some (.int x1)] rfl (Nat.le_of_ble_eq_true rfl) ?_
  intro E hG C hQ; subst hG
  refine tv_aload_n C dk_X9_status_0 rfl ?_
  refine tv_aload_n C dk_X9_status_1 rfl ?_
  refine tv_iload_n C dk_X9_status_2 rfl ?_
  refine tv_cV1 C dk_X9_status_3 ml_RX9_113 yk_X9_isBox yi_X9_isBox (m_X9_isBox _ M x1) (Nat.le_of_ble_eq_true rfl) rfl rfl rfl rfl (Nat.le_of_ble_eq_true rfl) (Nat.le_of_ble_eq_true rfl) (Nat.le_of_ble_eq_true rfl) (Nat.le_of_ble_eq_true rfl) (Nat.le_of_ble_eq_true rfl) ?_
  refine tv_if_ne C dk_X9_status_6 (fun h1 => ?_) (fun h1 => ?_)
  · have q1 := hq.2 h1
    refine tv_iconst (v := 0) C dk_X9_status_13 (by decide) ?_
    refine tv_iconst (v := 1) C dk_X9_status_14 (by decide) ?_
    refine tv_cV1 C dk_X9_status_15 ml_RX9_62 yk_X9_isThrown yi_X9_isThrown (m_X9_isThrown _ M 0 1 (tv_qt0 _ _)) (Nat.le_of_ble_eq_true rfl) rfl rfl rfl rfl (Nat.le_of_ble_eq_true rfl) (Nat.le_of_ble_eq_true rfl) (Nat.le_of_ble_eq_true rfl) (Nat.le_of_ble_eq_true rfl) (Nat.le_of_ble_eq_true rfl) ?_
    refine tv_ti (v := 0) rfl ?_
    refine tv_if_eq C dk_X9_status_18 (fun _ => ?_) (fun h => absurd h (by decide))
    refine tv_aload_n C dk_X9_status_25 rfl ?_
    refine tv_iload_n C dk_X9_status_26 rfl ?_
    refine tv_iconst (v := 3) C dk_X9_status_27 (by decide) ?_
    have q2 := q1.2
    refine tv_cV1 C dk_X9_status_28 ml_RX9_55 yk_X9_of yi_X9_of (m_X9_of _ ((f_X9_isThrown M 0 1).2) x1 3 q1.1) (Nat.le_of_ble_eq_true rfl) rfl rfl rfl rfl (Nat.le_of_ble_eq_true rfl) (Nat.le_of_ble_eq_true rfl) (Nat.le_of_ble_eq_true rfl) (Nat.le_of_ble_eq_true rfl) (Nat.le_of_ble_eq_true rfl) ?_
    have q3 := q2.2
    refine tv_cS1 C dk_X9_status_31 ml_RX9_132 yk_X9_sign yi_X9_sign (m_X9_sign _ ((f_X9_isThrown M 0 1).2) (f_X9_of ((f_X9_isThrown M 0 1).2) x1 3) q2.1) rfl rfl (Nat.le_of_ble_eq_true rfl) (Nat.le_of_ble_eq_true rfl) (Nat.le_of_ble_eq_true rfl) (Nat.le_of_ble_eq_true rfl) (Nat.le_of_ble_eq_true rfl) ?_
    refine tv_i2c C dk_X9_status_34 ?_
    exact tv_iret C hQ dk_X9_status_35 (pk_nc _) (by rw [f_X9_status, if_neg h1]) (by rw [f_X9_status, if_neg h1])
  have q4 := hq.1 h1
  refine tv_iconst (v := 1) C dk_X9_status_9 (by decide) ?_
  refine tv_goto C dk_X9_status_10 ?_
  refine tv_iconst (v := 1) C dk_X9_status_14 (by decide) ?_
  refine tv_cV1 C dk_X9_status_15 ml_RX9_62 yk_X9_isThrown yi_X9_isThrown (m_X9_isThrown _ M 1 1 (tv_qt1 _ _)) (Nat.le_of_ble_eq_true rfl) rfl rfl rfl rfl (Nat.le_of_ble_eq_true rfl) (Nat.le_of_ble_eq_true rfl) (Nat.le_of_ble_eq_true rfl) (Nat.le_of_ble_eq_true rfl) (Nat.le_of_ble_eq_true rfl) ?_
  refine tv_ti (v := 1) rfl ?_
  refine tv_if_eq C dk_X9_status_18 (fun h => absurd h (by decide)) (fun _ => ?_)
  refine tv_iconst (v := 0) C dk_X9_status_21 (by decide) ?_
  refine tv_goto C dk_X9_status_22 ?_
  exact tv_iret C hQ dk_X9_status_35 rfl (by rw [f_X9_status, if_pos h1]) (by rw [f_X9_status, if_pos h1])
theorem fz_X9_status {M : tvM} {x1 : Int32} : narrow .char (.int (f_X9_status M x1).1) = .int ((f_X9_status M x1).1) := by
  unfold f_X9_status; repeat' split
  all_goals try dsimp only
  all_goals first | rfl | exact (pk_nc _)
/-- TideVaultModel.firstHolder(I)I -/
def f_X9_firstHolder (M : tvM) (x1 : Int32) : Int32 × tvM := (if (f_X9_isBox M x1) = 0 then (0, (f_X9_isThrown M 1 1).2) else (if (f_X9_of ((f_X9_isThrown M 0 1).2) x1 3) = 1 then ((f_X9_of ((f_X9_isThrown ((f_X9_isThrown M 0 1).2) 0 2).2) x1 4), (f_X9_isThrown ((f_X9_isThrown M 0 1).2) 0 2).2) else (0, (f_X9_isThrown ((f_X9_isThrown M 0 1).2) 1 2).2)))
def q_X9_firstHolder (M : tvM) (x1 : Int32) : Prop := (((f_X9_isBox M x1) = 0 → True) ∧ (¬ (f_X9_isBox M x1) = 0 → ((q_X9_of ((f_X9_isThrown M 0 1).2) x1 3) ∧ (((f_X9_of ((f_X9_isThrown M 0 1).2) x1 3) = 1 → ((q_X9_of ((f_X9_isThrown ((f_X9_isThrown M 0 1).2) 0 2).2) x1 4) ∧ True)) ∧ (¬ (f_X9_of ((f_X9_isThrown M 0 1).2) x1 3) = 1 → True)))))
theorem m_X9_firstHolder (G : tvG) (M : tvM) (x1 : Int32) (hq : q_X9_firstHolder M x1) : tvRun G yX9_firstHolder cX9_firstHolder 2 (some .int) 3 0 0 tvP0 tvP0 [.ref (G.2.1 + 249), .int x1] M (.inl (some (.int (f_X9_firstHolder M x1).1))) ((f_X9_firstHolder M x1).2) := by
  refine tvRun.of yk_X9_firstHolder rfl [some (.ref (G.2.1 + 249)), some (.int x1)] rfl (Nat.le_of_ble_eq_true rfl) ?_
  intro E hG C hQ; subst hG
  refine tv_aload_n C dk_X9_firstHolder_0 rfl ?_
  refine tv_aload_n C dk_X9_firstHolder_1 rfl ?_
  refine tv_iload_n C dk_X9_firstHolder_2 rfl ?_
  refine tv_cV1 C dk_X9_firstHolder_3 ml_RX9_113 yk_X9_isBox yi_X9_isBox (m_X9_isBox _ M x1) (Nat.le_of_ble_eq_true rfl) rfl rfl rfl rfl (Nat.le_of_ble_eq_true rfl) (Nat.le_of_ble_eq_true rfl) (Nat.le_of_ble_eq_true rfl) (Nat.le_of_ble_eq_true rfl) (Nat.le_of_ble_eq_true rfl) ?_
  refine tv_if_ne C dk_X9_firstHolder_6 (fun h1 => ?_) (fun h1 => ?_)
  · have q1 := hq.2 h1
    refine tv_iconst (v := 0) C dk_X9_firstHolder_13 (by decide) ?_
    refine tv_iconst (v := 1) C dk_X9_firstHolder_14 (by decide) ?_
    refine tv_cV1 C dk_X9_firstHolder_15 ml_RX9_62 yk_X9_isThrown yi_X9_isThrown (m_X9_isThrown _ M 0 1 (tv_qt0 _ _)) (Nat.le_of_ble_eq_true rfl) rfl rfl rfl rfl (Nat.le_of_ble_eq_true rfl) (Nat.le_of_ble_eq_true rfl) (Nat.le_of_ble_eq_true rfl) (Nat.le_of_ble_eq_true rfl) (Nat.le_of_ble_eq_true rfl) ?_
    refine tv_ti (v := 0) rfl ?_
    refine tv_if_ne C dk_X9_firstHolder_18 (fun h => absurd h (by decide)) (fun _ => ?_)
    refine tv_aload_n C dk_X9_firstHolder_21 rfl ?_
    refine tv_aload_n C dk_X9_firstHolder_22 rfl ?_
    refine tv_iload_n C dk_X9_firstHolder_23 rfl ?_
    refine tv_iconst (v := 3) C dk_X9_firstHolder_24 (by decide) ?_
    have q2 := q1.2
    refine tv_cV1 C dk_X9_firstHolder_25 ml_RX9_55 yk_X9_of yi_X9_of (m_X9_of _ ((f_X9_isThrown M 0 1).2) x1 3 q1.1) (Nat.le_of_ble_eq_true rfl) rfl rfl rfl rfl (Nat.le_of_ble_eq_true rfl) (Nat.le_of_ble_eq_true rfl) (Nat.le_of_ble_eq_true rfl) (Nat.le_of_ble_eq_true rfl) (Nat.le_of_ble_eq_true rfl) ?_
    refine tv_iconst (v := 1) C dk_X9_firstHolder_28 (by decide) ?_
    refine tv_icmp_eq C dk_X9_firstHolder_29 (fun h2 => ?_) (fun h2 => ?_)
    · have q3 := q2.1 h2
      refine tv_iconst (v := 0) C dk_X9_firstHolder_36 (by decide) ?_
      refine tv_iconst (v := 2) C dk_X9_firstHolder_37 (by decide) ?_
      refine tv_cV1 C dk_X9_firstHolder_38 ml_RX9_62 yk_X9_isThrown yi_X9_isThrown (m_X9_isThrown _ ((f_X9_isThrown M 0 1).2) 0 2 (tv_qt0 _ _)) (Nat.le_of_ble_eq_true rfl) rfl rfl rfl rfl (Nat.le_of_ble_eq_true rfl) (Nat.le_of_ble_eq_true rfl) (Nat.le_of_ble_eq_true rfl) (Nat.le_of_ble_eq_true rfl) (Nat.le_of_ble_eq_true rfl) ?_
      refine tv_ti (v := 0) rfl ?_
      refine tv_if_eq C dk_X9_firstHolder_41 (fun _ => ?_) (fun h => absurd h (by decide))
      refine tv_aload_n C dk_X9_firstHolder_48 rfl ?_
      refine tv_iload_n C dk_X9_firstHolder_49 rfl ?_
      refine tv_iconst (v := 4) C dk_X9_firstHolder_50 (by decide) ?_
      have q4 := q3.2
      refine tv_cV1 C dk_X9_firstHolder_51 ml_RX9_55 yk_X9_of yi_X9_of (m_X9_of _ ((f_X9_isThrown ((f_X9_isThrown M 0 1).2) 0 2).2) x1 4 q3.1) (Nat.le_of_ble_eq_true rfl) rfl rfl rfl rfl (Nat.le_of_ble_eq_true rfl) (Nat.le_of_ble_eq_true rfl) (Nat.le_of_ble_eq_true rfl) (Nat.le_of_ble_eq_true rfl) (Nat.le_of_ble_eq_true rfl) ?_
      exact tv_iret C hQ dk_X9_firstHolder_54 rfl (by rw [f_X9_firstHolder, if_neg h1, if_pos h2]) (by rw [f_X9_firstHolder, if_neg h1, if_pos h2])
    have q5 := q2.2 h2
    refine tv_iconst (v := 1) C dk_X9_firstHolder_32 (by decide) ?_
    refine tv_goto C dk_X9_firstHolder_33 ?_
    refine tv_iconst (v := 2) C dk_X9_firstHolder_37 (by decide) ?_
    refine tv_cV1 C dk_X9_firstHolder_38 ml_RX9_62 yk_X9_isThrown yi_X9_isThrown (m_X9_isThrown _ ((f_X9_isThrown M 0 1).2) 1 2 (tv_qt1 _ _)) (Nat.le_of_ble_eq_true rfl) rfl rfl rfl rfl (Nat.le_of_ble_eq_true rfl) (Nat.le_of_ble_eq_true rfl) (Nat.le_of_ble_eq_true rfl) (Nat.le_of_ble_eq_true rfl) (Nat.le_of_ble_eq_true rfl) ?_
    refine tv_ti (v := 1) rfl ?_
    refine tv_if_eq C dk_X9_firstHolder_41 (fun h => absurd h (by decide)) (fun _ => ?_)
    refine tv_iconst (v := 0) C dk_X9_firstHolder_44 (by decide) ?_
    refine tv_goto C dk_X9_firstHolder_45 ?_
    exact tv_iret C hQ dk_X9_firstHolder_54 rfl (by rw [f_X9_firstHolder, if_neg h1, if_neg h2]) (by rw [f_X9_firstHolder, if_neg h1, if_neg h2])
  have q6 := hq.1 h1
  refine tv_iconst (v := 1) C dk_X9_firstHolder_9 (by decide) ?_
  refine tv_goto C dk_X9_firstHolder_10 ?_
  refine tv_iconst (v := 1) C dk_X9_firstHolder_14 (by decide) ?_
  refine tv_cV1 C dk_X9_firstHolder_15 ml_RX9_62 yk_X9_isThrown yi_X9_isThrown (m_X9_isThrown _ M 1 1 (tv_qt1 _ _)) (Nat.le_of_ble_eq_true rfl) rfl rfl rfl rfl (Nat.le_of_ble_eq_true rfl) (Nat.le_of_ble_eq_true rfl) (Nat.le_of_ble_eq_true rfl) (Nat.le_of_ble_eq_true rfl) (Nat.le_of_ble_eq_true rfl) ?_
  refine tv_ti (v := 1) rfl ?_
  refine tv_if_ne C dk_X9_firstHolder_18 (fun _ => ?_) (fun h => absurd h (by decide))
  refine tv_iconst (v := 0) C dk_X9_firstHolder_44 (by decide) ?_
  refine tv_goto C dk_X9_firstHolder_45 ?_
  exact tv_iret C hQ dk_X9_firstHolder_54 rfl (by rw [f_X9_firstHolder, if_pos h1]) (by rw [f_X9_firstHolder, if_pos h1])
/-- TideVaultModel.isNotPending(I)Z -/
def f_X9_isNotPending (M : tvM) (x1 : Int32) : Int32 × tvM := (if (f_X9_isBox M x1) = 0 then (1, (f_X9_isThrown M 1 1).2) else (if (f_X9_of ((f_X9_isThrown M 0 1).2) x1 3) = 2 then (0, (f_X9_isThrown ((f_X9_isThrown M 0 1).2) 0 2).2) else (1, (f_X9_isThrown ((f_X9_isThrown M 0 1).2) 1 2).2)))
def q_X9_isNotPending (M : tvM) (x1 : Int32) : Prop := (((f_X9_isBox M x1) = 0 → True) ∧ (¬ (f_X9_isBox M x1) = 0 → ((q_X9_of ((f_X9_isThrown M 0 1).2) x1 3) ∧ (((f_X9_of ((f_X9_isThrown M 0 1).2) x1 3) = 2 → True) ∧ (¬ (f_X9_of ((f_X9_isThrown M 0 1).2) x1 3) = 2 → True)))))
theorem m_X9_isNotPending (G : tvG) (M : tvM) (x1 : Int32) (hq : q_X9_isNotPending M x1) : tvRun G yX9_isNotPending cX9_isNotPending 2 (some .boolean) 3 0 0 tvP0 tvP0 [.ref (G.2.1 + 249), .int x1] M (.inl (some (.int (f_X9_isNotPending M x1).1))) ((f_X9_isNotPending M x1).2) := by
  refine tvRun.of yk_X9_isNotPending rfl [some (.ref (G.2.1 + 249)), some (.int x1)] rfl (Nat.le_of_ble_eq_true rfl) ?_
  intro E hG C hQ; subst hG
  refine tv_aload_n C dk_X9_isNotPending_0 rfl ?_
  refine tv_aload_n C dk_X9_isNotPending_1 rfl ?_
  refine tv_iload_n C dk_X9_isNotPending_2 rfl ?_
  refine tv_cV1 C dk_X9_isNotPending_3 ml_RX9_113 yk_X9_isBox yi_X9_isBox (m_X9_isBox _ M x1) (Nat.le_of_ble_eq_true rfl) rfl rfl rfl rfl (Nat.le_of_ble_eq_true rfl) (Nat.le_of_ble_eq_true rfl) (Nat.le_of_ble_eq_true rfl) (Nat.le_of_ble_eq_true rfl) (Nat.le_of_ble_eq_true rfl) ?_
  refine tv_if_ne C dk_X9_isNotPending_6 (fun h1 => ?_) (fun h1 => ?_)
  · have q1 := hq.2 h1
    refine tv_iconst (v := 0) C dk_X9_isNotPending_13 (by decide) ?_
    refine tv_iconst (v := 1) C dk_X9_isNotPending_14 (by decide) ?_
    refine tv_cV1 C dk_X9_isNotPending_15 ml_RX9_62 yk_X9_isThrown yi_X9_isThrown (m_X9_isThrown _ M 0 1 (tv_qt0 _ _)) (Nat.le_of_ble_eq_true rfl) rfl rfl rfl rfl (Nat.le_of_ble_eq_true rfl) (Nat.le_of_ble_eq_true rfl) (Nat.le_of_ble_eq_true rfl) (Nat.le_of_ble_eq_true rfl) (Nat.le_of_ble_eq_true rfl) ?_
    refine tv_ti (v := 0) rfl ?_
    refine tv_if_ne C dk_X9_isNotPending_18 (fun h => absurd h (by decide)) (fun _ => ?_)
    refine tv_aload_n C dk_X9_isNotPending_21 rfl ?_
    refine tv_aload_n C dk_X9_isNotPending_22 rfl ?_
    refine tv_iload_n C dk_X9_isNotPending_23 rfl ?_
    refine tv_iconst (v := 3) C dk_X9_isNotPending_24 (by decide) ?_
    have q2 := q1.2
    refine tv_cV1 C dk_X9_isNotPending_25 ml_RX9_55 yk_X9_of yi_X9_of (m_X9_of _ ((f_X9_isThrown M 0 1).2) x1 3 q1.1) (Nat.le_of_ble_eq_true rfl) rfl rfl rfl rfl (Nat.le_of_ble_eq_true rfl) (Nat.le_of_ble_eq_true rfl) (Nat.le_of_ble_eq_true rfl) (Nat.le_of_ble_eq_true rfl) (Nat.le_of_ble_eq_true rfl) ?_
    refine tv_iconst (v := 2) C dk_X9_isNotPending_28 (by decide) ?_
    refine tv_icmp_eq C dk_X9_isNotPending_29 (fun h2 => ?_) (fun h2 => ?_)
    · have q3 := q2.1 h2
      refine tv_iconst (v := 0) C dk_X9_isNotPending_36 (by decide) ?_
      refine tv_iconst (v := 2) C dk_X9_isNotPending_37 (by decide) ?_
      refine tv_cV1 C dk_X9_isNotPending_38 ml_RX9_62 yk_X9_isThrown yi_X9_isThrown (m_X9_isThrown _ ((f_X9_isThrown M 0 1).2) 0 2 (tv_qt0 _ _)) (Nat.le_of_ble_eq_true rfl) rfl rfl rfl rfl (Nat.le_of_ble_eq_true rfl) (Nat.le_of_ble_eq_true rfl) (Nat.le_of_ble_eq_true rfl) (Nat.le_of_ble_eq_true rfl) (Nat.le_of_ble_eq_true rfl) ?_
      refine tv_ti (v := 0) rfl ?_
      refine tv_if_eq C dk_X9_isNotPending_41 (fun _ => ?_) (fun h => absurd h (by decide))
      refine tv_iconst (v := 0) C dk_X9_isNotPending_48 (by decide) ?_
      exact tv_iret C hQ dk_X9_isNotPending_49 rfl (by rw [f_X9_isNotPending, if_neg h1, if_pos h2]) (by rw [f_X9_isNotPending, if_neg h1, if_pos h2])
    have q4 := q2.2 h2
    refine tv_iconst (v := 1) C dk_X9_isNotPending_32 (by decide) ?_
    refine tv_goto C dk_X9_isNotPending_33 ?_
    refine tv_iconst (v := 2) C dk_X9_isNotPending_37 (by decide) ?_
    refine tv_cV1 C dk_X9_isNotPending_38 ml_RX9_62 yk_X9_isThrown yi_X9_isThrown (m_X9_isThrown _ ((f_X9_isThrown M 0 1).2) 1 2 (tv_qt1 _ _)) (Nat.le_of_ble_eq_true rfl) rfl rfl rfl rfl (Nat.le_of_ble_eq_true rfl) (Nat.le_of_ble_eq_true rfl) (Nat.le_of_ble_eq_true rfl) (Nat.le_of_ble_eq_true rfl) (Nat.le_of_ble_eq_true rfl) ?_
    refine tv_ti (v := 1) rfl ?_
    refine tv_if_eq C dk_X9_isNotPending_41 (fun h => absurd h (by decide)) (fun _ => ?_)
    refine tv_iconst (v := 1) C dk_X9_isNotPending_44 (by decide) ?_
    refine tv_goto C dk_X9_isNotPending_45 ?_
    exact tv_iret C hQ dk_X9_isNotPending_49 rfl (by rw [f_X9_isNotPending, if_neg h1, if_neg h2]) (by rw [f_X9_isNotPending, if_neg h1, if_neg h2])
  have q5 := hq.1 h1
  refine tv_iconst (v := 1) C dk_X9_isNotPending_9 (by decide) ?_
  refine tv_goto C dk_X9_isNotPending_10 ?_
  refine tv_iconst (v := 1) C dk_X9_isNotPending_14 (by decide) ?_
  refine tv_cV1 C dk_X9_isNotPending_15 ml_RX9_62 yk_X9_isThrown yi_X9_isThrown (m_X9_isThrown _ M 1 1 (tv_qt1 _ _)) (Nat.le_of_ble_eq_true rfl) rfl rfl rfl rfl (Nat.le_of_ble_eq_true rfl) (Nat.le_of_ble_eq_true rfl) (Nat.le_of_ble_eq_true rfl) (Nat.le_of_ble_eq_true rfl) (Nat.le_of_ble_eq_true rfl) ?_
  refine tv_ti (v := 1) rfl ?_
  refine tv_if_ne C dk_X9_isNotPending_18 (fun _ => ?_) (fun h => absurd h (by decide))
  refine tv_iconst (v := 1) C dk_X9_isNotPending_44 (by decide) ?_
  refine tv_goto C dk_X9_isNotPending_45 ?_
  exact tv_iret C hQ dk_X9_isNotPending_49 rfl (by rw [f_X9_isNotPending, if_pos h1]) (by rw [f_X9_isNotPending, if_pos h1])
theorem fz_X9_isNotPending {M : tvM} {x1 : Int32} : narrow .boolean (.int (f_X9_isNotPending M x1).1) = .int ((f_X9_isNotPending M x1).1) := by
  unfold f_X9_isNotPending; repeat' split
  all_goals try dsimp only
  all_goals first | rfl
