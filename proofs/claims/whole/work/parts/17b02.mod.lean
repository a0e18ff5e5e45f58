/-- TideVaultModel.rings(I)V -/
def f_X9_rings (M : tvM) (x1 : Int32) : tvM := (if ((tgi M 250 3) + x1) ≤ 99 then (tpi M 250 3 ((tgi M 250 3) + x1)) else (tpi M 250 3 99))
theorem m_X9_rings (G : tvG) (M : tvM) (x1 : Int32) : tvRun G yX9_rings cX9_rings 2 none 1 0 0 tvP0 tvP0 [.ref (G.2.1 + 249), .int x1] M (.inl none) (f_X9_rings M x1) := by
  refine tvRun.of yk_X9_rings rfl [some (.ref (G.2.1 + 249)), some (.int x1)] rfl (Nat.le_of_ble_eq_true rfl) ?_
  intro E hG C hQ; subst hG
  refine tv_aload_n C dk_X9_rings_0 rfl ?_
  refine tv_getR (r := 250) C dk_X9_rings_1 fl_RX9_9 (Nat.le_of_ble_eq_true rfl) rfl rfl (fun _ _ _ _ => rfl) ?_
  refine tv_iconst (v := 3) C dk_X9_rings_4 (by decide) ?_
  refine tv_aload_n C dk_X9_rings_5 rfl ?_
  refine tv_getR (r := 250) C dk_X9_rings_6 fl_RX9_9 (Nat.le_of_ble_eq_true rfl) rfl rfl (fun _ _ _ _ => rfl) ?_
  refine tv_iconst (v := 3) C dk_X9_rings_9 (by decide) ?_
  refine tv_iald (j := 3) rfl C dk_X9_rings_10 (Nat.le_of_ble_eq_true rfl) rfl (vp_in_nI (n := 3) (by decide) (by decide)) ?_
  refine tv_iload_n C dk_X9_rings_11 rfl ?_
  refine tv_iadd C dk_X9_rings_12 ?_
  refine tv_bipush (v := 99) C dk_X9_rings_13 (by decide) ?_
  refine tv_icmp_le C dk_X9_rings_15 (fun h1 => ?_) (fun h1 => ?_)
  · refine tv_aload_n C dk_X9_rings_23 rfl ?_
    refine tv_getR (r := 250) C dk_X9_rings_24 fl_RX9_9 (Nat.le_of_ble_eq_true rfl) rfl rfl (fun _ _ _ _ => rfl) ?_
    refine tv_iconst (v := 3) C dk_X9_rings_27 (by decide) ?_
    refine tv_iald (j := 3) rfl C dk_X9_rings_28 (Nat.le_of_ble_eq_true rfl) rfl (vp_in_nI (n := 3) (by decide) (by decide)) ?_
    refine tv_iload_n C dk_X9_rings_29 rfl ?_
    refine tv_iadd C dk_X9_rings_30 ?_
    refine tv_iast (j := 3) rfl C tvP0_ex dk_X9_rings_31 (Nat.le_of_ble_eq_true rfl) rfl (vp_in_nI (n := 3) (by decide) (by decide)) ?_
    exact tv_vret C hQ dk_X9_rings_32 rfl (by rw [f_X9_rings, if_pos h1])
  refine tv_bipush (v := 99) C dk_X9_rings_18 (by decide) ?_
  refine tv_goto C dk_X9_rings_20 ?_
  refine tv_iast (j := 3) rfl C tvP0_ex dk_X9_rings_31 (Nat.le_of_ble_eq_true rfl) rfl (vp_in_nI (n := 3) (by decide) (by decide)) ?_
  exact tv_vret C hQ dk_X9_rings_32 rfl (by rw [f_X9_rings, if_neg h1])
/-- TideVaultModel.holds(I)I -/
def f_X9_holds (M : tvM) (x1 : Int32) : Int32 × tvM := (if (f_X9_isIn M x1 0 999) = 0 then (if (f_X9_isThrown M 1 1).1 = 0 then (if (tgi ((f_X9_isThrown M 1 1).2) 250 9) = 8 then (if (f_X9_isThrown ((f_X9_isThrown M 1 1).2) 1 2).1 = 0 then (((tgi (tpi (f_X9_setsHolder ((f_X9_isThrown ((f_X9_isThrown M 1 1).2) 1 2).2) (tgi ((f_X9_isThrown ((f_X9_isThrown M 1 1).2) 1 2).2) 250 9) 0 x1) 250 9 ((tgi (f_X9_setsHolder ((f_X9_isThrown ((f_X9_isThrown M 1 1).2) 1 2).2) (tgi ((f_X9_isThrown ((f_X9_isThrown M 1 1).2) 1 2).2) 250 9) 0 x1) 250 9) + 1)) 250 9) - 1), (tpi (f_X9_setsHolder ((f_X9_isThrown ((f_X9_isThrown M 1 1).2) 1 2).2) (tgi ((f_X9_isThrown ((f_X9_isThrown M 1 1).2) 1 2).2) 250 9) 0 x1) 250 9 ((tgi (f_X9_setsHolder ((f_X9_isThrown ((f_X9_isThrown M 1 1).2) 1 2).2) (tgi ((f_X9_isThrown ((f_X9_isThrown M 1 1).2) 1 2).2) 250 9) 0 x1) 250 9) + 1))) else (0, (f_X9_isThrown ((f_X9_isThrown M 1 1).2) 1 2).2)) else (if (f_X9_isThrown ((f_X9_isThrown M 1 1).2) 0 2).1 = 0 then (((tgi (tpi (f_X9_setsHolder ((f_X9_isThrown ((f_X9_isThrown M 1 1).2) 0 2).2) (tgi ((f_X9_isThrown ((f_X9_isThrown M 1 1).2) 0 2).2) 250 9) 0 x1) 250 9 ((tgi (f_X9_setsHolder ((f_X9_isThrown ((f_X9_isThrown M 1 1).2) 0 2).2) (tgi ((f_X9_isThrown ((f_X9_isThrown M 1 1).2) 0 2).2) 250 9) 0 x1) 250 9) + 1)) 250 9) - 1), (tpi (f_X9_setsHolder ((f_X9_isThrown ((f_X9_isThrown M 1 1).2) 0 2).2) (tgi ((f_X9_isThrown ((f_X9_isThrown M 1 1).2) 0 2).2) 250 9) 0 x1) 250 9 ((tgi (f_X9_setsHolder ((f_X9_isThrown ((f_X9_isThrown M 1 1).2) 0 2).2) (tgi ((f_X9_isThrown ((f_X9_isThrown M 1 1).2) 0 2).2) 250 9) 0 x1) 250 9) + 1))) else (0, (f_X9_isThrown ((f_X9_isThrown M 1 1).2) 0 2).2))) else (0, (f_X9_isThrown M 1 1).2)) else (if (f_X9_isThrown M 0 1).1 = 0 then (if (tgi ((f_X9_isThrown M 0 1).2) 250 9) = 8 then (if (f_X9_isThrown ((f_X9_isThrown M 0 1).2) 1 2).1 = 0 then (((tgi (tpi (f_X9_setsHolder ((f_X9_isThrown ((f_X9_isThrown M 0 1).2) 1 2).2) (tgi ((f_X9_isThrown ((f_X9_isThrown M 0 1).2) 1 2).2) 250 9) 0 x1) 250 9 ((tgi (f_X9_setsHolder ((f_X9_isThrown ((f_X9_isThrown M 0 1).2) 1 2).2) (tgi ((f_X9_isThrown ((f_X9_isThrown M 0 1).2) 1 2).2) 250 9) 0 x1) 250 9) + 1)) 250 9) - 1), (tpi (f_X9_setsHolder ((f_X9_isThrown ((f_X9_isThrown M 0 1).2) 1 2).2) (tgi ((f_X9_isThrown ((f_X9_isThrown M 0 1).2) 1 2).2) 250 9) 0 x1) 250 9 ((tgi (f_X9_setsHolder ((f_X9_isThrown ((f_X9_isThrown M 0 1).2) 1 2).2) (tgi ((f_X9_isThrown ((f_X9_isThrown M 0 1).2) 1 2).2) 250 9) 0 x1) 250 9) + 1))) else (0, (f_X9_isThrown ((f_X9_isThrown M 0 1).2) 1 2).2)) else (if (f_X9_isThrown ((f_X9_isThrown M 0 1).2) 0 2).1 = 0 then (((tgi (tpi (f_X9_setsHolder ((f_X9_isThrown ((f_X9_isThrown M 0 1).2) 0 2).2) (tgi ((f_X9_isThrown ((f_X9_isThrown M 0 1).2) 0 2).2) 250 9) 0 x1) 250 9 ((tgi (f_X9_setsHolder ((f_X9_isThrown ((f_X9_isThrown M 0 1).2) 0 2).2) (tgi ((f_X9_isThrown ((f_X9_isThrown M 0 1).2) 0 2).2) 250 9) 0 x1) 250 9) + 1)) 250 9) - 1), (tpi (f_X9_setsHolder ((f_X9_isThrown ((f_X9_isThrown M 0 1).2) 0 2).2) (tgi ((f_X9_isThrown ((f_X9_isThrown M 0 1).2) 0 2).2) 250 9) 0 x1) 250 9 ((tgi (f_X9_setsHolder ((f_X9_isThrown ((f_X9_isThrown M 0 1).2) 0 2).2) (tgi ((f_X9_isThrown ((f_X9_isThrown M 0 1).2) 0 2).2) 250 9) 0 x1) 250 9) + 1))) else (0, (f_X9_isThrown ((f_X9_isThrown M 0 1).2) 0 2).2))) else (0, (f_X9_isThrown M 0 1).2)))
def q_X9_holds (M : tvM) (x1 : Int32) : Prop := (((f_X9_isIn M x1 0 999) = 0 → ((q_X9_isThrown M 1 1) ∧ (((f_X9_isThrown M 1 1).1 = 0 → (((tgi ((f_X9_isThrown M 1 1).2) 250 9) = 8 → ((q_X9_isThrown ((f_X9_isThrown M 1 1).2) 1 2) ∧ (((f_X9_isThrown ((f_X9_isThrown M 1 1).2) 1 2).1 = 0 → ((q_X9_setsHolder ((f_X9_isThrown ((f_X9_isThrown M 1 1).2) 1 2).2) (tgi ((f_X9_isThrown ((f_X9_isThrown M 1 1).2) 1 2).2) 250 9) 0 x1) ∧ True)) ∧ (¬ (f_X9_isThrown ((f_X9_isThrown M 1 1).2) 1 2).1 = 0 → True)))) ∧ (¬ (tgi ((f_X9_isThrown M 1 1).2) 250 9) = 8 → ((q_X9_isThrown ((f_X9_isThrown M 1 1).2) 0 2) ∧ (((f_X9_isThrown ((f_X9_isThrown M 1 1).2) 0 2).1 = 0 → ((q_X9_setsHolder ((f_X9_isThrown ((f_X9_isThrown M 1 1).2) 0 2).2) (tgi ((f_X9_isThrown ((f_X9_isThrown M 1 1).2) 0 2).2) 250 9) 0 x1) ∧ True)) ∧ (¬ (f_X9_isThrown ((f_X9_isThrown M 1 1).2) 0 2).1 = 0 → True)))))) ∧ (¬ (f_X9_isThrown M 1 1).1 = 0 → True)))) ∧ (¬ (f_X9_isIn M x1 0 999) = 0 → ((q_X9_isThrown M 0 1) ∧ (((f_X9_isThrown M 0 1).1 = 0 → (((tgi ((f_X9_isThrown M 0 1).2) 250 9) = 8 → ((q_X9_isThrown ((f_X9_isThrown M 0 1).2) 1 2) ∧ (((f_X9_isThrown ((f_X9_isThrown M 0 1).2) 1 2).1 = 0 → ((q_X9_setsHolder ((f_X9_isThrown ((f_X9_isThrown M 0 1).2) 1 2).2) (tgi ((f_X9_isThrown ((f_X9_isThrown M 0 1).2) 1 2).2) 250 9) 0 x1) ∧ True)) ∧ (¬ (f_X9_isThrown ((f_X9_isThrown M 0 1).2) 1 2).1 = 0 → True)))) ∧ (¬ (tgi ((f_X9_isThrown M 0 1).2) 250 9) = 8 → ((q_X9_isThrown ((f_X9_isThrown M 0 1).2) 0 2) ∧ (((f_X9_isThrown ((f_X9_isThrown M 0 1).2) 0 2).1 = 0 → ((q_X9_setsHolder ((f_X9_isThrown ((f_X9_isThrown M 0 1).2) 0 2).2) (tgi ((f_X9_isThrown ((f_X9_isThrown M 0 1).2) 0 2).2) 250 9) 0 x1) ∧ True)) ∧ (¬ (f_X9_isThrown ((f_X9_isThrown M 0 1).2) 0 2).1 = 0 → True)))))) ∧ (¬ (f_X9_isThrown M 0 1).1 = 0 → True)))))
theorem m_X9_holds (G : tvG) (M : tvM) (x1 : Int32) (hq : q_X9_holds M x1) : tvRun G yX9_holds cX9_holds 2 (some .int) 2 0 0 tvP0 tvP0 [.ref (G.2.1 + 249), .int x1] M (.inl (some (.int (f_X9_holds M x1).1))) ((f_X9_holds M x1).2) := by
  refine tvRun.of yk_X9_holds rfl [some (.ref (G.2.1 + 249)), some (.int x1)] rfl (Nat.le_of_ble_eq_true rfl) ?_
  intro E hG C hQ; subst hG
  refine tv_aload_n C dk_X9_holds_0 rfl ?_
  refine tv_iload_n C dk_X9_holds_1 rfl ?_
  refine tv_iconst (v := 0) C dk_X9_holds_2 (by decide) ?_
  refine tv_sipush (v := 999) C dk_X9_holds_3 (by decide) ?_
  refine tv_cS1 C dk_X9_holds_6 ml_RX9_51 yk_X9_isIn yi_X9_isIn (m_X9_isIn _ M x1 0 999) rfl rfl (Nat.le_of_ble_eq_true rfl) (Nat.le_of_ble_eq_true rfl) (Nat.le_of_ble_eq_true rfl) (Nat.le_of_ble_eq_true rfl) (Nat.le_of_ble_eq_true rfl) ?_
  refine tv_if_ne C dk_X9_holds_9 (fun h1 => ?_) (fun h1 => ?_)
  · have q1 := hq.2 h1
    refine tv_iconst (v := 0) C dk_X9_holds_16 (by decide) ?_
    refine tv_iconst (v := 1) C dk_X9_holds_17 (by decide) ?_
    have q2 := q1.2
    refine tv_cV1 C dk_X9_holds_18 ml_RX9_62 yk_X9_isThrown yi_X9_isThrown (m_X9_isThrown _ M 0 1 q1.1) (Nat.le_of_ble_eq_true rfl) rfl rfl rfl rfl (Nat.le_of_ble_eq_true rfl) (Nat.le_of_ble_eq_true rfl) (Nat.le_of_ble_eq_true rfl) (Nat.le_of_ble_eq_true rfl) (Nat.le_of_ble_eq_true rfl) ?_
    refine tv_if_ne C dk_X9_holds_21 (fun h2 => ?_) (fun h2 => ?_)
    · have q3 := q2.2 h2
      refine tv_iconst (v := 0) C dk_X9_holds_49 (by decide) ?_
      exact tv_iret C hQ dk_X9_holds_50 rfl (by rw [f_X9_holds, if_neg h1, if_neg h2]) (by rw [f_X9_holds, if_neg h1, if_neg h2])
    have q4 := q2.1 h2
    refine tv_aload_n C dk_X9_holds_24 rfl ?_
    refine tv_aload_n C dk_X9_holds_25 rfl ?_
    refine tv_getR (r := 250) C dk_X9_holds_26 fl_RX9_9 (Nat.le_of_ble_eq_true rfl) rfl rfl (fun _ _ _ _ => rfl) ?_
    refine tv_bipush (v := 9) C dk_X9_holds_29 (by decide) ?_
    refine tv_iald (j := 9) rfl C dk_X9_holds_31 (Nat.le_of_ble_eq_true rfl) rfl (vp_in_nI (n := 9) (by decide) (by decide)) ?_
    refine tv_bipush (v := 8) C dk_X9_holds_32 (by decide) ?_
    refine tv_icmp_ne C dk_X9_holds_34 (fun h3 => ?_) (fun h3 => ?_)
    · have q5 := q4.2 h3
      refine tv_iconst (v := 0) C dk_X9_holds_41 (by decide) ?_
      refine tv_iconst (v := 2) C dk_X9_holds_42 (by decide) ?_
      have q6 := q5.2
      refine tv_cV1 C dk_X9_holds_43 ml_RX9_62 yk_X9_isThrown yi_X9_isThrown (m_X9_isThrown _ ((f_X9_isThrown M 0 1).2) 0 2 q5.1) (Nat.le_of_ble_eq_true rfl) rfl rfl rfl rfl (Nat.le_of_ble_eq_true rfl) (Nat.le_of_ble_eq_true rfl) (Nat.le_of_ble_eq_true rfl) (Nat.le_of_ble_eq_true rfl) (Nat.le_of_ble_eq_true rfl) ?_
      refine tv_if_eq C dk_X9_holds_46 (fun h4 => ?_) (fun h4 => ?_)
      · have q7 := q6.1 h4
        refine tv_aload_n C dk_X9_holds_51 rfl ?_
        refine tv_aload_n C dk_X9_holds_52 rfl ?_
        refine tv_getR (r := 250) C dk_X9_holds_53 fl_RX9_9 (Nat.le_of_ble_eq_true rfl) rfl rfl (fun _ _ _ _ => rfl) ?_
        refine tv_bipush (v := 9) C dk_X9_holds_56 (by decide) ?_
        refine tv_iald (j := 9) rfl C dk_X9_holds_58 (Nat.le_of_ble_eq_true rfl) rfl (vp_in_nI (n := 9) (by decide) (by decide)) ?_
        refine tv_iconst (v := 0) C dk_X9_holds_59 (by decide) ?_
        refine tv_iload_n C dk_X9_holds_60 rfl ?_
        have q8 := q7.2
        refine tv_cV0 C dk_X9_holds_61 ml_RX9_66 yk_X9_setsHolder yi_X9_setsHolder (m_X9_setsHolder _ ((f_X9_isThrown ((f_X9_isThrown M 0 1).2) 0 2).2) (tgi ((f_X9_isThrown ((f_X9_isThrown M 0 1).2) 0 2).2) 250 9) 0 x1 q7.1) (Nat.le_of_ble_eq_true rfl) rfl rfl rfl rfl (Nat.le_of_ble_eq_true rfl) (Nat.le_of_ble_eq_true rfl) (Nat.le_of_ble_eq_true rfl) (Nat.le_of_ble_eq_true rfl) (Nat.le_of_ble_eq_true rfl) ?_
        refine tv_aload_n C dk_X9_holds_64 rfl ?_
        refine tv_getR (r := 250) C dk_X9_holds_65 fl_RX9_9 (Nat.le_of_ble_eq_true rfl) rfl rfl (fun _ _ _ _ => rfl) ?_
        refine tv_bipush (v := 9) C dk_X9_holds_68 (by decide) ?_
        refine tv_dup2 C dk_X9_holds_70 rfl rfl ?_
        refine tv_iald (j := 9) rfl C dk_X9_holds_71 (Nat.le_of_ble_eq_true rfl) rfl (vp_in_nI (n := 9) (by decide) (by decide)) ?_
        refine tv_iconst (v := 1) C dk_X9_holds_72 (by decide) ?_
        refine tv_iadd C dk_X9_holds_73 ?_
        refine tv_iast (j := 9) rfl C tvP0_ex dk_X9_holds_74 (Nat.le_of_ble_eq_true rfl) rfl (vp_in_nI (n := 9) (by decide) (by decide)) ?_
        refine tv_aload_n C dk_X9_holds_75 rfl ?_
        refine tv_getR (r := 250) C dk_X9_holds_76 fl_RX9_9 (Nat.le_of_ble_eq_true rfl) rfl rfl (fun _ _ _ _ => rfl) ?_
        refine tv_bipush (v := 9) C dk_X9_holds_79 (by decide) ?_
        refine tv_iald (j := 9) rfl C dk_X9_holds_81 (Nat.le_of_ble_eq_true rfl) rfl (vp_in_nI (n := 9) (by decide) (by decide)) ?_
        refine tv_iconst (v := 1) C dk_X9_holds_82 (by decide) ?_
        refine tv_isub C dk_X9_holds_83 ?_
        exact tv_iret C hQ dk_X9_holds_84 rfl (by rw [f_X9_holds, if_neg h1, if_pos h2, if_neg h3, if_pos h4]) (by rw [f_X9_holds, if_neg h1, if_pos h2, if_neg h3, if_pos h4])
      have q9 := q6.2 h4
      refine tv_iconst (v := 0) C dk_X9_holds_49 (by decide) ?_
      exact tv_iret C hQ dk_X9_holds_50 rfl (by rw [f_X9_holds, if_neg h1, if_pos h2, if_neg h3, if_neg h4]) (by rw [f_X9_holds, if_neg h1, if_pos h2, if_neg h3, if_neg h4])
    have q10 := q4.1 h3
    refine tv_iconst (v := 1) C dk_X9_holds_37 (by decide) ?_
    refine tv_goto C dk_X9_holds_38 ?_
    refine tv_iconst (v := 2) C dk_X9_holds_42 (by decide) ?_
    have q11 := q10.2
    refine tv_cV1 C dk_X9_holds_43 ml_RX9_62 yk_X9_isThrown yi_X9_isThrown (m_X9_isThrown _ ((f_X9_isThrown M 0 1).2) 1 2 q10.1) (Nat.le_of_ble_eq_true rfl) rfl rfl rfl rfl (Nat.le_of_ble_eq_true rfl) (Nat.le_of_ble_eq_true rfl) (Nat.le_of_ble_eq_true rfl) (Nat.le_of_ble_eq_true rfl) (Nat.le_of_ble_eq_true rfl) ?_
    refine tv_if_eq C dk_X9_holds_46 (fun h5 => ?_) (fun h5 => ?_)
    · have q12 := q11.1 h5
      refine tv_aload_n C dk_X9_holds_51 rfl ?_
      refine tv_aload_n C dk_X9_holds_52 rfl ?_
      refine tv_getR (r := 250) C dk_X9_holds_53 fl_RX9_9 (Nat.le_of_ble_eq_true rfl) rfl rfl (fun _ _ _ _ => rfl) ?_
      refine tv_bipush (v := 9) C dk_X9_holds_56 (by decide) ?_
      refine tv_iald (j := 9) rfl C dk_X9_holds_58 (Nat.le_of_ble_eq_true rfl) rfl (vp_in_nI (n := 9) (by decide) (by decide)) ?_
      refine tv_iconst (v := 0) C dk_X9_holds_59 (by decide) ?_
      refine tv_iload_n C dk_X9_holds_60 rfl ?_
      have q13 := q12.2
      refine tv_cV0 C dk_X9_holds_61 ml_RX9_66 yk_X9_setsHolder yi_X9_setsHolder (m_X9_setsHolder _ ((f_X9_isThrown ((f_X9_isThrown M 0 1).2) 1 2).2) (tgi ((f_X9_isThrown ((f_X9_isThrown M 0 1).2) 1 2).2) 250 9) 0 x1 q12.1) (Nat.le_of_ble_eq_true rfl) rfl rfl rfl rfl (Nat.le_of_ble_eq_true rfl) (Nat.le_of_ble_eq_true rfl) (Nat.le_of_ble_eq_true rfl) (Nat.le_of_ble_eq_true rfl) (Nat.le_of_ble_eq_true rfl) ?_
      refine tv_aload_n C dk_X9_holds_64 rfl ?_
      refine tv_getR (r := 250) C dk_X9_holds_65 fl_RX9_9 (Nat.le_of_ble_eq_true rfl) rfl rfl (fun _ _ _ _ => rfl) ?_
      refine tv_bipush (v := 9) C dk_X9_holds_68 (by decide) ?_
      refine tv_dup2 C dk_X9_holds_70 rfl rfl ?_
      refine tv_iald (j := 9) rfl C dk_X9_holds_71 (Nat.le_of_ble_eq_true rfl) rfl (vp_in_nI (n := 9) (by decide) (by decide)) ?_
      refine tv_iconst (v := 1) C dk_X9_holds_72 (by decide) ?_
      refine tv_iadd C dk_X9_holds_73 ?_
      refine tv_iast (j := 9) rfl C tvP0_ex dk_X9_holds_74 (Nat.le_of_ble_eq_true rfl) rfl (vp_in_nI (n := 9) (by decide) (by decide)) ?_
      refine tv_aload_n C dk_X9_holds_75 rfl ?_
      refine tv_getR (r := 250) C dk_X9_holds_76 fl_RX9_9 (Nat.le_of_ble_eq_true rfl) rfl rfl (fun _ _ _ _ => rfl) ?_
      refine tv_bipush (v := 9) C dk_X9_holds_79 (by decide) ?_
      refine tv_iald (j := 9) rfl C dk_X9_holds_81 (Nat.le_of_ble_eq_true rfl) rfl (vp_in_nI (n := 9) (by decide) (by decide)) ?_
      refine tv_iconst (v := 1) C dk_X9_holds_82 (by decide) ?_
      refine tv_isub C dk_X9_holds_83 ?_
      exact tv_iret C hQ dk_X9_holds_84 rfl (by rw [f_X9_holds, if_neg h1, if_pos h2, if_pos h3, if_pos h5]) (by rw [f_X9_holds, if_neg h1, if_pos h2, if_pos h3, if_pos h5])
    have q14 := q11.2 h5
    refine tv_iconst (v := 0) C dk_X9_holds_49 (by decide) ?_
    exact tv_iret C hQ dk_X9_holds_50 rfl (by rw [f_X9_holds, if_neg h1, if_pos h2, if_pos h3, if_neg h5]) (by rw [f_X9_holds, if_neg h1, if_pos h2, if_pos h3, if_neg h5])
  have q15 := hq.1 h1
  refine tv_iconst (v := 1) C dk_X9_holds_12 (by decide) ?_
  refine tv_goto C dk_X9_holds_13 ?_
  refine tv_iconst (v := 1) C dk_X9_holds_17 (by decide) ?_
  have q16 := q15.2
  refine tv_cV1 C dk_X9_holds_18 ml_RX9_62 yk_X9_isThrown yi_X9_isThrown (m_X9_isThrown _ M 1 1 q15.1) (Nat.le_of_ble_eq_true rfl) rfl rfl rfl rfl (Nat.le_of_ble_eq_true rfl) (Nat.le_of_ble_eq_true rfl) (Nat.le_of_ble_eq_true rfl) (Nat.le_of_ble_eq_true rfl) (Nat.le_of_ble_eq_true rfl) ?_
  refine tv_if_ne C dk_X9_holds_21 (fun h6 => ?_) (fun h6 => ?_)
  · have q17 := q16.2 h6
    refine tv_iconst (v := 0) C dk_X9_holds_49 (by decide) ?_
    exact tv_iret C hQ dk_X9_holds_50 rfl (by rw [f_X9_holds, if_pos h1, if_neg h6]) (by rw [f_X9_holds, if_pos h1, if_neg h6])
  have q18 := q16.1 h6
  refine tv_aload_n C dk_X9_holds_24 rfl ?_
  refine tv_aload_n C dk_X9_holds_25 rfl ?_
  refine tv_getR (r := 250) C dk_X9_holds_26 fl_RX9_9 (Nat.le_of_ble_eq_true rfl) rfl rfl (fun _ _ _ _ => rfl) ?_
  refine tv_bipush (v := 9) C dk_X9_holds_29 (by decide) ?_
  refine tv_iald (j := 9) rfl C dk_X9_holds_31 (Nat.le_of_ble_eq_true rfl) rfl (vp_in_nI (n := 9) (by decide) (by decide)) ?_
  refine tv_bipush (v := 8) C dk_X9_holds_32 (by decide) ?_
  refine tv_icmp_ne C dk_X9_holds_34 (fun h7 => ?_) (fun h7 => ?_)
  · have q19 := q18.2 h7
    refine tv_iconst (v := 0) C dk_X9_holds_41 (by decide) ?_
    refine tv_iconst (v := 2) C dk_X9_holds_42 (by decide) ?_
    have q20 := q19.2
    refine tv_cV1 C dk_X9_holds_43 ml_RX9_62 yk_X9_isThrown yi_X9_isThrown (m_X9_isThrown _ ((f_X9_isThrown M 1 1).2) 0 2 q19.1) (Nat.le_of_ble_eq_true rfl) rfl rfl rfl rfl (Nat.le_of_ble_eq_true rfl) (Nat.le_of_ble_eq_true rfl) (Nat.le_of_ble_eq_true rfl) (Nat.le_of_ble_eq_true rfl) (Nat.le_of_ble_eq_true rfl) ?_
    refine tv_if_eq C dk_X9_holds_46 (fun h8 => ?_) (fun h8 => ?_)
    · have q21 := q20.1 h8
      refine tv_aload_n C dk_X9_holds_51 rfl ?_
      refine tv_aload_n C dk_X9_holds_52 rfl ?_
      refine tv_getR (r := 250) C dk_X9_holds_53 fl_RX9_9 (Nat.le_of_ble_eq_true rfl) rfl rfl (fun _ _ _ _ => rfl) ?_
      refine tv_bipush (v := 9) C dk_X9_holds_56 (by decide) ?_
      refine tv_iald (j := 9) rfl C dk_X9_holds_58 (Nat.le_of_ble_eq_true rfl) rfl (vp_in_nI (n := 9) (by decide) (by decide)) ?_
      refine tv_iconst (v := 0) C dk_X9_holds_59 (by decide) ?_
      refine tv_iload_n C dk_X9_holds_60 rfl ?_
      have q22 := q21.2
      refine tv_cV0 C dk_X9_holds_61 ml_RX9_66 yk_X9_setsHolder yi_X9_setsHolder (m_X9_setsHolder _ ((f_X9_isThrown ((f_X9_isThrown M 1 1).2) 0 2).2) (tgi ((f_X9_isThrown ((f_X9_isThrown M 1 1).2) 0 2).2) 250 9) 0 x1 q21.1) (Nat.le_of_ble_eq_true rfl) rfl rfl rfl rfl (Nat.le_of_ble_eq_true rfl) (Nat.le_of_ble_eq_true rfl) (Nat.le_of_ble_eq_true rfl) (Nat.le_of_ble_eq_true rfl) (Nat.le_of_ble_eq_true rfl) ?_
      refine tv_aload_n C dk_X9_holds_64 rfl ?_
      refine tv_getR (r := 250) C dk_X9_holds_65 fl_RX9_9 (Nat.le_of_ble_eq_true rfl) rfl rfl (fun _ _ _ _ => rfl) ?_
      refine tv_bipush (v := 9) C dk_X9_holds_68 (by decide) ?_
      refine tv_dup2 C dk_X9_holds_70 rfl rfl ?_
      refine tv_iald (j := 9) rfl C dk_X9_holds_71 (Nat.le_of_ble_eq_true rfl) rfl (vp_in_nI (n := 9) (by decide) (by decide)) ?_
      refine tv_iconst (v := 1) C dk_X9_holds_72 (by decide) ?_
      refine tv_iadd C dk_X9_holds_73 ?_
      refine tv_iast (j := 9) rfl C tvP0_ex dk_X9_holds_74 (Nat.le_of_ble_eq_true rfl) rfl (vp_in_nI (n := 9) (by decide) (by decide)) ?_
      refine tv_aload_n C dk_X9_holds_75 rfl ?_
      refine tv_getR (r := 250) C dk_X9_holds_76 fl_RX9_9 (Nat.le_of_ble_eq_true rfl) rfl rfl (fun _ _ _ _ => rfl) ?_
      refine tv_bipush (v := 9) C dk_X9_holds_79 (by decide) ?_
      refine tv_iald (j := 9) rfl C dk_X9_holds_81 (Nat.le_of_ble_eq_true rfl) rfl (vp_in_nI (n := 9) (by decide) (by decide)) ?_
      refine tv_iconst (v := 1) C dk_X9_holds_82 (by decide) ?_
      refine tv_isub C dk_X9_holds_83 ?_
      exact tv_iret C hQ dk_X9_holds_84 rfl (by rw [f_X9_holds, if_pos h1, if_pos h6, if_neg h7, if_pos h8]) (by rw [f_X9_holds, if_pos h1, if_pos h6, if_neg h7, if_pos h8])
    have q23 := q20.2 h8
    refine tv_iconst (v := 0) C dk_X9_holds_49 (by decide) ?_
    exact tv_iret C hQ dk_X9_holds_50 rfl (by rw [f_X9_holds, if_pos h1, if_pos h6, if_neg h7, if_neg h8]) (by rw [f_X9_holds, if_pos h1, if_pos h6, if_neg h7, if_neg h8])
  have q24 := q18.1 h7
  refine tv_iconst (v := 1) C dk_X9_holds_37 (by decide) ?_
  refine tv_goto C dk_X9_holds_38 ?_
  refine tv_iconst (v := 2) C dk_X9_holds_42 (by decide) ?_
  have q25 := q24.2
  refine tv_cV1 C dk_X9_holds_43 ml_RX9_62 yk_X9_isThrown yi_X9_isThrown (m_X9_isThrown _ ((f_X9_isThrown M 1 1).2) 1 2 q24.1) (Nat.le_of_ble_eq_true rfl) rfl rfl rfl rfl (Nat.le_of_ble_eq_true rfl) (Nat.le_of_ble_eq_true rfl) (Nat.le_of_ble_eq_true rfl) (Nat.le_of_ble_eq_true rfl) (Nat.le_of_ble_eq_true rfl) ?_
  refine tv_if_eq C dk_X9_holds_46 (fun h9 => ?_) (fun h9 => ?_)
  · have q26 := q25.1 h9
    refine tv_aload_n C dk_X9_holds_51 rfl ?_
    refine tv_aload_n C dk_X9_holds_52 rfl ?_
    refine tv_getR (r := 250) C dk_X9_holds_53 fl_RX9_9 (Nat.le_of_ble_eq_true rfl) rfl rfl (fun _ _ _ _ => rfl) ?_
    refine tv_bipush (v := 9) C dk_X9_holds_56 (by decide) ?_
    refine tv_iald (j := 9) rfl C dk_X9_holds_58 (Nat.le_of_ble_eq_true rfl) rfl (vp_in_nI (n := 9) (by decide) (by decide)) ?_
    refine tv_iconst (v := 0) C dk_X9_holds_59 (by decide) ?_
    refine tv_iload_n C dk_X9_holds_60 rfl ?_
    have q27 := q26.2
    refine tv_cV0 C dk_X9_holds_61 ml_RX9_66 yk_X9_setsHolder yi_X9_setsHolder (m_X9_setsHolder _ ((f_X9_isThrown ((f_X9_isThrown M 1 1).2) 1 2).2) (tgi ((f_X9_isThrown ((f_X9_isThrown M 1 1).2) 1 2).2) 250 9) 0 x1 q26.1) (Nat.le_of_ble_eq_true rfl) rfl rfl rfl rfl (Nat.le_of_ble_eq_true rfl) (Nat.le_of_ble_eq_true rfl) (Nat.le_of_ble_eq_true rfl) (Nat.le_of_ble_eq_true rfl) (Nat.le_of_ble_eq_true rfl) ?_
    refine tv_aload_n C dk_X9_holds_64 rfl ?_
    refine tv_getR (r := 250) C dk_X9_holds_65 fl_RX9_9 (Nat.le_of_ble_eq_true rfl) rfl rfl (fun _ _ _ _ => rfl) ?_
    refine tv_bipush (v := 9) C dk_X9_holds_68 (by decide) ?_
    refine tv_dup2 C dk_X9_holds_70 rfl rfl ?_
    refine tv_iald (j := 9) rfl C dk_X9_holds_71 (Nat.le_of_ble_eq_true rfl) rfl (vp_in_nI (n := 9) (by decide) (by decide)) ?_
    refine tv_iconst (v := 1) C dk_X9_holds_72 (by decide) ?_
    refine tv_iadd C dk_X9_holds_73 ?_
    refine tv_iast (j := 9) rfl C tvP0_ex dk_X9_holds_74 (Nat.le_of_ble_eq_true rfl) rfl (vp_in_nI (n := 9) (by decide) (by decide)) ?_
    refine tv_aload_n C dk_X9_holds_75 rfl ?_
    refine tv_getR (r := 250) C dk_X9_holds_76 fl_RX9_9 (Nat.le_of_ble_eq_true rfl) rfl rfl (fun _ _ _ _ => rfl) ?_
    refine tv_bipush (v := 9) C dk_X9_holds_79 (by decide) ?_
    refine tv_iald (j := 9) rfl C dk_X9_holds_81 (Nat.le_of_ble_eq_true rfl) rfl (vp_in_nI (n := 9) (by decide) (by decide)) ?_
    refine tv_iconst (v := 1) C dk_X9_holds_82 (by decide) ?_
    refine tv_isub C dk_X9_holds_83 ?_
    exact tv_iret C hQ dk_X9_holds_84 rfl (by rw [f_X9_holds, if_pos h1, if_pos h6, if_pos h7, if_pos h9]) (by rw [f_X9_holds, if_pos h1, if_pos h6, if_pos h7, if_pos h9])
  have q28 := q25.2 h9
  refine tv_iconst (v := 0) C dk_X9_holds_49 (by decide) ?_
  exact tv_iret C hQ dk_X9_holds_50 rfl (by rw [f_X9_holds, if_pos h1, if_pos h6, if_pos h7, if_neg h9]) (by rw [f_X9_holds, if_pos h1, if_pos h6, if_pos h7, if_neg h9])
/-- TideVaultModel.boxed(III)I -/
def f_X9_boxed (M : tvM) (x1 : Int32) (x2 : Int32) (x3 : Int32) : Int32 × tvM := (if (f_X9_isHolder M x1) = 0 then (if (f_X9_isThrown M 1 1).1 = 0 then (if x1 = x2 then (if (f_X9_isThrown ((f_X9_isThrown M 1 1).2) 1 2).1 = 0 then (if (tgi ((f_X9_isThrown ((f_X9_isThrown M 1 1).2) 1 2).2) 250 10) = 10 then (if (f_X9_isThrown ((f_X9_isThrown ((f_X9_isThrown M 1 1).2) 1 2).2) 1 3).1 = 0 then ((tgi ((f_X9_isThrown ((f_X9_isThrown ((f_X9_isThrown M 1 1).2) 1 2).2) 1 3).2) 250 10), (tpi (f_X9_sets (f_X9_sets (f_X9_sets ((f_X9_isThrown ((f_X9_isThrown ((f_X9_isThrown M 1 1).2) 1 2).2) 1 3).2) (tgi ((f_X9_isThrown ((f_X9_isThrown ((f_X9_isThrown M 1 1).2) 1 2).2) 1 3).2) 250 10) 0 x1) (tgi ((f_X9_isThrown ((f_X9_isThrown ((f_X9_isThrown M 1 1).2) 1 2).2) 1 3).2) 250 10) 1 x2) (tgi ((f_X9_isThrown ((f_X9_isThrown ((f_X9_isThrown M 1 1).2) 1 2).2) 1 3).2) 250 10) 2 x3) 250 10 ((tgi (f_X9_sets (f_X9_sets (f_X9_sets ((f_X9_isThrown ((f_X9_isThrown ((f_X9_isThrown M 1 1).2) 1 2).2) 1 3).2) (tgi ((f_X9_isThrown ((f_X9_isThrown ((f_X9_isThrown M 1 1).2) 1 2).2) 1 3).2) 250 10) 0 x1) (tgi ((f_X9_isThrown ((f_X9_isThrown ((f_X9_isThrown M 1 1).2) 1 2).2) 1 3).2) 250 10) 1 x2) (tgi ((f_X9_isThrown ((f_X9_isThrown ((f_X9_isThrown M 1 1).2) 1 2).2) 1 3).2) 250 10) 2 x3) 250 10) + 1))) else (0, (f_X9_isThrown ((f_X9_isThrown ((f_X9_isThrown M 1 1).2) 1 2).2) 1 3).2)) else (if (f_X9_isThrown ((f_X9_isThrown ((f_X9_isThrown M 1 1).2) 1 2).2) 0 3).1 = 0 then ((tgi ((f_X9_isThrown ((f_X9_isThrown ((f_X9_isThrown M 1 1).2) 1 2).2) 0 3).2) 250 10), (tpi (f_X9_sets (f_X9_sets (f_X9_sets ((f_X9_isThrown ((f_X9_isThrown ((f_X9_isThrown M 1 1).2) 1 2).2) 0 3).2) (tgi ((f_X9_isThrown ((f_X9_isThrown ((f_X9_isThrown M 1 1).2) 1 2).2) 0 3).2) 250 10) 0 x1) (tgi ((f_X9_isThrown ((f_X9_isThrown ((f_X9_isThrown M 1 1).2) 1 2).2) 0 3).2) 250 10) 1 x2) (tgi ((f_X9_isThrown ((f_X9_isThrown ((f_X9_isThrown M 1 1).2) 1 2).2) 0 3).2) 250 10) 2 x3) 250 10 ((tgi (f_X9_sets (f_X9_sets (f_X9_sets ((f_X9_isThrown ((f_X9_isThrown ((f_X9_isThrown M 1 1).2) 1 2).2) 0 3).2) (tgi ((f_X9_isThrown ((f_X9_isThrown ((f_X9_isThrown M 1 1).2) 1 2).2) 0 3).2) 250 10) 0 x1) (tgi ((f_X9_isThrown ((f_X9_isThrown ((f_X9_isThrown M 1 1).2) 1 2).2) 0 3).2) 250 10) 1 x2) (tgi ((f_X9_isThrown ((f_X9_isThrown ((f_X9_isThrown M 1 1).2) 1 2).2) 0 3).2) 250 10) 2 x3) 250 10) + 1))) else (0, (f_X9_isThrown ((f_X9_isThrown ((f_X9_isThrown M 1 1).2) 1 2).2) 0 3).2))) else (0, (f_X9_isThrown ((f_X9_isThrown M 1 1).2) 1 2).2)) else (if (f_X9_isIn ((f_X9_isThrown M 1 1).2) x3 0 60) = 0 then (if (f_X9_isThrown ((f_X9_isThrown M 1 1).2) 1 2).1 = 0 then (if (tgi ((f_X9_isThrown ((f_X9_isThrown M 1 1).2) 1 2).2) 250 10) = 10 then (if (f_X9_isThrown ((f_X9_isThrown ((f_X9_isThrown M 1 1).2) 1 2).2) 1 3).1 = 0 then ((tgi ((f_X9_isThrown ((f_X9_isThrown ((f_X9_isThrown M 1 1).2) 1 2).2) 1 3).2) 250 10), (tpi (f_X9_sets (f_X9_sets (f_X9_sets ((f_X9_isThrown ((f_X9_isThrown ((f_X9_isThrown M 1 1).2) 1 2).2) 1 3).2) (tgi ((f_X9_isThrown ((f_X9_isThrown ((f_X9_isThrown M 1 1).2) 1 2).2) 1 3).2) 250 10) 0 x1) (tgi ((f_X9_isThrown ((f_X9_isThrown ((f_X9_isThrown M 1 1).2) 1 2).2) 1 3).2) 250 10) 1 x2) (tgi ((f_X9_isThrown ((f_X9_isThrown ((f_X9_isThrown M 1 1).2) 1 2).2) 1 3).2) 250 10) 2 x3) 250 10 ((tgi (f_X9_sets (f_X9_sets (f_X9_sets ((f_X9_isThrown ((f_X9_isThrown ((f_X9_isThrown M 1 1).2) 1 2).2) 1 3).2) (tgi ((f_X9_isThrown ((f_X9_isThrown ((f_X9_isThrown M 1 1).2) 1 2).2) 1 3).2) 250 10) 0 x1) (tgi ((f_X9_isThrown ((f_X9_isThrown ((f_X9_isThrown M 1 1).2) 1 2).2) 1 3).2) 250 10) 1 x2) (tgi ((f_X9_isThrown ((f_X9_isThrown ((f_X9_isThrown M 1 1).2) 1 2).2) 1 3).2) 250 10) 2 x3) 250 10) + 1))) else (0, (f_X9_isThrown ((f_X9_isThrown ((f_X9_isThrown M 1 1).2) 1 2).2) 1 3).2)) else (if (f_X9_isThrown ((f_X9_isThrown ((f_X9_isThrown M 1 1).2) 1 2).2) 0 3).1 = 0 then ((tgi ((f_X9_isThrown ((f_X9_isThrown ((f_X9_isThrown M 1 1).2) 1 2).2) 0 3).2) 250 10), (tpi (f_X9_sets (f_X9_sets (f_X9_sets ((f_X9_isThrown ((f_X9_isThrown ((f_X9_isThrown M 1 1).2) 1 2).2) 0 3).2) (tgi ((f_X9_isThrown ((f_X9_isThrown ((f_X9_isThrown M 1 1).2) 1 2).2) 0 3).2) 250 10) 0 x1) (tgi ((f_X9_isThrown ((f_X9_isThrown ((f_X9_isThrown M 1 1).2) 1 2).2) 0 3).2) 250 10) 1 x2) (tgi ((f_X9_isThrown ((f_X9_isThrown ((f_X9_isThrown M 1 1).2) 1 2).2) 0 3).2) 250 10) 2 x3) 250 10 ((tgi (f_X9_sets (f_X9_sets (f_X9_sets ((f_X9_isThrown ((f_X9_isThrown ((f_X9_isThrown M 1 1).2) 1 2).2) 0 3).2) (tgi ((f_X9_isThrown ((f_X9_isThrown ((f_X9_isThrown M 1 1).2) 1 2).2) 0 3).2) 250 10) 0 x1) (tgi ((f_X9_isThrown ((f_X9_isThrown ((f_X9_isThrown M 1 1).2) 1 2).2) 0 3).2) 250 10) 1 x2) (tgi ((f_X9_isThrown ((f_X9_isThrown ((f_X9_isThrown M 1 1).2) 1 2).2) 0 3).2) 250 10) 2 x3) 250 10) + 1))) else (0, (f_X9_isThrown ((f_X9_isThrown ((f_X9_isThrown M 1 1).2) 1 2).2) 0 3).2))) else (0, (f_X9_isThrown ((f_X9_isThrown M 1 1).2) 1 2).2)) else (if (f_X9_isThrown ((f_X9_isThrown M 1 1).2) 0 2).1 = 0 then (if (tgi ((f_X9_isThrown ((f_X9_isThrown M 1 1).2) 0 2).2) 250 10) = 10 then (if (f_X9_isThrown ((f_X9_isThrown ((f_X9_isThrown M 1 1).2) 0 2).2) 1 3).1 = 0 then ((tgi ((f_X9_isThrown ((f_X9_isThrown ((f_X9_isThrown M 1 1).2) 0 2).2) 1 3).2) 250 10), (tpi (f_X9_sets (f_X9_sets (f_X9_sets ((f_X9_isThrown ((f_X9_isThrown ((f_X9_isThrown M 1 1).2) 0 2).2) 1 3).2) (tgi ((f_X9_isThrown ((f_X9_isThrown ((f_X9_isThrown M 1 1).2) 0 2).2) 1 3).2) 250 10) 0 x1) (tgi ((f_X9_isThrown ((f_X9_isThrown ((f_X9_isThrown M 1 1).2) 0 2).2) 1 3).2) 250 10) 1 x2) (tgi ((f_X9_isThrown ((f_X9_isThrown ((f_X9_isThrown M 1 1).2) 0 2).2) 1 3).2) 250 10) 2 x3) 250 10 ((tgi (f_X9_sets (f_X9_sets (f_X9_sets ((f_X9_isThrown ((f_X9_isThrown ((f_X9_isThrown M 1 1).2) 0 2).2) 1 3).2) (tgi ((f_X9_isThrown ((f_X9_isThrown ((f_X9_isThrown M 1 1).2) 0 2).2) 1 3).2) 250 10) 0 x1) (tgi ((f_X9_isThrown ((f_X9_isThrown ((f_X9_isThrown M 1 1).2) 0 2).2) 1 3).2) 250 10) 1 x2) (tgi ((f_X9_isThrown ((f_X9_isThrown ((f_X9_isThrown M 1 1).2) 0 2).2) 1 3).2) 250 10) 2 x3) 250 10) + 1))) else (0, (f_X9_isThrown ((f_X9_isThrown ((f_X9_isThrown M 1 1).2) 0 2).2) 1 3).2)) else (if (f_X9_isThrown ((f_X9_isThrown ((f_X9_isThrown M 1 1).2) 0 2).2) 0 3).1 = 0 then ((tgi ((f_X9_isThrown ((f_X9_isThrown ((f_X9_isThrown M 1 1).2) 0 2).2) 0 3).2) 250 10), (tpi (f_X9_sets (f_X9_sets (f_X9_sets ((f_X9_isThrown ((f_X9_isThrown ((f_X9_isThrown M 1 1).2) 0 2).2) 0 3).2) (tgi ((f_X9_isThrown ((f_X9_isThrown ((f_X9_isThrown M 1 1).2) 0 2).2) 0 3).2) 250 10) 0 x1) (tgi ((f_X9_isThrown ((f_X9_isThrown ((f_X9_isThrown M 1 1).2) 0 2).2) 0 3).2) 250 10) 1 x2) (tgi ((f_X9_isThrown ((f_X9_isThrown ((f_X9_isThrown M 1 1).2) 0 2).2) 0 3).2) 250 10) 2 x3) 250 10 ((tgi (f_X9_sets (f_X9_sets (f_X9_sets ((f_X9_isThrown ((f_X9_isThrown ((f_X9_isThrown M 1 1).2) 0 2).2) 0 3).2) (tgi ((f_X9_isThrown ((f_X9_isThrown ((f_X9_isThrown M 1 1).2) 0 2).2) 0 3).2) 250 10) 0 x1) (tgi ((f_X9_isThrown ((f_X9_isThrown ((f_X9_isThrown M 1 1).2) 0 2).2) 0 3).2) 250 10) 1 x2) (tgi ((f_X9_isThrown ((f_X9_isThrown ((f_X9_isThrown M 1 1).2) 0 2).2) 0 3).2) 250 10) 2 x3) 250 10) + 1))) else (0, (f_X9_isThrown ((f_X9_isThrown ((f_X9_isThrown M 1 1).2) 0 2).2) 0 3).2))) else (0, (f_X9_isThrown ((f_X9_isThrown M 1 1).2) 0 2).2)))) else (0, (f_X9_isThrown M 1 1).2)) else (if (f_X9_isHolder M x2) = 0 then (if (f_X9_isThrown M 1 1).1 = 0 then (if x1 = x2 then (if (f_X9_isThrown ((f_X9_isThrown M 1 1).2) 1 2).1 = 0 then (if (tgi ((f_X9_isThrown ((f_X9_isThrown M 1 1).2) 1 2).2) 250 10) = 10 then (if (f_X9_isThrown ((f_X9_isThrown ((f_X9_isThrown M 1 1).2) 1 2).2) 1 3).1 = 0 then ((tgi ((f_X9_isThrown ((f_X9_isThrown ((f_X9_isThrown M 1 1).2) 1 2).2) 1 3).2) 250 10), (tpi (f_X9_sets (f_X9_sets (f_X9_sets ((f_X9_isThrown ((f_X9_isThrown ((f_X9_isThrown M 1 1).2) 1 2).2) 1 3).2) (tgi ((f_X9_isThrown ((f_X9_isThrown ((f_X9_isThrown M 1 1).2) 1 2).2) 1 3).2) 250 10) 0 x1) (tgi ((f_X9_isThrown ((f_X9_isThrown ((f_X9_isThrown M 1 1).2) 1 2).2) 1 3).2) 250 10) 1 x2) (tgi ((f_X9_isThrown ((f_X9_isThrown ((f_X9_isThrown M 1 1).2) 1 2).2) 1 3).2) 250 10) 2 x3) 250 10 ((tgi (f_X9_sets (f_X9_sets (f_X9_sets ((f_X9_isThrown ((f_X9_isThrown ((f_X9_isThrown M 1 1).2) 1 2).2) 1 3).2) (tgi ((f_X9_isThrown ((f_X9_isThrown ((f_X9_isThrown M 1 1).2) 1 2).2) 1 3).2) 250 10) 0 x1) (tgi ((f_X9_isThrown ((f_X9_isThrown ((f_X9_isThrown M 1 1).2) 1 2).2) 1 3).2) 250 10) 1 x2) (tgi ((f_X9_isThrown ((f_X9_isThrown ((f_X9_isThrown M 1 1).2) 1 2).2) 1 3).2) 250 10) 2 x3) 250 10) + 1))) else (0, (f_X9_isThrown ((f_X9_isThrown ((f_X9_isThrown M 1 1).2) 1 2).2) 1 3).2)) else (if (f_X9_isThrown ((f_X9_isThrown ((f_X9_isThrown M 1 1).2) 1 2).2) 0 3).1 = 0 then ((tgi ((f_X9_isThrown ((f_X9_isThrown ((f_X9_isThrown M 1 1).2) 1 2).2) 0 3).2) 250 10), (tpi (f_X9_sets (f_X9_sets (f_X9_sets ((f_X9_isThrown ((f_X9_isThrown ((f_X9_isThrown M 1 1).2) 1 2).2) 0 3).2) (tgi ((f_X9_isThrown ((f_X9_isThrown ((f_X9_isThrown M 1 1).2) 1 2).2) 0 3).2) 250 10) 0 x1) (tgi ((f_X9_isThrown ((f_X9_isThrown ((f_X9_isThrown M 1 1).2) 1 2).2) 0 3).2) 250 10) 1 x2) (tgi ((f_X9_isThrown ((f_X9_isThrown ((f_X9_isThrown M 1 1).2) 1 2).2) 0 3).2) 250 10) 2 x3) 250 10 ((tgi (f_X9_sets (f_X9_sets (f_X9_sets ((f_X9_isThrown ((f_X9_isThrown ((f_X9_isThrown M 1 1).2) 1 2).2) 0 3).2) (tgi ((f_X9_isThrown ((f_X9_isThrown ((f_X9_isThrown M 1 1).2) 1 2).2) 0 3).2) 250 10) 0 x1) (tgi ((f_X9_isThrown ((f_X9_isThrown ((f_X9_isThrown M 1 1).2) 1 2).2) 0 3).2) 250 10) 1 x2) (tgi ((f_X9_isThrown ((f_X9_isThrown ((f_X9_isThrown M 1 1).2) 1 2).2) 0 3).2) 250 10) 2 x3) 250 10) + 1))) else (0, (f_X9_isThrown ((f_X9_isThrown ((f_X9_isThrown M 1 1).2) 1 2).2) 0 3).2))) else (0, (f_X9_isThrown ((f_X9_isThrown M 1 1).2) 1 2).2)) else (if (f_X9_isIn ((f_X9_isThrown M 1 1).2) x3 0 60) = 0 then (if (f_X9_isThrown ((f_X9_isThrown M 1 1).2) 1 2).1 = 0 then (if (tgi ((f_X9_isThrown ((f_X9_isThrown M 1 1).2) 1 2).2) 250 10) = 10 then (if (f_X9_isThrown ((f_X9_isThrown ((f_X9_isThrown M 1 1).2) 1 2).2) 1 3).1 = 0 then ((tgi ((f_X9_isThrown ((f_X9_isThrown ((f_X9_isThrown M 1 1).2) 1 2).2) 1 3).2) 250 10), (tpi (f_X9_sets (f_X9_sets (f_X9_sets ((f_X9_isThrown ((f_X9_isThrown ((f_X9_isThrown M 1 1).2) 1 2).2) 1 3).2) (tgi ((f_X9_isThrown ((f_X9_isThrown ((f_X9_isThrown M 1 1).2) 1 2).2) 1 3).2) 250 10) 0 x1) (tgi ((f_X9_isThrown ((f_X9_isThrown ((f_X9_isThrown M 1 1).2) 1 2).2) 1 3).2) 250 10) 1 x2) (tgi ((f_X9_isThrown ((f_X9_isThrown ((f_X9_isThrown M 1 1).2) 1 2).2) 1 3).2) 250 10) 2 x3) 250 10 ((tgi (f_X9_sets (f_X9_sets (f_X9_sets ((f_X9_isThrown ((f_X9_isThrown ((f_X9_isThrown M 1 1).2) 1 2).2) 1 3).2) (tgi ((f_X9_isThrown ((f_X9_isThrown ((f_X9_isThrown M 1 1).2) 1 2).2) 1 3).2) 250 10) 0 x1) (tgi ((f_X9_isThrown ((f_X9_isThrown ((f_X9_isThrown M 1 1).2) 1 2).2) 1 3).2) 250 10) 1 x2) (tgi ((f_X9_isThrown ((f_X9_isThrown ((f_X9_isThrown M 1 1).2) 1 2).2) 1 3).2) 250 10) 2 x3) 250 10) + 1))) else (0, (f_X9_isThrown ((f_X9_isThrown ((f_X9_isThrown M 1 1).2) 1 2).2) 1 3).2)) else (if (f_X9_isThrown ((f_X9_isThrown ((f_X9_isThrown M 1 1).2) 1 2).2) 0 3).1 = 0 then ((tgi ((f_X9_isThrown ((f_X9_isThrown ((f_X9_isThrown M 1 1).2) 1 2).2) 0 3).2) 250 10), (tpi (f_X9_sets (f_X9_sets (f_X9_sets ((f_X9_isThrown ((f_X9_isThrown ((f_X9_isThrown M 1 1).2) 1 2).2) 0 3).2) (tgi ((f_X9_isThrown ((f_X9_isThrown ((f_X9_isThrown M 1 1).2) 1 2).2) 0 3).2) 250 10) 0 x1) (tgi ((f_X9_isThrown ((f_X9_isThrown ((f_X9_isThrown M 1 1).2) 1 2).2) 0 3).2) 250 10) 1 x2) (tgi ((f_X9_isThrown ((f_X9_isThrown ((f_X9_isThrown M 1 1).2) 1 2).2) 0 3).2) 250 10) 2 x3) 250 10 ((tgi (f_X9_sets (f_X9_sets (f_X9_sets ((f_X9_isThrown ((f_X9_isThrown ((f_X9_isThrown M 1 1).2) 1 2).2) 0 3).2) (tgi ((f_X9_isThrown ((f_X9_isThrown ((f_X9_isThrown M 1 1).2) 1 2).2) 0 3).2) 250 10) 0 x1) (tgi ((f_X9_isThrown ((f_X9_isThrown ((f_X9_isThrown M 1 1).2) 1 2).2) 0 3).2) 250 10) 1 x2) (tgi ((f_X9_isThrown ((f_X9_isThrown ((f_X9_isThrown M 1 1).2) 1 2).2) 0 3).2) 250 10) 2 x3) 250 10) + 1))) else (0, (f_X9_isThrown ((f_X9_isThrown ((f_X9_isThrown M 1 1).2) 1 2).2) 0 3).2))) else (0, (f_X9_isThrown ((f_X9_isThrown M 1 1).2) 1 2).2)) else (if (f_X9_isThrown ((f_X9_isThrown M 1 1).2) 0 2).1 = 0 then (if (tgi ((f_X9_isThrown ((f_X9_isThrown M 1 1).2) 0 2).2) 250 10) = 10 then (if (f_X9_isThrown ((f_X9_isThrown ((f_X9_isThrown M 1 1).2) 0 2).2) 1 3).1 = 0 then ((tgi ((f_X9_isThrown ((f_X9_isThrown ((f_X9_isThrown M 1 1).2) 0 2).2) 1 3).2) 250 10), (tpi (f_X9_sets (f_X9_sets (f_X9_sets ((f_X9_isThrown ((f_X9_isThrown ((f_X9_isThrown M 1 1).2) 0 2).2) 1 3).2) (tgi ((f_X9_isThrown ((f_X9_isThrown ((f_X9_isThrown M 1 1).2) 0 2).2) 1 3).2) 250 10) 0 x1) (tgi ((f_X9_isThrown ((f_X9_isThrown ((f_X9_isThrown M 1 1).2) 0 2).2) 1 3).2) 250 10) 1 x2) (tgi ((f_X9_isThrown ((f_X9_isThrown ((f_X9_isThrown M 1 1).2) 0 2).2) 1 3).2) 250 10) 2 x3) 250 10 ((tgi (f_X9_sets (f_X9_sets (f_X9_sets ((f_X9_isThrown ((f_X9_isThrown ((f_X9_isThrown M 1 1).2) 0 2).2) 1 3).2) (tgi ((f_X9_isThrown ((f_X9_isThrown ((f_X9_isThrown M 1 1).2) 0 2).2) 1 3).2) 250 10) 0 x1) (tgi ((f_X9_isThrown ((f_X9_isThrown ((f_X9_isThrown M 1 1).2) 0 2).2) 1 3).2) 250 10) 1 x2) (tgi ((f_X9_isThrown ((f_X9_isThrown ((f_X9_isThrown M 1 1).2) 0 2).2) 1 3).2) 250 10) 2 x3) 250 10) + 1))) else (0, (f_X9_isThrown ((f_X9_isThrown ((f_X9_isThrown M 1 1).2) 0 2).2) 1 3).2)) else (if (f_X9_isThrown ((f_X9_isThrown ((f_X9_isThrown M 1 1).2) 0 2).2) 0 3).1 = 0 then ((tgi ((f_X9_isThrown ((f_X9_isThrown ((f_X9_isThrown M 1 1).2) 0 2).2) 0 3).2) 250 10), (tpi (f_X9_sets (f_X9_sets (f_X9_sets ((f_X9_isThrown ((f_X9_isThrown ((f_X9_isThrown M 1 1).2) 0 2).2) 0 3).2) (tgi ((f_X9_isThrown ((f_X9_isThrown ((f_X9_isThrown M 1 1).2) 0 2).2) 0 3).2) 250 10) 0 x1) (tgi ((f_X9_isThrown ((f_X9_isThrown ((f_X9_isThrown M 1 1).2) 0 2).2) 0 3).2) 250 10) 1 x2) (tgi ((f_X9_isThrown ((f_X9_isThrown ((f_X9_isThrown M 1 1).2) 0 2).2) 0 3).2) 250 10) 2 x3) 250 10 ((tgi (f_X9_sets (f_X9_sets (f_X9_sets ((f_X9_isThrown ((f_X9_isThrown ((f_X9_isThrown M 1 1).2) 0 2).2) 0 3).2) (tgi ((f_X9_isThrown ((f_X9_isThrown ((f_X9_isThrown M 1 1).2) 0 2).2) 0 3).2) 250 10) 0 x1) (tgi ((f_X9_isThrown ((f_X9_isThrown ((f_X9_isThrown M 1 1).2) 0 2).2) 0 3).2) 250 10) 1 x2) (tgi ((f_X9_isThrown ((f_X9_isThrown ((f_X9_isThrown M 1 1).2) 0 2).2) 0 3).2) 250 10) 2 x3) 250 10) + 1))) else (0, (f_X9_isThrown ((f_X9_isThrown ((f_X9_isThrown M 1 1).2) 0 2).2) 0 3).2))) else (0, (f_X9_isThrown ((f_X9_isThrown M 1 1).2) 0 2).2)))) else (0, (f_X9_isThrown M 1 1).2)) else (if (f_X9_isThrown M 0 1).1 = 0 then (if x1 = x2 then (if (f_X9_isThrown ((f_X9_isThrown M 0 1).2) 1 2).1 = 0 then (if (tgi ((f_X9_isThrown ((f_X9_isThrown M 0 1).2) 1 2).2) 250 10) = 10 then (if (f_X9_isThrown ((f_X9_isThrown ((f_X9_isThrown M 0 1).2) 1 2).2) 1 3).1 = 0 then ((tgi ((f_X9_isThrown ((f_X9_isThrown ((f_X9_isThrown M 0 1).2) 1 2).2) 1 3).2) 250 10), (tpi (f_X9_sets (f_X9_sets (f_X9_sets ((f_X9_isThrown ((f_X9_isThrown ((f_X9_isThrown M 0 1).2) 1 2).2) 1 3).2) (tgi ((f_X9_isThrown ((f_X9_isThrown ((f_X9_isThrown M 0 1).2) 1 2).2) 1 3).2) 250 10) 0 x1) (tgi ((f_X9_isThrown ((f_X9_isThrown ((f_X9_isThrown M 0 1).2) 1 2).2) 1 3).2) 250 10) 1 x2) (tgi ((f_X9_isThrown ((f_X9_isThrown ((f_X9_isThrown M 0 1).2) 1 2).2) 1 3).2) 250 10) 2 x3) 250 10 ((tgi (f_X9_sets (f_X9_sets (f_X9_sets ((f_X9_isThrown ((f_X9_isThrown ((f_X9_isThrown M 0 1).2) 1 2).2) 1 3).2) (tgi ((f_X9_isThrown ((f_X9_isThrown ((f_X9_isThrown M 0 1).2) 1 2).2) 1 3).2) 250 10) 0 x1) (tgi ((f_X9_isThrown ((f_X9_isThrown ((f_X9_isThrown M 0 1).2) 1 2).2) 1 3).2) 250 10) 1 x2) (tgi ((f_X9_isThrown ((f_X9_isThrown ((f_X9_isThrown M 0 1).2) 1 2).2) 1 3).2) 250 10) 2 x3) 250 10) + 1))) else (0, (f_X9_isThrown ((f_X9_isThrown ((f_X9_isThrown M 0 1).2) 1 2).2) 1 3).2)) else (if (f_X9_isThrown ((f_X9_isThrown ((f_X9_isThrown M 0 1).2) 1 2).2) 0 3).1 = 0 then ((tgi ((f_X9_isThrown ((f_X9_isThrown ((f_X9_isThrown M 0 1).2) 1 2).2) 0 3).2) 250 10), (tpi (f_X9_sets (f_X9_sets (f_X9_sets ((f_X9_isThrown ((f_X9_isThrown ((f_X9_isThrown M 0 1).2) 1 2).2) 0 3).2) (tgi ((f_X9_isThrown ((f_X9_isThrown ((f_X9_isThrown M 0 1).2) 1 2).2) 0 3).2) 250 10) 0 x1) (tgi ((f_X9_isThrown ((f_X9_isThrown ((f_X9_isThrown M 0 1).2) 1 2).2) 0 3).2) 250 10) 1 x2) (tgi ((f_X9_isThrown ((f_X9_isThrown ((f_X9_isThrown M 0 1).2) 1 2).2) 0 3).2) 250 10) 2 x3) 250 10 ((tgi (f_X9_sets (f_X9_sets (f_X9_sets ((f_X9_isThrown ((f_X9_isThrown ((f_X9_isThrown M 0 1).2) 1 2).2) 0 3).2) (tgi ((f_X9_isThrown ((f_X9_isThrown ((f_X9_isThrown M 0 1).2) 1 2).2) 0 3).2) 250 10) 0 x1) (tgi ((f_X9_isThrown ((f_X9_isThrown ((f_X9_isThrown M 0 1).2) 1 2).2) 0 3).2) 250 10) 1 x2) (tgi ((f_X9_isThrown ((f_X9_isThrown ((f_X9_isThrown M 0 1).2) 1 2).2) 0 3).2) 250 10) 2 x3) 250 10) + 1))) else (0, (f_X9_isThrown ((f_X9_isThrown ((f_X9_isThrown M 0 1).2) 1 2).2) 0 3).2))) else (0, (f_X9_isThrown ((f_X9_isThrown M 0 1).2) 1 2).2)) else (if (f_X9_isIn ((f_X9_isThrown M 0 1).2) x3 0 60) = 0 then (if (f_X9_isThrown ((f_X9_isThrown M 0 1).2) 1 2).1 = 0 then (if (tgi ((f_X9_isThrown ((f_X9_isThrown M 0 1).2) 1 2).2) 250 10) = 10 then (if (f_X9_isThrown ((f_X9_isThrown ((f_X9_isThrown M 0 1).2) 1 2).2) 1 3).1 = 0 then ((tgi ((f_X9_isThrown ((f_X9_isThrown ((f_X9_isThrown M 0 1).2) 1 2).2) 1 3).2) 250 10), (tpi (f_X9_sets (f_X9_sets (f_X9_sets ((f_X9_isThrown ((f_X9_isThrown ((f_X9_isThrown M 0 1).2) 1 2).2) 1 3).2) (tgi ((f_X9_isThrown ((f_X9_isThrown ((f_X9_isThrown M 0 1).2) 1 2).2) 1 3).2) 250 10) 0 x1) (tgi ((f_X9_isThrown ((f_X9_isThrown ((f_X9_isThrown M 0 1).2) 1 2).2) 1 3).2) 250 10) 1 x2) (tgi ((f_X9_isThrown ((f_X9_isThrown ((f_X9_isThrown M 0 1).2) 1 2).2) 1 3).2) 250 10) 2 x3) 250 10 ((tgi (f_X9_sets (f_X9_sets (f_X9_sets ((f_X9_isThrown ((f_X9_isThrown ((f_X9_isThrown M 0 1).2) 1 2).2) 1 3).2) (tgi ((f_X9_isThrown ((f_X9_isThrown ((f_X9_isThrown M 0 1).2) 1 2).2) 1 3).2) 250 10) 0 x1) (tgi ((f_X9_isThrown ((f_X9_isThrown ((f_X9_isThrown M 0 1).2) 1 2).2) 1 3).2) 250 10) 1 x2) (tgi ((f_X9_isThrown ((f_X9_isThrown ((f_X9_isThrown M 0 1).2) 1 2).2) 1 3).2) 250 10) 2 x3) 250 10) + 1))) else (0, (f_X9_isThrown ((f_X9_isThrown ((f_X9_isThrown M 0 1).2) 1 2).2) 1 3).2)) else (if (f_X9_isThrown ((f_X9_isThrown ((f_X9_isThrown M 0 1).2) 1 2).2) 0 3).1 = 0 then ((tgi ((f_X9_isThrown ((f_X9_isThrown ((f_X9_isThrown M 0 1).2) 1 2).2) 0 3).2) 250 10), (tpi (f_X9_sets (f_X9_sets (f_X9_sets ((f_X9_isThrown ((f_X9_isThrown ((f_X9_isThrown M 0 1).2) 1 2).2) 0 3).2) (tgi ((f_X9_isThrown ((f_X9_isThrown ((f_X9_isThrown M 0 1).2) 1 2).2) 0 3).2) 250 10) 0 x1) (tgi ((f_X9_isThrown ((f_X9_isThrown ((f_X9_isThrown M 0 1).2) 1 2).2) 0 3).2) 250 10) 1 x2) (tgi ((f_X9_isThrown ((f_X9_isThrown ((f_X9_isThrown M 0 1).2) 1 2).2) 0 3).2) 250 10) 2 x3) 250 10 ((tgi (f_X9_sets (f_X9_sets (f_X9_sets ((f_X9_isThrown ((f_X9_isThrown ((f_X9_isThrown M 0 1).2) 1 2).2) 0 3).2) (tgi ((f_X9_isThrown ((f_X9_isThrown ((f_X9_isThrown M 0 1).2) 1 2).2) 0 3).2) 250 10) 0 x1) (tgi ((f_X9_isThrown ((f_X9_isThrown ((f_X9_isThrown M 0 1).2) 1 2).2) 0 3).2) 250 10) 1 x2) (tgi ((f_X9_isThrown ((f_X9_isThrown ((f_X9_isThrown M 0 1).2) 1 2).2) 0 3).2) 250 10) 2 x3) 250 10) + 1))) else (0, (f_X9_isThrown ((f_X9_isThrown ((f_X9_isThrown M 0 1).2) 1 2).2) 0 3).2))) else (0, (f_X9_isThrown ((f_X9_isThrown M 0 1).2) 1 2).2)) else (if (f_X9_isThrown ((f_X9_isThrown M 0 1).2) 0 2).1 = 0 then (if (tgi ((f_X9_isThrown ((f_X9_isThrown M 0 1).2) 0 2).2) 250 10) = 10 then (if (f_X9_isThrown ((f_X9_isThrown ((f_X9_isThrown M 0 1).2) 0 2).2) 1 3).1 = 0 then ((tgi ((f_X9_isThrown ((f_X9_isThrown ((f_X9_isThrown M 0 1).2) 0 2).2) 1 3).2) 250 10), (tpi (f_X9_sets (f_X9_sets (f_X9_sets ((f_X9_isThrown ((f_X9_isThrown ((f_X9_isThrown M 0 1).2) 0 2).2) 1 3).2) (tgi ((f_X9_isThrown ((f_X9_isThrown ((f_X9_isThrown M 0 1).2) 0 2).2) 1 3).2) 250 10) 0 x1) (tgi ((f_X9_isThrown ((f_X9_isThrown ((f_X9_isThrown M 0 1).2) 0 2).2) 1 3).2) 250 10) 1 x2) (tgi ((f_X9_isThrown ((f_X9_isThrown ((f_X9_isThrown M 0 1).2) 0 2).2) 1 3).2) 250 10) 2 x3) 250 10 ((tgi (f_X9_sets (f_X9_sets (f_X9_sets ((f_X9_isThrown ((f_X9_isThrown ((f_X9_isThrown M 0 1).2) 0 2).2) 1 3).2) (tgi ((f_X9_isThrown ((f_X9_isThrown ((f_X9_isThrown M 0 1).2) 0 2).2) 1 3).2) 250 10) 0 x1) (tgi ((f_X9_isThrown ((f_X9_isThrown ((f_X9_isThrown M 0 1).2) 0 2).2) 1 3).2) 250 10) 1 x2) (tgi ((f_X9_isThrown ((f_X9_isThrown ((f_X9_isThrown M 0 1).2) 0 2).2) 1 3).2) 250 10) 2 x3) 250 10) + 1))) else (0, (f_X9_isThrown ((f_X9_isThrown ((f_X9_isThrown M 0 1).2) 0 2).2) 1 3).2)) else (if (f_X9_isThrown ((f_X9_isThrown ((f_X9_isThrown M 0 1).2) 0 2).2) 0 3).1 = 0 then ((tgi ((f_X9_isThrown ((f_X9_isThrown ((f_X9_isThrown M 0 1).2) 0 2).2) 0 3).2) 250 10), (tpi (f_X9_sets (f_X9_sets (f_X9_sets ((f_X9_isThrown ((f_X9_isThrown ((f_X9_isThrown M 0 1).2) 0 2).2) 0 3).2) (tgi ((f_X9_isThrown ((f_X9_isThrown ((f_X9_isThrown M 0 1).2) 0 2).2) 0 3).2) 250 10) 0 x1) (tgi ((f_X9_isThrown ((f_X9_isThrown ((f_X9_isThrown M 0 1).2) 0 2).2) 0 3).2) 250 10) 1 x2) (tgi ((f_X9_isThrown ((f_X9_isThrown ((f_X9_isThrown M 0 1).2) 0 2).2) 0 3).2) 250 10) 2 x3) 250 10 ((tgi (f_X9_sets (f_X9_sets (f_X9_sets ((f_X9_isThrown ((f_X9_isThrown ((f_X9_isThrown M 0 1).2) 0 2).2) 0 3).2) (tgi ((f_X9_isThrown ((f_X9_isThrown ((f_X9_isThrown M 0 1).2) 0 2).2) 0 3).2) 250 10) 0 x1) (tgi ((f_X9_isThrown ((f_X9_isThrown ((f_X9_isThrown M 0 1).2) 0 2).2) 0 3).2) 250 10) 1 x2) (tgi ((f_X9_isThrown ((f_X9_isThrown ((f_X9_isThrown M 0 1).2) 0 2).2) 0 3).2) 250 10) 2 x3) 250 10) + 1))) else (0, (f_X9_isThrown ((f_X9_isThrown ((f_X9_isThrown M 0 1).2) 0 2).2) 0 3).2))) else (0, (f_X9_isThrown ((f_X9_isThrown M 0 1).2) 0 2).2)))) else (0, (f_X9_isThrown M 0 1).2))))
def q_X9_boxed (M : tvM) (x1 : Int32) (x2 : Int32) (x3 : Int32) : Prop := (((f_X9_isHolder M x1) = 0 → ((q_X9_isThrown M 1 1) ∧ (((f_X9_isThrown M 1 1).1 = 0 → ((x1 = x2 → ((q_X9_isThrown ((f_X9_isThrown M 1 1).2) 1 2) ∧ (((f_X9_isThrown ((f_X9_isThrown M 1 1).2) 1 2).1 = 0 → (((tgi ((f_X9_isThrown ((f_X9_isThrown M 1 1).2) 1 2).2) 250 10) = 10 → ((q_X9_isThrown ((f_X9_isThrown ((f_X9_isThrown M 1 1).2) 1 2).2) 1 3) ∧ (((f_X9_isThrown ((f_X9_isThrown ((f_X9_isThrown M 1 1).2) 1 2).2) 1 3).1 = 0 → ((q_X9_sets ((f_X9_isThrown ((f_X9_isThrown ((f_X9_isThrown M 1 1).2) 1 2).2) 1 3).2) (tgi ((f_X9_isThrown ((f_X9_isThrown ((f_X9_isThrown M 1 1).2) 1 2).2) 1 3).2) 250 10) 0 x1) ∧ ((q_X9_sets (f_X9_sets ((f_X9_isThrown ((f_X9_isThrown ((f_X9_isThrown M 1 1).2) 1 2).2) 1 3).2) (tgi ((f_X9_isThrown ((f_X9_isThrown ((f_X9_isThrown M 1 1).2) 1 2).2) 1 3).2) 250 10) 0 x1) (tgi ((f_X9_isThrown ((f_X9_isThrown ((f_X9_isThrown M 1 1).2) 1 2).2) 1 3).2) 250 10) 1 x2) ∧ ((q_X9_sets (f_X9_sets (f_X9_sets ((f_X9_isThrown ((f_X9_isThrown ((f_X9_isThrown M 1 1).2) 1 2).2) 1 3).2) (tgi ((f_X9_isThrown ((f_X9_isThrown ((f_X9_isThrown M 1 1).2) 1 2).2) 1 3).2) 250 10) 0 x1) (tgi ((f_X9_isThrown ((f_X9_isThrown ((f_X9_isThrown M 1 1).2) 1 2).2) 1 3).2) 250 10) 1 x2) (tgi ((f_X9_isThrown ((f_X9_isThrown ((f_X9_isThrown M 1 1).2) 1 2).2) 1 3).2) 250 10) 2 x3) ∧ True)))) ∧ (¬ (f_X9_isThrown ((f_X9_isThrown ((f_X9_isThrown M 1 1).2) 1 2).2) 1 3).1 = 0 → True)))) ∧ (¬ (tgi ((f_X9_isThrown ((f_X9_isThrown M 1 1).2) 1 2).2) 250 10) = 10 → ((q_X9_isThrown ((f_X9_isThrown ((f_X9_isThrown M 1 1).2) 1 2).2) 0 3) ∧ (((f_X9_isThrown ((f_X9_isThrown ((f_X9_isThrown M 1 1).2) 1 2).2) 0 3).1 = 0 → ((q_X9_sets ((f_X9_isThrown ((f_X9_isThrown ((f_X9_isThrown M 1 1).2) 1 2).2) 0 3).2) (tgi ((f_X9_isThrown ((f_X9_isThrown ((f_X9_isThrown M 1 1).2) 1 2).2) 0 3).2) 250 10) 0 x1) ∧ ((q_X9_sets (f_X9_sets ((f_X9_isThrown ((f_X9_isThrown ((f_X9_isThrown M 1 1).2) 1 2).2) 0 3).2) (tgi ((f_X9_isThrown ((f_X9_isThrown ((f_X9_isThrown M 1 1).2) 1 2).2) 0 3).2) 250 10) 0 x1) (tgi ((f_X9_isThrown ((f_X9_isThrown ((f_X9_isThrown M 1 1).2) 1 2).2) 0 3).2) 250 10) 1 x2) ∧ ((q_X9_sets (f_X9_sets (f_X9_sets ((f_X9_isThrown ((f_X9_isThrown ((f_X9_isThrown M 1 1).2) 1 2).2) 0 3).2) (tgi ((f_X9_isThrown ((f_X9_isThrown ((f_X9_isThrown M 1 1).2) 1 2).2) 0 3).2) 250 10) 0 x1) (tgi ((f_X9_isThrown ((f_X9_isThrown ((f_X9_isThrown M 1 1).2) 1 2).2) 0 3).2) 250 10) 1 x2) (tgi ((f_X9_isThrown ((f_X9_isThrown ((f_X9_isThrown M 1 1).2) 1 2).2) 0 3).2) 250 10) 2 x3) ∧ True)))) ∧ (¬ (f_X9_isThrown ((f_X9_isThrown ((f_X9_isThrown M 1 1).2) 1 2).2) 0 3).1 = 0 → True)))))) ∧ (¬ (f_X9_isThrown ((f_X9_isThrown M 1 1).2) 1 2).1 = 0 → True)))) ∧ (¬ x1 = x2 → (((f_X9_isIn ((f_X9_isThrown M 1 1).2) x3 0 60) = 0 → ((q_X9_isThrown ((f_X9_isThrown M 1 1).2) 1 2) ∧ (((f_X9_isThrown ((f_X9_isThrown M 1 1).2) 1 2).1 = 0 → (((tgi ((f_X9_isThrown ((f_X9_isThrown M 1 1).2) 1 2).2) 250 10) = 10 → ((q_X9_isThrown ((f_X9_isThrown ((f_X9_isThrown M 1 1).2) 1 2).2) 1 3) ∧ (((f_X9_isThrown ((f_X9_isThrown ((f_X9_isThrown M 1 1).2) 1 2).2) 1 3).1 = 0 → ((q_X9_sets ((f_X9_isThrown ((f_X9_isThrown ((f_X9_isThrown M 1 1).2) 1 2).2) 1 3).2) (tgi ((f_X9_isThrown ((f_X9_isThrown ((f_X9_isThrown M 1 1).2) 1 2).2) 1 3).2) 250 10) 0 x1) ∧ ((q_X9_sets (f_X9_sets ((f_X9_isThrown ((f_X9_isThrown ((f_X9_isThrown M 1 1).2) 1 2).2) 1 3).2) (tgi ((f_X9_isThrown ((f_X9_isThrown ((f_X9_isThrown M 1 1).2) 1 2).2) 1 3).2) 250 10) 0 x1) (tgi ((f_X9_isThrown ((f_X9_isThrown ((f_X9_isThrown M 1 1).2) 1 2).2) 1 3).2) 250 10) 1 x2) ∧ ((q_X9_sets (f_X9_sets (f_X9_sets ((f_X9_isThrown ((f_X9_isThrown ((f_X9_isThrown M 1 1).2) 1 2).2) 1 3).2) (tgi ((f_X9_isThrown ((f_X9_isThrown ((f_X9_isThrown M 1 1).2) 1 2).2) 1 3).2) 250 10) 0 x1) (tgi ((f_X9_isThrown ((f_X9_isThrown ((f_X9_isThrown M 1 1).2) 1 2).2) 1 3).2) 250 10) 1 x2) (tgi ((f_X9_isThrown ((f_X9_isThrown ((f_X9_isThrown M 1 1).2) 1 2).2) 1 3).2) 250 10) 2 x3) ∧ True)))) ∧ (¬ (f_X9_isThrown ((f_X9_isThrown ((f_X9_isThrown M 1 1).2) 1 2).2) 1 3).1 = 0 → True)))) ∧ (¬ (tgi ((f_X9_isThrown ((f_X9_isThrown M 1 1).2) 1 2).2) 250 10) = 10 → ((q_X9_isThrown ((f_X9_isThrown ((f_X9_isThrown M 1 1).2) 1 2).2) 0 3) ∧ (((f_X9_isThrown ((f_X9_isThrown ((f_X9_isThrown M 1 1).2) 1 2).2) 0 3).1 = 0 → ((q_X9_sets ((f_X9_isThrown ((f_X9_isThrown ((f_X9_isThrown M 1 1).2) 1 2).2) 0 3).2) (tgi ((f_X9_isThrown ((f_X9_isThrown ((f_X9_isThrown M 1 1).2) 1 2).2) 0 3).2) 250 10) 0 x1) ∧ ((q_X9_sets (f_X9_sets ((f_X9_isThrown ((f_X9_isThrown ((f_X9_isThrown M 1 1).2) 1 2).2) 0 3).2) (tgi ((f_X9_isThrown ((f_X9_isThrown ((f_X9_isThrown M 1 1).2) 1 2).2) 0 3).2) 250 10) 0 x1) (tgi ((f_X9_isThrown ((f_X9_isThrown ((f_X9_isThrown M 1 1).2) 1 2).2) 0 3).2) 250 10) 1 x2) ∧ ((q_X9_sets (f_X9_sets (f_X9_sets ((f_X9_isThrown ((f_X9_isThrown ((f_X9_isThrown M 1 1).2) 1 2).2) 0 3).2) (tgi ((f_X9_isThrown ((f_X9_isThrown ((f_X9_isThrown M 1 1).2) 1 2).2) 0 3).2) 250 10) 0 x1) (tgi ((f_X9_isThrown ((f_X9_isThrown ((f_X9_isThrown M 1 1).2) 1 2).2) 0 3).2) 250 10) 1 x2) (tgi ((f_X9_isThrown ((f_X9_isThrown ((f_X9_isThrown M 1 1).2) 1 2).2) 0 3).2) 250 10) 2 x3) ∧ True)))) ∧ (¬ (f_X9_isThrown ((f_X9_isThrown ((f_X9_isThrown M 1 1).2) 1 2).2) 0 3).1 = 0 → True)))))) ∧ (¬ (f_X9_isThrown ((f_X9_isThrown M 1 1).2) 1 2).1 = 0 → True)))) ∧ (¬ (f_X9_isIn ((f_X9_isThrown M 1 1).2) x3 0 60) = 0 → ((q_X9_isThrown ((f_X9_isThrown M 1 1).2) 0 2) ∧ (((f_X9_isThrown ((f_X9_isThrown M 1 1).2) 0 2).1 = 0 → (((tgi ((f_X9_isThrown ((f_X9_isThrown M 1 1).2) 0 2).2) 250 10) = 10 → ((q_X9_isThrown ((f_X9_isThrown ((f_X9_isThrown M 1 1).2) 0 2).2) 1 3) ∧ (((f_X9_isThrown ((f_X9_isThrown ((f_X9_isThrown M 1 1).2) 0 2).2) 1 3).1 = 0 → ((q_X9_sets ((f_X9_isThrown ((f_X9_isThrown ((f_X9_isThrown M 1 1).2) 0 2).2) 1 3).2) (tgi ((f_X9_isThrown ((f_X9_isThrown ((f_X9_isThrown M 1 1).2) 0 2).2) 1 3).2) 250 10) 0 x1) ∧ ((q_X9_sets (f_X9_sets ((f_X9_isThrown ((f_X9_isThrown ((f_X9_isThrown M 1 1).2) 0 2).2) 1 3).2) (tgi ((f_X9_isThrown ((f_X9_isThrown ((f_X9_isThrown M 1 1).2) 0 2).2) 1 3).2) 250 10) 0 x1) (tgi ((f_X9_isThrown ((f_X9_isThrown ((f_X9_isThrown M 1 1).2) 0 2).2) 1 3).2) 250 10) 1 x2) ∧ ((q_X9_sets (f_X9_sets (f_X9_sets ((f_X9_isThrown ((f_X9_isThrown ((f_X9_isThrown M 1 1).2) 0 2).2) 1 3).2) (tgi ((f_X9_isThrown ((f_X9_isThrown ((f_X9_isThrown M 1 1).2) 0 2).2) 1 3).2) 250 10) 0 x1) (tgi ((f_X9_isThrown ((f_X9_isThrown ((f_X9_isThrown M 1 1).2) 0 2).2) 1 3).2) 250 10) 1 x2) (tgi ((f_X9_isThrown ((f_X9_isThrown ((f_X9_isThrown M 1 1).2) 0 2).2) 1 3).2) 250 10) 2 x3) ∧ True)))) ∧ (¬ (f_X9_isThrown ((f_X9_isThrown ((f_X9_isThrown M 1 1).2) 0 2).2) 1 3).1 = 0 → True)))) ∧ (¬ (tgi ((f_X9_isThrown ((f_X9_isThrown M 1 1).2) 0 2).2) 250 10) = 10 → ((q_X9_isThrown ((f_X9_isThrown ((f_X9_isThrown M 1 1).2) 0 2).2) 0 3) ∧ (((f_X9_isThrown ((f_X9_isThrown ((f_X9_isThrown M 1 1).2) 0 2).2) 0 3).1 = 0 → ((q_X9_sets ((f_X9_isThrown ((f_X9_isThrown ((f_X9_isThrown M 1 1).2) 0 2).2) 0 3).2) (tgi ((f_X9_isThrown ((f_X9_isThrown ((f_X9_isThrown M 1 1).2) 0 2).2) 0 3).2) 250 10) 0 x1) ∧ ((q_X9_sets (f_X9_sets ((f_X9_isThrown ((f_X9_isThrown ((f_X9_isThrown M 1 1).2) 0 2).2) 0 3).2) (tgi ((f_X9_isThrown ((f_X9_isThrown ((f_X9_isThrown M 1 1).2) 0 2).2) 0 3).2) 250 10) 0 x1) (tgi ((f_X9_isThrown ((f_X9_isThrown ((f_X9_isThrown M 1 1).2) 0 2).2) 0 3).2) 250 10) 1 x2) ∧ ((q_X9_sets (f_X9_sets (f_X9_sets ((f_X9_isThrown ((f_X9_isThrown ((f_X9_isThrown M 1 1).2) 0 2).2) 0 3).2) (tgi ((f_X9_isThrown ((f_X9_isThrown ((f_X9_isThrown M 1 1).2) 0 2).2) 0 3).2) 250 10) 0 x1) (tgi ((f_X9_isThrown ((f_X9_isThrown ((f_X9_isThrown M 1 1).2) 0 2).2) 0 3).2) 250 10) 1 x2) (tgi ((f_X9_isThrown ((f_X9_isThrown ((f_X9_isThrown M 1 1).2) 0 2).2) 0 3).2) 250 10) 2 x3) ∧ True)))) ∧ (¬ (f_X9_isThrown ((f_X9_isThrown ((f_X9_isThrown M 1 1).2) 0 2).2) 0 3).1 = 0 → True)))))) ∧ (¬ (f_X9_isThrown ((f_X9_isThrown M 1 1).2) 0 2).1 = 0 → True)))))))) ∧ (¬ (f_X9_isThrown M 1 1).1 = 0 → True)))) ∧ (¬ (f_X9_isHolder M x1) = 0 → (((f_X9_isHolder M x2) = 0 → ((q_X9_isThrown M 1 1) ∧ (((f_X9_isThrown M 1 1).1 = 0 → ((x1 = x2 → ((q_X9_isThrown ((f_X9_isThrown M 1 1).2) 1 2) ∧ (((f_X9_isThrown ((f_X9_isThrown M 1 1).2) 1 2).1 = 0 → (((tgi ((f_X9_isThrown ((f_X9_isThrown M 1 1).2) 1 2).2) 250 10) = 10 → ((q_X9_isThrown ((f_X9_isThrown ((f_X9_isThrown M 1 1).2) 1 2).2) 1 3) ∧ (((f_X9_isThrown ((f_X9_isThrown ((f_X9_isThrown M 1 1).2) 1 2).2) 1 3).1 = 0 → ((q_X9_sets ((f_X9_isThrown ((f_X9_isThrown ((f_X9_isThrown M 1 1).2) 1 2).2) 1 3).2) (tgi ((f_X9_isThrown ((f_X9_isThrown ((f_X9_isThrown M 1 1).2) 1 2).2) 1 3).2) 250 10) 0 x1) ∧ ((q_X9_sets (f_X9_sets ((f_X9_isThrown ((f_X9_isThrown ((f_X9_isThrown M 1 1).2) 1 2).2) 1 3).2) (tgi ((f_X9_isThrown ((f_X9_isThrown ((f_X9_isThrown M 1 1).2) 1 2).2) 1 3).2) 250 10) 0 x1) (tgi ((f_X9_isThrown ((f_X9_isThrown ((f_X9_isThrown M 1 1).2) 1 2).2) 1 3).2) 250 10) 1 x2) ∧ ((q_X9_sets (f_X9_sets (f_X9_sets ((f_X9_isThrown ((f_X9_isThrown ((f_X9_isThrown M 1 1).2) 1 2).2) 1 3).2) (tgi ((f_X9_isThrown ((f_X9_isThrown ((f_X9_isThrown M 1 1).2) 1 2).2) 1 3).2) 250 10) 0 x1) (tgi ((f_X9_isThrown ((f_X9_isThrown ((f_X9_isThrown M 1 1).2) 1 2).2) 1 3).2) 250 10) 1 x2) (tgi ((f_X9_isThrown ((f_X9_isThrown ((f_X9_isThrown M 1 1).2) 1 2).2) 1 3).2) 250 10) 2 x3) ∧ True)))) ∧ (¬ (f_X9_isThrown ((f_X9_isThrown ((f_X9_isThrown M 1 1).2) 1 2).2) 1 3).1 = 0 → True)))) ∧ (¬ (tgi ((f_X9_isThrown ((f_X9_isThrown M 1 1).2) 1 2).2) 250 10) = 10 → ((q_X9_isThrown ((f_X9_isThrown ((f_X9_isThrown M 1 1).2) 1 2).2) 0 3) ∧ (((f_X9_isThrown ((f_X9_isThrown ((f_X9_isThrown M 1 1).2) 1 2).2) 0 3).1 = 0 → ((q_X9_sets ((f_X9_isThrown ((f_X9_isThrown ((f_X9_isThrown M 1 1).2) 1 2).2) 0 3).2) (tgi ((f_X9_isThrown ((f_X9_isThrown ((f_X9_isThrown M 1 1).2) 1 2).2) 0 3).2) 250 10) 0 x1) ∧ ((q_X9_sets (f_X9_sets ((f_X9_isThrown ((f_X9_isThrown ((f_X9_isThrown M 1 1).2) 1 2).2) 0 3).2) (tgi ((f_X9_isThrown ((f_X9_isThrown ((f_X9_isThrown M 1 1).2) 1 2).2) 0 3).2) 250 10) 0 x1) (tgi ((f_X9_isThrown ((f_X9_isThrown ((f_X9_isThrown M 1 1).2) 1 2).2) 0 3).2) 250 10) 1 x2) ∧ ((q_X9_sets (f_X9_sets (f_X9_sets ((f_X9_isThrown ((f_X9_isThrown ((f_X9_isThrown M 1 1).2) 1 2).2) 0 3).2) (tgi ((f_X9_isThrown ((f_X9_isThrown ((f_X9_isThrown M 1 1).2) 1 2).2) 0 3).2) 250 10) 0 x1) (tgi ((f_X9_isThrown ((f_X9_isThrown ((f_X9_isThrown M 1 1).2) 1 2).2) 0 3).2) 250 10) 1 x2) (tgi ((f_X9_isThrown ((f_X9_isThrown ((f_X9_isThrown M 1 1).2) 1 2).2) 0 3).2) 250 10) 2 x3) ∧ True)))) ∧ (¬ (f_X9_isThrown ((f_X9_isThrown ((f_X9_isThrown M 1 1).2) 1 2).2) 0 3).1 = 0 → True)))))) ∧ (¬ (f_X9_isThrown ((f_X9_isThrown M 1 1).2) 1 2).1 = 0 → True)))) ∧ (¬ x1 = x2 → (((f_X9_isIn ((f_X9_isThrown M 1 1).2) x3 0 60) = 0 → ((q_X9_isThrown ((f_X9_isThrown M 1 1).2) 1 2) ∧ (((f_X9_isThrown ((f_X9_isThrown M 1 1).2) 1 2).1 = 0 → (((tgi ((f_X9_isThrown ((f_X9_isThrown M 1 1).2) 1 2).2) 250 10) = 10 → ((q_X9_isThrown ((f_X9_isThrown ((f_X9_isThrown M 1 1).2) 1 2).2) 1 3) ∧ (((f_X9_isThrown ((f_X9_isThrown ((f_X9_isThrown M 1 1).2) 1 2).2) 1 3).1 = 0 → ((q_X9_sets ((f_X9_isThrown ((f_X9_isThrown ((f_X9_isThrown M 1 1).2) 1 2).2) 1 3).2) (tgi ((f_X9_isThrown ((f_X9_isThrown ((f_X9_isThrown M 1 1).2) 1 2).2) 1 3).2) 250 10) 0 x1) ∧ ((q_X9_sets (f_X9_sets ((f_X9_isThrown ((f_X9_isThrown ((f_X9_isThrown M 1 1).2) 1 2).2) 1 3).2) (tgi ((f_X9_isThrown ((f_X9_isThrown ((f_X9_isThrown M 1 1).2) 1 2).2) 1 3).2) 250 10) 0 x1) (tgi ((f_X9_isThrown ((f_X9_isThrown ((f_X9_isThrown M 1 1).2) 1 2).2) 1 3).2) 250 10) 1 x2) ∧ ((q_X9_sets (f_X9_sets (f_X9_sets ((f_X9_isThrown ((f_X9_isThrown ((f_X9_isThrown M 1 1).2) 1 2).2) 1 3).2) (tgi ((f_X9_isThrown ((f_X9_isThrown ((f_X9_isThrown M 1 1).2) 1 2).2) 1 3).2) 250 10) 0 x1) (tgi ((f_X9_isThrown ((f_X9_isThrown ((f_X9_isThrown M 1 1).2) 1 2).2) 1 3).2) 250 10) 1 x2) (tgi ((f_X9_isThrown ((f_X9_isThrown ((f_X9_isThrown M 1 1).2) 1 2).2) 1 3).2) 250 10) 2 x3) ∧ True)))) ∧ (¬ (f_X9_isThrown ((f_X9_isThrown ((f_X9_isThrown M 1 1).2) 1 2).2) 1 3).1 = 0 → True)))) ∧ (¬ (tgi ((f_X9_isThrown ((f_X9_isThrown M 1 1).2) 1 2).2) 250 10) = 10 → ((q_X9_isThrown ((f_X9_isThrown ((f_X9_isThrown M 1 1).2) 1 2).2) 0 3) ∧ (((f_X9_isThrown ((f_X9_isThrown ((f_X9_isThrown M 1 1).2) 1 2).2) 0 3).1 = 0 → ((q_X9_sets ((f_X9_isThrown ((f_X9_isThrown ((f_X9_isThrown M 1 1).2) 1 2).2) 0 3).2) (tgi ((f_X9_isThrown ((f_X9_isThrown ((f_X9_isThrown M 1 1).2) 1 2).2) 0 3).2) 250 10) 0 x1) ∧ ((q_X9_sets (f_X9_sets ((f_X9_isThrown ((f_X9_isThrown ((f_X9_isThrown M 1 1).2) 1 2).2) 0 3).2) (tgi ((f_X9_isThrown ((f_X9_isThrown ((f_X9_isThrown M 1 1).2) 1 2).2) 0 3).2) 250 10) 0 x1) (tgi ((f_X9_isThrown ((f_X9_isThrown ((f_X9_isThrown M 1 1).2) 1 2).2) 0 3).2) 250 10) 1 x2) ∧ ((q_X9_sets (f_X9_sets (f_X9_sets ((f_X9_isThrown ((f_X9_isThrown ((f_X9_isThrown M 1 1).2) 1 2).2) 0 3).2) (tgi ((f_X9_isThrown ((f_X9_isThrown ((f_X9_isThrown M 1 1).2) 1 2).2) 0 3).2) 250 10) 0 x1) (tgi ((f_X9_isThrown ((f_X9_isThrown ((f_X9_isThrown M 1 1).2) 1 2).2) 0 3).2) 250 10) 1 x2) (tgi ((f_X9_isThrown ((f_X9_isThrown ((f_X9_isThrown M 1 1).2) 1 2).2) 0 3).2) 250 10) 2 x3) ∧ True)))) ∧ (¬ (f_X9_isThrown ((f_X9_isThrown ((f_X9_isThrown M 1 1).2) 1 2).2) 0 3).1 = 0 → True)))))) ∧ (¬ (f_X9_isThrown ((f_X9_isThrown M 1 1).2) 1 2).1 = 0 → True)))) ∧ (¬ (f_X9_isIn ((f_X9_isThrown M 1 1).2) x3 0 60) = 0 → ((q_X9_isThrown ((f_X9_isThrown M 1 1).2) 0 2) ∧ (((f_X9_isThrown ((f_X9_isThrown M 1 1).2) 0 2).1 = 0 → (((tgi ((f_X9_isThrown ((f_X9_isThrown M 1 1).2) 0 2).2) 250 10) = 10 → ((q_X9_isThrown ((f_X9_isThrown ((f_X9_isThrown M 1 1).2) 0 2).2) 1 3) ∧ (((f_X9_isThrown ((f_X9_isThrown ((f_X9_isThrown M 1 1).2) 0 2).2) 1 3).1 = 0 → ((q_X9_sets ((f_X9_isThrown ((f_X9_isThrown ((f_X9_isThrown M 1 1).2) 0 2).2) 1 3).2) (tgi ((f_X9_isThrown ((f_X9_isThrown ((f_X9_isThrown M 1 1).2) 0 2).2) 1 3).2) 250 10) 0 x1) ∧ ((q_X9_sets (f_X9_sets ((f_X9_isThrown ((f_X9_isThrown ((f_X9_isThrown M 1 1).2) 0 2).2) 1 3).2) (tgi ((f_X9_isThrown ((f_X9_isThrown ((f_X9_isThrown M 1 1).2) 0 2).2) 1 3).2) 250 10) 0 x1) (tgi ((f_X9_isThrown ((f_X9_isThrown ((f_X9_isThrown M 1 1).2) 0 2).2) 1 3).2) 250 10) 1 x2) ∧ ((q_X9_sets (f_X9_sets (f_X9_sets ((f_X9_isThrown ((f_X9_isThrown ((f_X9_isThrown M 1 1).2) 0 2).2) 1 3).2) (tgi ((f_X9_isThrown ((f_X9_isThrown ((f_X9_isThrown M 1 1).2) 0 2).2) 1 3).2) 250 10) 0 x1) (tgi ((f_X9_isThrown ((f_X9_isThrown ((f_X9_isThrown M 1 1).2) 0 2).2) 1 3).2) 250 10) 1 x2) (tgi ((f_X9_isThrown ((f_X9_isThrown ((f_X9_isThrown M 1 1).2) 0 2).2) 1 3).2) 250 10) 2 x3) ∧ True)))) ∧ (¬ (f_X9_isThrown ((f_X9_isThrown ((f_X9_isThrown M 1 1).2) 0 2).2) 1 3).1 = 0 → True)))) ∧ (¬ (tgi ((f_X9_isThrown ((f_X9_isThrown M 1 1).2) 0 2).2) 250 10) = 10 → ((q_X9_isThrown ((f_X9_isThrown ((f_X9_isThrown M 1 1).2) 0 2).2) 0 3) ∧ (((f_X9_isThrown ((f_X9_isThrown ((f_X9_isThrown M 1 1).2) 0 2).2) 0 3).1 = 0 → ((q_X9_sets ((f_X9_isThrown ((f_X9_isThrown ((f_X9_isThrown M 1 1).2) 0 2).2) 0 3).2) (tgi ((f_X9_isThrown ((f_X9_isThrown ((f_X9_isThrown M 1 1).2) 0 2).2) 0 3).2) 250 10) 0 x1) ∧ ((q_X9_sets (f_X9_sets ((f_X9_isThrown ((f_X9_isThrown ((f_X9_isThrown M 1 1).2) 0 2).2) 0 3).2) (tgi ((f_X9_isThrown ((f_X9_isThrown ((f_X9_isThrown M 1 1).2) 0 2).2) 0 3).2) 250 10) 0 x1) (tgi ((f_X9_isThrown ((f_X9_isThrown ((f_X9_isThrown M 1 1).2) 0 2).2) 0 3).2) 250 10) 1 x2) ∧ ((q_X9_sets (f_X9_sets (f_X9_sets ((f_X9_isThrown ((f_X9_isThrown ((f_X9_isThrown M 1 1).2) 0 2).2) 0 3).2) (tgi ((f_X9_isThrown ((f_X9_isThrown ((f_X9_isThrown M 1 1).2) 0 2).2) 0 3).2) 250 10) 0 x1) (tgi ((f_X9_isThrown ((f_X9_isThrown ((f_X9_isThrown M 1 1).2) 0 2).2) 0 3).2) 250 10) 1 x2) (tgi ((f_X9_isThrown ((f_X9_isThrown ((f_X9_isThrown M 1 1).2) 0 2).2) 0 3).2) 250 10) 2 x3) ∧ True)))) ∧ (¬ (f_X9_isThrown ((f_X9_isThrown ((f_X9_isThrown M 1 1).2) 0 2).2) 0 3).1 = 0 → True)))))) ∧ (¬ (f_X9_isThrown ((f_X9_isThrown M 1 1).2) 0 2).1 = 0 → True)))))))) ∧ (¬ (f_X9_isThrown M 1 1).1 = 0 → True)))) ∧ (¬ (f_X9_isHolder M x2) = 0 → ((q_X9_isThrown M 0 1) ∧ (((f_X9_isThrown M 0 1).1 = 0 → ((x1 = x2 → ((q_X9_isThrown ((f_X9_isThrown M 0 1).2) 1 2) ∧ (((f_X9_isThrown ((f_X9_isThrown M 0 1).2) 1 2).1 = 0 → (((tgi ((f_X9_isThrown ((f_X9_isThrown M 0 1).2) 1 2).2) 250 10) = 10 → ((q_X9_isThrown ((f_X9_isThrown ((f_X9_isThrown M 0 1).2) 1 2).2) 1 3) ∧ (((f_X9_isThrown ((f_X9_isThrown ((f_X9_isThrown M 0 1).2) 1 2).2) 1 3).1 = 0 → ((q_X9_sets ((f_X9_isThrown ((f_X9_isThrown ((f_X9_isThrown M 0 1).2) 1 2).2) 1 3).2) (tgi ((f_X9_isThrown ((f_X9_isThrown ((f_X9_isThrown M 0 1).2) 1 2).2) 1 3).2) 250 10) 0 x1) ∧ ((q_X9_sets (f_X9_sets ((f_X9_isThrown ((f_X9_isThrown ((f_X9_isThrown M 0 1).2) 1 2).2) 1 3).2) (tgi ((f_X9_isThrown ((f_X9_isThrown ((f_X9_isThrown M 0 1).2) 1 2).2) 1 3).2) 250 10) 0 x1) (tgi ((f_X9_isThrown ((f_X9_isThrown ((f_X9_isThrown M 0 1).2) 1 2).2) 1 3).2) 250 10) 1 x2) ∧ ((q_X9_sets (f_X9_sets (f_X9_sets ((f_X9_isThrown ((f_X9_isThrown ((f_X9_isThrown M 0 1).2) 1 2).2) 1 3).2) (tgi ((f_X9_isThrown ((f_X9_isThrown ((f_X9_isThrown M 0 1).2) 1 2).2) 1 3).2) 250 10) 0 x1) (tgi ((f_X9_isThrown ((f_X9_isThrown ((f_X9_isThrown M 0 1).2) 1 2).2) 1 3).2) 250 10) 1 x2) (tgi ((f_X9_isThrown ((f_X9_isThrown ((f_X9_isThrown M 0 1).2) 1 2).2) 1 3).2) 250 10) 2 x3) ∧ True)))) ∧ (¬ (f_X9_isThrown ((f_X9_isThrown ((f_X9_isThrown M 0 1).2) 1 2).2) 1 3).1 = 0 → True)))) ∧ (¬ (tgi ((f_X9_isThrown ((f_X9_isThrown M 0 1).2) 1 2).2) 250 10) = 10 → ((q_X9_isThrown ((f_X9_isThrown ((f_X9_isThrown M 0 1).2) 1 2).2) 0 3) ∧ (((f_X9_isThrown ((f_X9_isThrown ((f_X9_isThrown M 0 1).2) 1 2).2) 0 3).1 = 0 → ((q_X9_sets ((f_X9_isThrown ((f_X9_isThrown ((f_X9_isThrown M 0 1).2) 1 2).2) 0 3).2) (tgi ((f_X9_isThrown ((f_X9_isThrown ((f_X9_isThrown M 0 1).2) 1 2).2) 0 3).2) 250 10) 0 x1) ∧ ((q_X9_sets (f_X9_sets ((f_X9_isThrown ((f_X9_isThrown ((f_X9_isThrown M 0 1).2) 1 2).2) 0 3).2) (tgi ((f_X9_isThrown ((f_X9_isThrown ((f_X9_isThrown M 0 1).2) 1 2).2) 0 3).2) 250 10) 0 x1) (tgi ((f_X9_isThrown ((f_X9_isThrown ((f_X9_isThrown M 0 1).2) 1 2).2) 0 3).2) 250 10) 1 x2) ∧ ((q_X9_sets (f_X9_sets (f_X9_sets ((f_X9_isThrown ((f_X9_isThrown ((f_X9_isThrown M 0 1).2) 1 2).2) 0 3).2) (tgi ((f_X9_isThrown ((f_X9_isThrown ((f_X9_isThrown M 0 1).2) 1 2).2) 0 3).2) 250 10) 0 x1) (tgi ((f_X9_isThrown ((f_X9_isThrown ((f_X9_isThrown M 0 1).2) 1 2).2) 0 3).2) 250 10) 1 x2) (tgi ((f_X9_isThrown ((f_X9_isThrown ((f_X9_isThrown M 0 1).2) 1 2).2) 0 3).2) 250 10) 2 x3) ∧ True)))) ∧ (¬ (f_X9_isThrown ((f_X9_isThrown ((f_X9_isThrown M 0 1).2) 1 2).2) 0 3).1 = 0 → True)))))) ∧ (¬ (f_X9_isThrown ((f_X9_isThrown M 0 1).2) 1 2).1 = 0 → True)))) ∧ (¬ x1 = x2 → (((f_X9_isIn ((f_X9_isThrown M 0 1).2) x3 0 60) = 0 → ((q_X9_isThrown ((f_X9_isThrown M 0 1).2) 1 2) ∧ (((f_X9_isThrown ((f_X9_isThrown M 0 1).2) 1 2).1 = 0 → (((tgi ((f_X9_isThrown ((f_X9_isThrown M 0 1).2) 1 2).2) 250 10) = 10 → ((q_X9_isThrown ((f_X9_isThrown ((f_X9_isThrown M 0 1).2) 1 2).2) 1 3) ∧ (((f_X9_isThrown ((f_X9_isThrown ((f_X9_isThrown M 0 1).2) 1 2).2) 1 3).1 = 0 → ((q_X9_sets ((f_X9_isThrown ((f_X9_isThrown ((f_X9_isThrown M 0 1).2) 1 2).2) 1 3).2) (tgi ((f_X9_isThrown ((f_X9_isThrown ((f_X9_isThrown M 0 1).2) 1 2).2) 1 3).2) 250 10) 0 x1) ∧ ((q_X9_sets (f_X9_sets ((f_X9_isThrown ((f_X9_isThrown ((f_X9_isThrown M 0 1).2) 1 2).2) 1 3).2) (tgi ((f_X9_isThrown ((f_X9_isThrown ((f_X9_isThrown M 0 1).2) 1 2).2) 1 3).2) 250 10) 0 x1) (tgi ((f_X9_isThrown ((f_X9_isThrown ((f_X9_isThrown M 0 1).2) 1 2).2) 1 3).2) 250 10) 1 x2) ∧ ((q_X9_sets (f_X9_sets (f_X9_sets ((f_X9_isThrown ((f_X9_isThrown ((f_X9_isThrown M 0 1).2) 1 2).2) 1 3).2) (tgi ((f_X9_isThrown ((f_X9_isThrown ((f_X9_isThrown M 0 1).2) 1 2).2) 1 3).2) 250 10) 0 x1) (tgi ((f_X9_isThrown ((f_X9_isThrown ((f_X9_isThrown M 0 1).2) 1 2).2) 1 3).2) 250 10) 1 x2) (tgi ((f_X9_isThrown ((f_X9_isThrown ((f_X9_isThrown M 0 1).2) 1 2).2) 1 3).2) 250 10) 2 x3) ∧ True)))) ∧ (¬ (f_X9_isThrown ((f_X9_isThrown ((f_X9_isThrown M 0 1).2) 1 2).2) 1 3).1 = 0 → True)))) ∧ (¬ (tgi ((f_X9_isThrown ((f_X9_isThrown M 0 1).2) 1 2).2) 250 10) = 10 → ((q_X9_isThrown ((f_X9_isThrown ((f_X9_isThrown M 0 1).2) 1 2).2) 0 3) ∧ (((f_X9_isThrown ((f_X9_isThrown ((f_X9_isThrown M 0 1).2) 1 2).2) 0 3).1 = 0 → ((q_X9_sets ((f_X9_isThrown ((f_X9_isThrown ((f_X9_isThrown M 0 1).2) 1 2).2) 0 3).2) (tgi ((f_X9_isThrown ((f_X9_isThrown ((f_X9_isThrown M 0 1).2) 1 2).2) 0 3).2) 250 10) 0 x1) ∧ ((q_X9_sets (f_X9_sets ((f_X9_isThrown ((f_X9_isThrown ((f_X9_isThrown M 0 1).2) 1 2).2) 0 3).2) (tgi ((f_X9_isThrown ((f_X9_isThrown ((f_X9_isThrown M 0 1).2) 1 2).2) 0 3).2) 250 10) 0 x1) (tgi ((f_X9_isThrown ((f_X9_isThrown ((f_X9_isThrown M 0 1).2) 1 2).2) 0 3).2) 250 10) 1 x2) ∧ ((q_X9_sets (f_X9_sets (f_X9_sets ((f_X9_isThrown ((f_X9_isThrown ((f_X9_isThrown M 0 1).2) 1 2).2) 0 3).2) (tgi ((f_X9_isThrown ((f_X9_isThrown ((f_X9_isThrown M 0 1).2) 1 2).2) 0 3).2) 250 10) 0 x1) (tgi ((f_X9_isThrown ((f_X9_isThrown ((f_X9_isThrown M 0 1).2) 1 2).2) 0 3).2) 250 10) 1 x2) (tgi ((f_X9_isThrown ((f_X9_isThrown ((f_X9_isThrown M 0 1).2) 1 2).2) 0 3).2) 250 10) 2 x3) ∧ True)))) ∧ (¬ (f_X9_isThrown ((f_X9_isThrown ((f_X9_isThrown M 0 1).2) 1 2).2) 0 3).1 = 0 → True)))))) ∧ (¬ (f_X9_isThrown ((f_X9_isThrown M 0 1).2) 1 2).1 = 0 → True)))) ∧ (¬ (f_X9_isIn ((f_X9_isThrown M 0 1).2) x3 0 60) = 0 → ((q_X9_isThrown ((f_X9_isThrown M 0 1).2) 0 2) ∧ (((f_X9_isThrown ((f_X9_isThrown M 0 1).2) 0 2).1 = 0 → (((tgi ((f_X9_isThrown ((f_X9_isThrown M 0 1).2) 0 2).2) 250 10) = 10 → ((q_X9_isThrown ((f_X9_isThrown ((f_X9_isThrown M 0 1).2) 0 2).2) 1 3) ∧ (((f_X9_isThrown ((f_X9_isThrown ((f_X9_isThrown M 0 1).2) 0 2).2) 1 3).1 = 0 → ((q_X9_sets ((f_X9_isThrown ((f_X9_isThrown ((f_X9_isThrown M 0 1).2) 0 2).2) 1 3).2) (tgi ((f_X9_isThrown ((f_X9_isThrown ((f_X9_isThrown M 0 1).2) 0 2).2) 1 3).2) 250 10) 0 x1) ∧ ((q_X9_sets (f_X9_sets ((f_X9_isThrown ((f_X9_isThrown ((f_X9_isThrown M 0 1).2) 0 2).2) 1 3).2) (tgi ((f_X9_isThrown ((f_X9_isThrown ((f_X9_isThrown M 0 1).2) 0 2).2) 1 3).2) 250 10) 0 x1) (tgi ((f_X9_isThrown ((f_X9_isThrown ((f_X9_isThrown M 0 1).2) 0 2).2) 1 3).2) 250 10) 1 x2) ∧ ((q_X9_sets (f_X9_sets (f_X9_sets ((f_X9_isThrown ((f_X9_isThrown ((f_X9_isThrown M 0 1).2) 0 2).2) 1 3).2) (tgi ((f_X9_isThrown ((f_X9_isThrown ((f_X9_isThrown M 0 1).2) 0 2).2) 1 3).2) 250 10) 0 x1) (tgi ((f_X9_isThrown ((f_X9_isThrown ((f_X9_isThrown M 0 1).2) 0 2).2) 1 3).2) 250 10) 1 x2) (tgi ((f_X9_isThrown ((f_X9_isThrown ((f_X9_isThrown M 0 1).2) 0 2).2) 1 3).2) 250 10) 2 x3) ∧ True)))) ∧ (¬ (f_X9_isThrown ((f_X9_isThrown ((f_X9_isThrown M 0 1).2) 0 2).2) 1 3).1 = 0 → True)))) ∧ (¬ (tgi ((f_X9_isThrown ((f_X9_isThrown M 0 1).2) 0 2).2) 250 10) = 10 → ((q_X9_isThrown ((f_X9_isThrown ((f_X9_isThrown M 0 1).2) 0 2).2) 0 3) ∧ (((f_X9_isThrown ((f_X9_isThrown ((f_X9_isThrown M 0 1).2) 0 2).2) 0 3).1 = 0 → ((q_X9_sets ((f_X9_isThrown ((f_X9_isThrown ((f_X9_isThrown M 0 1).2) 0 2).2) 0 3).2) (tgi ((f_X9_isThrown ((f_X9_isThrown ((f_X9_isThrown M 0 1).2) 0 2).2) 0 3).2) 250 10) 0 x1) ∧ ((q_X9_sets (f_X9_sets ((f_X9_isThrown ((f_X9_isThrown ((f_X9_isThrown M 0 1).2) 0 2).2) 0 3).2) (tgi ((f_X9_isThrown ((f_X9_isThrown ((f_X9_isThrown M 0 1).2) 0 2).2) 0 3).2) 250 10) 0 x1) (tgi ((f_X9_isThrown ((f_X9_isThrown ((f_X9_isThrown M 0 1).2) 0 2).2) 0 3).2) 250 10) 1 x2) ∧ ((q_X9_sets (f_X9_sets (f_X9_sets ((f_X9_isThrown ((f_X9_isThrown ((f_X9_isThrown M 0 1).2) 0 2).2) 0 3).2) (tgi ((f_X9_isThrown ((f_X9_isThrown ((f_X9_isThrown M 0 1).2) 0 2).2) 0 3).2) 250 10) 0 x1) (tgi ((f_X9_isThrown ((f_X9_isThrown ((f_X9_isThrown M 0 1).2) 0 2).2) 0 3).2) 250 10) 1 x2) (tgi ((f_X9_isThrown ((f_X9_isThrown ((f_X9_isThrown M 0 1).2) 0 2).2) 0 3).2) 250 10) 2 x3) ∧ True)))) ∧ (¬ (f_X9_isThrown ((f_X9_isThrown ((f_X9_isThrown M 0 1).2) 0 2).2) 0 3).1 = 0 → True)))))) ∧ (¬ (f_X9_isThrown ((f_X9_isThrown M 0 1).2) 0 2).1 = 0 → True)))))))) ∧ (¬ (f_X9_isThrown M 0 1).1 = 0 → True)))))))
theorem m_X9_boxed (G : tvG) (M : tvM) (x1 : Int32) (x2 : Int32) (x3 : Int32) (hq : q_X9_boxed M x1 x2 x3) : tvRun G yX9_boxed cX9_boxed 5 (some .int) 3 0 0 tvP0 tvP0 [.ref (G.2.1 + 249), .int x1, .int x2, .int x3] M (.inl (some (.int (f_X9_boxed M x1 x2 x3).1))) ((f_X9_boxed M x1 x2 x3).2) := by
  refine tvRun.of yk_X9_boxed rfl [some (.ref (G.2.1 + 249)), some (.int x1), some (.int x2), some (.int x3), none] rfl (Nat.le_of_ble_eq_true rfl) ?_
  intro E hG C hQ; subst hG
  refine tv_aload_n C dk_X9_boxed_0 rfl ?_
  refine tv_aload_n C dk_X9_boxed_1 rfl ?_
  refine tv_iload_n C dk_X9_boxed_2 rfl ?_
  refine tv_cV1 C dk_X9_boxed_3 ml_RX9_80 yk_X9_isHolder yi_X9_isHolder (m_X9_isHolder _ M x1) (Nat.le_of_ble_eq_true rfl) rfl rfl rfl rfl (Nat.le_of_ble_eq_true rfl) (Nat.le_of_ble_eq_true rfl) (Nat.le_of_ble_eq_true rfl) (Nat.le_of_ble_eq_true rfl) (Nat.le_of_ble_eq_true rfl) ?_
  refine tv_if_eq C dk_X9_boxed_6 (fun h1 => ?_) (fun h1 => ?_)
  · have q1 := hq.1 h1
    refine tv_iconst (v := 1) C dk_X9_boxed_17 (by decide) ?_
    refine tv_goto C dk_X9_boxed_18 ?_
    refine tv_iconst (v := 1) C dk_X9_boxed_22 (by decide) ?_
    have q2 := q1.2
    refine tv_cV1 C dk_X9_boxed_23 ml_RX9_62 yk_X9_isThrown yi_X9_isThrown (m_X9_isThrown _ M 1 1 q1.1) (Nat.le_of_ble_eq_true rfl) rfl rfl rfl rfl (Nat.le_of_ble_eq_true rfl) (Nat.le_of_ble_eq_true rfl) (Nat.le_of_ble_eq_true rfl) (Nat.le_of_ble_eq_true rfl) (Nat.le_of_ble_eq_true rfl) ?_
    refine tv_if_ne C dk_X9_boxed_26 (fun h2 => ?_) (fun h2 => ?_)
    · have q3 := q2.2 h2
      refine tv_iconst (v := 0) C dk_X9_boxed_82 (by decide) ?_
      exact tv_iret C hQ dk_X9_boxed_83 rfl (by rw [f_X9_boxed, if_pos h1, if_neg h2]) (by rw [f_X9_boxed, if_pos h1, if_neg h2])
    have q4 := q2.1 h2
    refine tv_aload_n C dk_X9_boxed_29 rfl ?_
    refine tv_iload_n C dk_X9_boxed_30 rfl ?_
    refine tv_iload_n C dk_X9_boxed_31 rfl ?_
    refine tv_icmp_eq C dk_X9_boxed_32 (fun h3 => ?_) (fun h3 => ?_)
    · have q5 := q4.1 h3
      refine tv_iconst (v := 1) C dk_X9_boxed_45 (by decide) ?_
      refine tv_goto C dk_X9_boxed_46 ?_
      refine tv_iconst (v := 2) C dk_X9_boxed_50 (by decide) ?_
      have q6 := q5.2
      refine tv_cV1 C dk_X9_boxed_51 ml_RX9_62 yk_X9_isThrown yi_X9_isThrown (m_X9_isThrown _ ((f_X9_isThrown M 1 1).2) 1 2 q5.1) (Nat.le_of_ble_eq_true rfl) rfl rfl rfl rfl (Nat.le_of_ble_eq_true rfl) (Nat.le_of_ble_eq_true rfl) (Nat.le_of_ble_eq_true rfl) (Nat.le_of_ble_eq_true rfl) (Nat.le_of_ble_eq_true rfl) ?_
      refine tv_if_ne C dk_X9_boxed_54 (fun h4 => ?_) (fun h4 => ?_)
      · have q7 := q6.2 h4
        refine tv_iconst (v := 0) C dk_X9_boxed_82 (by decide) ?_
        exact tv_iret C hQ dk_X9_boxed_83 rfl (by rw [f_X9_boxed, if_pos h1, if_pos h2, if_pos h3, if_neg h4]) (by rw [f_X9_boxed, if_pos h1, if_pos h2, if_pos h3, if_neg h4])
      have q8 := q6.1 h4
      refine tv_aload_n C dk_X9_boxed_57 rfl ?_
      refine tv_aload_n C dk_X9_boxed_58 rfl ?_
      refine tv_getR (r := 250) C dk_X9_boxed_59 fl_RX9_9 (Nat.le_of_ble_eq_true rfl) rfl rfl (fun _ _ _ _ => rfl) ?_
      refine tv_bipush (v := 10) C dk_X9_boxed_62 (by decide) ?_
      refine tv_iald (j := 10) rfl C dk_X9_boxed_64 (Nat.le_of_ble_eq_true rfl) rfl (vp_in_nI (n := 10) (by decide) (by decide)) ?_
      refine tv_bipush (v := 10) C dk_X9_boxed_65 (by decide) ?_
      refine tv_icmp_ne C dk_X9_boxed_67 (fun h5 => ?_) (fun h5 => ?_)
      · have q9 := q8.2 h5
        refine tv_iconst (v := 0) C dk_X9_boxed_74 (by decide) ?_
        refine tv_iconst (v := 3) C dk_X9_boxed_75 (by decide) ?_
        have q10 := q9.2
        refine tv_cV1 C dk_X9_boxed_76 ml_RX9_62 yk_X9_isThrown yi_X9_isThrown (m_X9_isThrown _ ((f_X9_isThrown ((f_X9_isThrown M 1 1).2) 1 2).2) 0 3 q9.1) (Nat.le_of_ble_eq_true rfl) rfl rfl rfl rfl (Nat.le_of_ble_eq_true rfl) (Nat.le_of_ble_eq_true rfl) (Nat.le_of_ble_eq_true rfl) (Nat.le_of_ble_eq_true rfl) (Nat.le_of_ble_eq_true rfl) ?_
        refine tv_if_eq C dk_X9_boxed_79 (fun h6 => ?_) (fun h6 => ?_)
        · have q11 := q10.1 h6
          refine tv_aload_n C dk_X9_boxed_84 rfl ?_
          refine tv_getR (r := 250) C dk_X9_boxed_85 fl_RX9_9 (Nat.le_of_ble_eq_true rfl) rfl rfl (fun _ _ _ _ => rfl) ?_
          refine tv_bipush (v := 10) C dk_X9_boxed_88 (by decide) ?_
          refine tv_iald (j := 10) rfl C dk_X9_boxed_90 (Nat.le_of_ble_eq_true rfl) rfl (vp_in_nI (n := 10) (by decide) (by decide)) ?_
          refine tv_istore (L' := [_, _, _, _, _]) (hn := by decide) (hlt := (Nat.le_of_ble_eq_true rfl)) (hno := rfl) C dk_X9_boxed_91 rfl ?_
          refine tv_aload_n C dk_X9_boxed_93 rfl ?_
          refine tv_iload C dk_X9_boxed_94 rfl ?_
          refine tv_iconst (v := 0) C dk_X9_boxed_96 (by decide) ?_
          refine tv_iload_n C dk_X9_boxed_97 rfl ?_
          have q12 := q11.2
          refine tv_cV0 C dk_X9_boxed_98 ml_RX9_84 yk_X9_sets yi_X9_sets (m_X9_sets _ ((f_X9_isThrown ((f_X9_isThrown ((f_X9_isThrown M 1 1).2) 1 2).2) 0 3).2) (tgi ((f_X9_isThrown ((f_X9_isThrown ((f_X9_isThrown M 1 1).2) 1 2).2) 0 3).2) 250 10) 0 x1 q11.1) (Nat.le_of_ble_eq_true rfl) rfl rfl rfl rfl (Nat.le_of_ble_eq_true rfl) (Nat.le_of_ble_eq_true rfl) (Nat.le_of_ble_eq_true rfl) (Nat.le_of_ble_eq_true rfl) (Nat.le_of_ble_eq_true rfl) ?_
          refine tv_aload_n C dk_X9_boxed_101 rfl ?_
          refine tv_iload C dk_X9_boxed_102 rfl ?_
          refine tv_iconst (v := 1) C dk_X9_boxed_104 (by decide) ?_
          refine tv_iload_n C dk_X9_boxed_105 rfl ?_
          have q13 := q12.2
          refine tv_cV0 C dk_X9_boxed_106 ml_RX9_84 yk_X9_sets yi_X9_sets (m_X9_sets _ (f_X9_sets ((f_X9_isThrown ((f_X9_isThrown ((f_X9_isThrown M 1 1).2) 1 2).2) 0 3).2) (tgi ((f_X9_isThrown ((f_X9_isThrown ((f_X9_isThrown M 1 1).2) 1 2).2) 0 3).2) 250 10) 0 x1) (tgi ((f_X9_isThrown ((f_X9_isThrown ((f_X9_isThrown M 1 1).2) 1 2).2) 0 3).2) 250 10) 1 x2 q12.1) (Nat.le_of_ble_eq_true rfl) rfl rfl rfl rfl (Nat.le_of_ble_eq_true rfl) (Nat.le_of_ble_eq_true rfl) (Nat.le_of_ble_eq_true rfl) (Nat.le_of_ble_eq_true rfl) (Nat.le_of_ble_eq_true rfl) ?_
          refine tv_aload_n C dk_X9_boxed_109 rfl ?_
          refine tv_iload C dk_X9_boxed_110 rfl ?_
          refine tv_iconst (v := 2) C dk_X9_boxed_112 (by decide) ?_
          refine tv_iload_n C dk_X9_boxed_113 rfl ?_
          have q14 := q13.2
          refine tv_cV0 C dk_X9_boxed_114 ml_RX9_84 yk_X9_sets yi_X9_sets (m_X9_sets _ (f_X9_sets (f_X9_sets ((f_X9_isThrown ((f_X9_isThrown ((f_X9_isThrown M 1 1).2) 1 2).2) 0 3).2) (tgi ((f_X9_isThrown ((f_X9_isThrown ((f_X9_isThrown M 1 1).2) 1 2).2) 0 3).2) 250 10) 0 x1) (tgi ((f_X9_isThrown ((f_X9_isThrown ((f_X9_isThrown M 1 1).2) 1 2).2) 0 3).2) 250 10) 1 x2) (tgi ((f_X9_isThrown ((f_X9_isThrown ((f_X9_isThrown M 1 1).2) 1 2).2) 0 3).2) 250 10) 2 x3 q13.1) (Nat.le_of_ble_eq_true rfl) rfl rfl rfl rfl (Nat.le_of_ble_eq_true rfl) (Nat.le_of_ble_eq_true rfl) (Nat.le_of_ble_eq_true rfl) (Nat.le_of_ble_eq_true rfl) (Nat.le_of_ble_eq_true rfl) ?_
          refine tv_aload_n C dk_X9_boxed_117 rfl ?_
          refine tv_getR (r := 250) C dk_X9_boxed_118 fl_RX9_9 (Nat.le_of_ble_eq_true rfl) rfl rfl (fun _ _ _ _ => rfl) ?_
          refine tv_bipush (v := 10) C dk_X9_boxed_121 (by decide) ?_
          refine tv_dup2 C dk_X9_boxed_123 rfl rfl ?_
          refine tv_iald (j := 10) rfl C dk_X9_boxed_124 (Nat.le_of_ble_eq_true rfl) rfl (vp_in_nI (n := 10) (by decide) (by decide)) ?_
          refine tv_iconst (v := 1) C dk_X9_boxed_125 (by decide) ?_
          refine tv_iadd C dk_X9_boxed_126 ?_
          refine tv_iast (j := 10) rfl C tvP0_ex dk_X9_boxed_127 (Nat.le_of_ble_eq_true rfl) rfl (vp_in_nI (n := 10) (by decide) (by decide)) ?_
          refine tv_iload C dk_X9_boxed_128 rfl ?_
          exact tv_iret C hQ dk_X9_boxed_130 rfl (by rw [f_X9_boxed, if_pos h1, if_pos h2, if_pos h3, if_pos h4, if_neg h5, if_pos h6]) (by rw [f_X9_boxed, if_pos h1, if_pos h2, if_pos h3, if_pos h4, if_neg h5, if_pos h6])
        have q15 := q10.2 h6
        refine tv_iconst (v := 0) C dk_X9_boxed_82 (by decide) ?_
        exact tv_iret C hQ dk_X9_boxed_83 rfl (by rw [f_X9_boxed, if_pos h1, if_pos h2, if_pos h3, if_pos h4, if_neg h5, if_neg h6]) (by rw [f_X9_boxed, if_pos h1, if_pos h2, if_pos h3, if_pos h4, if_neg h5, if_neg h6])
      have q16 := q8.1 h5
      refine tv_iconst (v := 1) C dk_X9_boxed_70 (by decide) ?_
      refine tv_goto C dk_X9_boxed_71 ?_
      refine tv_iconst (v := 3) C dk_X9_boxed_75 (by decide) ?_
      have q17 := q16.2
      refine tv_cV1 C dk_X9_boxed_76 ml_RX9_62 yk_X9_isThrown yi_X9_isThrown (m_X9_isThrown _ ((f_X9_isThrown ((f_X9_isThrown M 1 1).2) 1 2).2) 1 3 q16.1) (Nat.le_of_ble_eq_true rfl) rfl rfl rfl rfl (Nat.le_of_ble_eq_true rfl) (Nat.le_of_ble_eq_true rfl) (Nat.le_of_ble_eq_true rfl) (Nat.le_of_ble_eq_true rfl) (Nat.le_of_ble_eq_true rfl) ?_
      refine tv_if_eq C dk_X9_boxed_79 (fun h7 => ?_) (fun h7 => ?_)
      · have q18 := q17.1 h7
        refine tv_aload_n C dk_X9_boxed_84 rfl ?_
        refine tv_getR (r := 250) C dk_X9_boxed_85 fl_RX9_9 (Nat.le_of_ble_eq_true rfl) rfl rfl (fun _ _ _ _ => rfl) ?_
        refine tv_bipush (v := 10) C dk_X9_boxed_88 (by decide) ?_
        refine tv_iald (j := 10) rfl C dk_X9_boxed_90 (Nat.le_of_ble_eq_true rfl) rfl (vp_in_nI (n := 10) (by decide) (by decide)) ?_
        refine tv_istore (L' := [_, _, _, _, _]) (hn := by decide) (hlt := (Nat.le_of_ble_eq_true rfl)) (hno := rfl) C dk_X9_boxed_91 rfl ?_
        refine tv_aload_n C dk_X9_boxed_93 rfl ?_
        refine tv_iload C dk_X9_boxed_94 rfl ?_
        refine tv_iconst (v := 0) C dk_X9_boxed_96 (by decide) ?_
        refine tv_iload_n C dk_X9_boxed_97 rfl ?_
        have q19 := q18.2
        refine tv_cV0 C dk_X9_boxed_98 ml_RX9_84 yk_X9_sets yi_X9_sets (m_X9_sets _ ((f_X9_isThrown ((f_X9_isThrown ((f_X9_isThrown M 1 1).2) 1 2).2) 1 3).2) (tgi ((f_X9_isThrown ((f_X9_isThrown ((f_X9_isThrown M 1 1).2) 1 2).2) 1 3).2) 250 10) 0 x1 q18.1) (Nat.le_of_ble_eq_true rfl) rfl rfl rfl rfl (Nat.le_of_ble_eq_true rfl) (Nat.le_of_ble_eq_true rfl) (Nat.le_of_ble_eq_true rfl) (Nat.le_of_ble_eq_true rfl) (Nat.le_of_ble_eq_true rfl) ?_
        refine tv_aload_n C dk_X9_boxed_101 rfl ?_
        refine tv_iload C dk_X9_boxed_102 rfl ?_
        refine tv_iconst (v := 1) C dk_X9_boxed_104 (by decide) ?_
        refine tv_iload_n C dk_X9_boxed_105 rfl ?_
        have q20 := q19.2
        refine tv_cV0 C dk_X9_boxed_106 ml_RX9_84 yk_X9_sets yi_X9_sets (m_X9_sets _ (f_X9_sets ((f_X9_isThrown ((f_X9_isThrown ((f_X9_isThrown M 1 1).2) 1 2).2) 1 3).2) (tgi ((f_X9_isThrown ((f_X9_isThrown ((f_X9_isThrown M 1 1).2) 1 2).2) 1 3).2) 250 10) 0 x1) (tgi ((f_X9_isThrown ((f_X9_isThrown ((f_X9_isThrown M 1 1).2) 1 2).2) 1 3).2) 250 10) 1 x2 q19.1) (Nat.le_of_ble_eq_true rfl) rfl rfl rfl rfl (Nat.le_of_ble_eq_true rfl) (Nat.le_of_ble_eq_true rfl) (Nat.le_of_ble_eq_true rfl) (Nat.le_of_ble_eq_true rfl) (Nat.le_of_ble_eq_true rfl) ?_
        refine tv_aload_n C dk_X9_boxed_109 rfl ?_
        refine tv_iload C dk_X9_boxed_110 rfl ?_
        refine tv_iconst (v := 2) C dk_X9_boxed_112 (by decide) ?_
        refine tv_iload_n C dk_X9_boxed_113 rfl ?_
        have q21 := q20.2
        refine tv_cV0 C dk_X9_boxed_114 ml_RX9_84 yk_X9_sets yi_X9_sets (m_X9_sets _ (f_X9_sets (f_X9_sets ((f_X9_isThrown ((f_X9_isThrown ((f_X9_isThrown M 1 1).2) 1 2).2) 1 3).2) (tgi ((f_X9_isThrown ((f_X9_isThrown ((f_X9_isThrown M 1 1).2) 1 2).2) 1 3).2) 250 10) 0 x1) (tgi ((f_X9_isThrown ((f_X9_isThrown ((f_X9_isThrown M 1 1).2) 1 2).2) 1 3).2) 250 10) 1 x2) (tgi ((f_X9_isThrown ((f_X9_isThrown ((f_X9_isThrown M 1 1).2) 1 2).2) 1 3).2) 250 10) 2 x3 q20.1) (Nat.le_of_ble_eq_true rfl) rfl rfl rfl rfl (Nat.le_of_ble_eq_true rfl) (Nat.le_of_ble_eq_true rfl) (Nat.le_of_ble_eq_true rfl) (Nat.le_of_ble_eq_true rfl) (Nat.le_of_ble_eq_true rfl) ?_
        refine tv_aload_n C dk_X9_boxed_117 rfl ?_
        refine tv_getR (r := 250) C dk_X9_boxed_118 fl_RX9_9 (Nat.le_of_ble_eq_true rfl) rfl rfl (fun _ _ _ _ => rfl) ?_
        refine tv_bipush (v := 10) C dk_X9_boxed_121 (by decide) ?_
        refine tv_dup2 C dk_X9_boxed_123 rfl rfl ?_
        refine tv_iald (j := 10) rfl C dk_X9_boxed_124 (Nat.le_of_ble_eq_true rfl) rfl (vp_in_nI (n := 10) (by decide) (by decide)) ?_
        refine tv_iconst (v := 1) C dk_X9_boxed_125 (by decide) ?_
        refine tv_iadd C dk_X9_boxed_126 ?_
        refine tv_iast (j := 10) rfl C tvP0_ex dk_X9_boxed_127 (Nat.le_of_ble_eq_true rfl) rfl (vp_in_nI (n := 10) (by decide) (by decide)) ?_
        refine tv_iload C dk_X9_boxed_128 rfl ?_
        exact tv_iret C hQ dk_X9_boxed_130 rfl (by rw [f_X9_boxed, if_pos h1, if_pos h2, if_pos h3, if_pos h4, if_pos h5, if_pos h7]) (by rw [f_X9_boxed, if_pos h1, if_pos h2, if_pos h3, if_pos h4, if_pos h5, if_pos h7])
      have q22 := q17.2 h7
      refine tv_iconst (v := 0) C dk_X9_boxed_82 (by decide) ?_
      exact tv_iret C hQ dk_X9_boxed_83 rfl (by rw [f_X9_boxed, if_pos h1, if_pos h2, if_pos h3, if_pos h4, if_pos h5, if_neg h7]) (by rw [f_X9_boxed, if_pos h1, if_pos h2, if_pos h3, if_pos h4, if_pos h5, if_neg h7])
    have q23 := q4.2 h3
    refine tv_iload_n C dk_X9_boxed_35 rfl ?_
    refine tv_iconst (v := 0) C dk_X9_boxed_36 (by decide) ?_
    refine tv_bipush (v := 60) C dk_X9_boxed_37 (by decide) ?_
    refine tv_cS1 C dk_X9_boxed_39 ml_RX9_51 yk_X9_isIn yi_X9_isIn (m_X9_isIn _ ((f_X9_isThrown M 1 1).2) x3 0 60) rfl rfl (Nat.le_of_ble_eq_true rfl) (Nat.le_of_ble_eq_true rfl) (Nat.le_of_ble_eq_true rfl) (Nat.le_of_ble_eq_true rfl) (Nat.le_of_ble_eq_true rfl) ?_
    refine tv_if_ne C dk_X9_boxed_42 (fun h8 => ?_) (fun h8 => ?_)
    · have q24 := q23.2 h8
      refine tv_iconst (v := 0) C dk_X9_boxed_49 (by decide) ?_
      refine tv_iconst (v := 2) C dk_X9_boxed_50 (by decide) ?_
      have q25 := q24.2
      refine tv_cV1 C dk_X9_boxed_51 ml_RX9_62 yk_X9_isThrown yi_X9_isThrown (m_X9_isThrown _ ((f_X9_isThrown M 1 1).2) 0 2 q24.1) (Nat.le_of_ble_eq_true rfl) rfl rfl rfl rfl (Nat.le_of_ble_eq_true rfl) (Nat.le_of_ble_eq_true rfl) (Nat.le_of_ble_eq_true rfl) (Nat.le_of_ble_eq_true rfl) (Nat.le_of_ble_eq_true rfl) ?_
      refine tv_if_ne C dk_X9_boxed_54 (fun h9 => ?_) (fun h9 => ?_)
      · have q26 := q25.2 h9
        refine tv_iconst (v := 0) C dk_X9_boxed_82 (by decide) ?_
        exact tv_iret C hQ dk_X9_boxed_83 rfl (by rw [f_X9_boxed, if_pos h1, if_pos h2, if_neg h3, if_neg h8, if_neg h9]) (by rw [f_X9_boxed, if_pos h1, if_pos h2, if_neg h3, if_neg h8, if_neg h9])
      have q27 := q25.1 h9
      refine tv_aload_n C dk_X9_boxed_57 rfl ?_
      refine tv_aload_n C dk_X9_boxed_58 rfl ?_
      refine tv_getR (r := 250) C dk_X9_boxed_59 fl_RX9_9 (Nat.le_of_ble_eq_true rfl) rfl rfl (fun _ _ _ _ => rfl) ?_
      refine tv_bipush (v := 10) C dk_X9_boxed_62 (by decide) ?_
      refine tv_iald (j := 10) rfl C dk_X9_boxed_64 (Nat.le_of_ble_eq_true rfl) rfl (vp_in_nI (n := 10) (by decide) (by decide)) ?_
      refine tv_bipush (v := 10) C dk_X9_boxed_65 (by decide) ?_
      refine tv_icmp_ne C dk_X9_boxed_67 (fun h10 => ?_) (fun h10 => ?_)
      · have q28 := q27.2 h10
        refine tv_iconst (v := 0) C dk_X9_boxed_74 (by decide) ?_
        refine tv_iconst (v := 3) C dk_X9_boxed_75 (by decide) ?_
        have q29 := q28.2
        refine tv_cV1 C dk_X9_boxed_76 ml_RX9_62 yk_X9_isThrown yi_X9_isThrown (m_X9_isThrown _ ((f_X9_isThrown ((f_X9_isThrown M 1 1).2) 0 2).2) 0 3 q28.1) (Nat.le_of_ble_eq_true rfl) rfl rfl rfl rfl (Nat.le_of_ble_eq_true rfl) (Nat.le_of_ble_eq_true rfl) (Nat.le_of_ble_eq_true rfl) (Nat.le_of_ble_eq_true rfl) (Nat.le_of_ble_eq_true rfl) ?_
        refine tv_if_eq C dk_X9_boxed_79 (fun h11 => ?_) (fun h11 => ?_)
        · have q30 := q29.1 h11
          refine tv_aload_n C dk_X9_boxed_84 rfl ?_
          refine tv_getR (r := 250) C dk_X9_boxed_85 fl_RX9_9 (Nat.le_of_ble_eq_true rfl) rfl rfl (fun _ _ _ _ => rfl) ?_
          refine tv_bipush (v := 10) C dk_X9_boxed_88 (by decide) ?_
          refine tv_iald (j := 10) rfl C dk_X9_boxed_90 (Nat.le_of_ble_eq_true rfl) rfl (vp_in_nI (n := 10) (by decide) (by decide)) ?_
          refine tv_istore (L' := [_, _, _, _, _]) (hn := by decide) (hlt := (Nat.le_of_ble_eq_true rfl)) (hno := rfl) C dk_X9_boxed_91 rfl ?_
          refine tv_aload_n C dk_X9_boxed_93 rfl ?_
          refine tv_iload C dk_X9_boxed_94 rfl ?_
          refine tv_iconst (v := 0) C dk_X9_boxed_96 (by decide) ?_
          refine tv_iload_n C dk_X9_boxed_97 rfl ?_
          have q31 := q30.2
          refine tv_cV0 C dk_X9_boxed_98 ml_RX9_84 yk_X9_sets yi_X9_sets (m_X9_sets _ ((f_X9_isThrown ((f_X9_isThrown ((f_X9_isThrown M 1 1).2) 0 2).2) 0 3).2) (tgi ((f_X9_isThrown ((f_X9_isThrown ((f_X9_isThrown M 1 1).2) 0 2).2) 0 3).2) 250 10) 0 x1 q30.1) (Nat.le_of_ble_eq_true rfl) rfl rfl rfl rfl (Nat.le_of_ble_eq_true rfl) (Nat.le_of_ble_eq_true rfl) (Nat.le_of_ble_eq_true rfl) (Nat.le_of_ble_eq_true rfl) (Nat.le_of_ble_eq_true rfl) ?_
          refine tv_aload_n C dk_X9_boxed_101 rfl ?_
          refine tv_iload C dk_X9_boxed_102 rfl ?_
          refine tv_iconst (v := 1) C dk_X9_boxed_104 (by decide) ?_
          refine tv_iload_n C dk_X9_boxed_105 rfl ?_
          have q32 := q31.2
          refine tv_cV0 C dk_X9_boxed_106 ml_RX9_84 yk_X9_sets yi_X9_sets (m_X9_sets _ (f_X9_sets ((f_X9_isThrown ((f_X9_isThrown ((f_X9_isThrown M 1 1).2) 0 2).2) 0 3).2) (tgi ((f_X9_isThrown ((f_X9_isThrown ((f_X9_isThrown M 1 1).2) 0 2).2) 0 3).2) 250 10) 0 x1) (tgi ((f_X9_isThrown ((f_X9_isThrown ((f_X9_isThrown M 1 1).2) 0 2).2) 0 3).2) 250 10) 1 x2 q31.1) (Nat.le_of_ble_eq_true rfl) rfl rfl rfl rfl (Nat.le_of_ble_eq_true rfl) (Nat.le_of_ble_eq_true rfl) (Nat.le_of_ble_eq_true rfl) (Nat.le_of_ble_eq_true rfl) (Nat.le_of_ble_eq_true rfl) ?_
          refine tv_aload_n C dk_X9_boxed_109 rfl ?_
          refine tv_iload C dk_X9_boxed_110 rfl ?_
          refine tv_iconst (v := 2) C dk_X9_boxed_112 (by decide) ?_
          refine tv_iload_n C dk_X9_boxed_113 rfl ?_
          have q33 := q32.2
          refine tv_cV0 C dk_X9_boxed_114 ml_RX9_84 yk_X9_sets yi_X9_sets (m_X9_sets _ (f_X9_sets (f_X9_sets ((f_X9_isThrown ((f_X9_isThrown ((f_X9_isThrown M 1 1).2) 0 2).2) 0 3).2) (tgi ((f_X9_isThrown ((f_X9_isThrown ((f_X9_isThrown M 1 1).2) 0 2).2) 0 3).2) 250 10) 0 x1) (tgi ((f_X9_isThrown ((f_X9_isThrown ((f_X9_isThrown M 1 1).2) 0 2).2) 0 3).2) 250 10) 1 x2) (tgi ((f_X9_isThrown ((f_X9_isThrown ((f_X9_isThrown M 1 1).2) 0 2).2) 0 3).2) 250 10) 2 x3 q32.1) (Nat.le_of_ble_eq_true rfl) rfl rfl rfl rfl (Nat.le_of_ble_eq_true rfl) (Nat.le_of_ble_eq_true rfl) (Nat.le_of_ble_eq_true rfl) (Nat.le_of_ble_eq_true rfl) (Nat.le_of_ble_eq_true rfl) ?_
          refine tv_aload_n C dk_X9_boxed_117 rfl ?_
          refine tv_getR (r := 250) C dk_X9_boxed_118 fl_RX9_9 (Nat.le_of_ble_eq_true rfl) rfl rfl (fun _ _ _ _ => rfl) ?_
          refine tv_bipush (v := 10) C dk_X9_boxed_121 (by decide) ?_
          refine tv_dup2 C dk_X9_boxed_123 rfl rfl ?_
          refine tv_iald (j := 10) rfl C dk_X9_boxed_124 (Nat.le_of_ble_eq_true rfl) rfl (vp_in_nI (n := 10) (by decide) (by decide)) ?_
          refine tv_iconst (v := 1) C dk_X9_boxed_125 (by decide) ?_
          refine tv_iadd C dk_X9_boxed_126 ?_
          refine tv_iast (j := 10) rfl C tvP0_ex dk_X9_boxed_127 (Nat.le_of_ble_eq_true rfl) rfl (vp_in_nI (n := 10) (by decide) (by decide)) ?_
          refine tv_iload C dk_X9_boxed_128 rfl ?_
          exact tv_iret C hQ dk_X9_boxed_130 rfl (by rw [f_X9_boxed, if_pos h1, if_pos h2, if_neg h3, if_neg h8, if_pos h9, if_neg h10, if_pos h11]) (by rw [f_X9_boxed, if_pos h1, if_pos h2, if_neg h3, if_neg h8, if_pos h9, if_neg h10, if_pos h11])
        have q34 := q29.2 h11
        refine tv_iconst (v := 0) C dk_X9_boxed_82 (by decide) ?_
        exact tv_iret C hQ dk_X9_boxed_83 rfl (by rw [f_X9_boxed, if_pos h1, if_pos h2, if_neg h3, if_neg h8, if_pos h9, if_neg h10, if_neg h11]) (by rw [f_X9_boxed, if_pos h1, if_pos h2, if_neg h3, if_neg h8, if_pos h9, if_neg h10, if_neg h11])
      have q35 := q27.1 h10
      refine tv_iconst (v := 1) C dk_X9_boxed_70 (by decide) ?_
      refine tv_goto C dk_X9_boxed_71 ?_
      refine tv_iconst (v := 3) C dk_X9_boxed_75 (by decide) ?_
      have q36 := q35.2
      refine tv_cV1 C dk_X9_boxed_76 ml_RX9_62 yk_X9_isThrown yi_X9_isThrown (m_X9_isThrown _ ((f_X9_isThrown ((f_X9_isThrown M 1 1).2) 0 2).2) 1 3 q35.1) (Nat.le_of_ble_eq_true rfl) rfl rfl rfl rfl (Nat.le_of_ble_eq_true rfl) (Nat.le_of_ble_eq_true rfl) (Nat.le_of_ble_eq_true rfl) (Nat.le_of_ble_eq_true rfl) (Nat.le_of_ble_eq_true rfl) ?_
      refine tv_if_eq C dk_X9_boxed_79 (fun h12 => ?_) (fun h12 => ?_)
      · have q37 := q36.1 h12
        refine tv_aload_n C dk_X9_boxed_84 rfl ?_
        refine tv_getR (r := 250) C dk_X9_boxed_85 fl_RX9_9 (Nat.le_of_ble_eq_true rfl) rfl rfl (fun _ _ _ _ => rfl) ?_
        refine tv_bipush (v := 10) C dk_X9_boxed_88 (by decide) ?_
        refine tv_iald (j := 10) rfl C dk_X9_boxed_90 (Nat.le_of_ble_eq_true rfl) rfl (vp_in_nI (n := 10) (by decide) (by decide)) ?_
        refine tv_istore (L' := [_, _, _, _, _]) (hn := by decide) (hlt := (Nat.le_of_ble_eq_true rfl)) (hno := rfl) C dk_X9_boxed_91 rfl ?_
        refine tv_aload_n C dk_X9_boxed_93 rfl ?_
        refine tv_iload C dk_X9_boxed_94 rfl ?_
        refine tv_iconst (v := 0) C dk_X9_boxed_96 (by decide) ?_
        refine tv_iload_n C dk_X9_boxed_97 rfl ?_
        have q38 := q37.2
        refine tv_cV0 C dk_X9_boxed_98 ml_RX9_84 yk_X9_sets yi_X9_sets (m_X9_sets _ ((f_X9_isThrown ((f_X9_isThrown ((f_X9_isThrown M 1 1).2) 0 2).2) 1 3).2) (tgi ((f_X9_isThrown ((f_X9_isThrown ((f_X9_isThrown M 1 1).2) 0 2).2) 1 3).2) 250 10) 0 x1 q37.1) (Nat.le_of_ble_eq_true rfl) rfl rfl rfl rfl (Nat.le_of_ble_eq_true rfl) (Nat.le_of_ble_eq_true rfl) (Nat.le_of_ble_eq_true rfl) (Nat.le_of_ble_eq_true rfl) (Nat.le_of_ble_eq_true rfl) ?_
        refine tv_aload_n C dk_X9_boxed_101 rfl ?_
        refine tv_iload C dk_X9_boxed_102 rfl ?_
        refine tv_iconst (v := 1) C dk_X9_boxed_104 (by decide) ?_
        refine tv_iload_n C dk_X9_boxed_105 rfl ?_
        have q39 := q38.2
        refine tv_cV0 C dk_X9_boxed_106 ml_RX9_84 yk_X9_sets yi_X9_sets (m_X9_sets _ (f_X9_sets ((f_X9_isThrown ((f_X9_isThrown ((f_X9_isThrown M 1 1).2) 0 2).2) 1 3).2) (tgi ((f_X9_isThrown ((f_X9_isThrown ((f_X9_isThrown M 1 1).2) 0 2).2) 1 3).2) 250 10) 0 x1) (tgi ((f_X9_isThrown ((f_X9_isThrown ((f_X9_isThrown M 1 1).2) 0 2).2) 1 3).2) 250 10) 1 x2 q38.1) (Nat.le_of_ble_eq_true rfl) rfl rfl rfl rfl (Nat.le_of_ble_eq_true rfl) (Nat.le_of_ble_eq_true rfl) (Nat.le_of_ble_eq_true rfl) (Nat.le_of_ble_eq_true rfl) (Nat.le_of_ble_eq_true rfl) ?_
        refine tv_aload_n C dk_X9_boxed_109 rfl ?_
        refine tv_iload C dk_X9_boxed_110 rfl ?_
        refine tv_iconst (v := 2) C dk_X9_boxed_112 (by decide) ?_
        refine tv_iload_n C dk_X9_boxed_113 rfl ?_
        have q40 := q39.2
        refine tv_cV0 C dk_X9_boxed_114 ml_RX9_84 yk_X9_sets yi_X9_sets (m_X9_sets _ (f_X9_sets (f_X9_sets ((f_X9_isThrown ((f_X9_isThrown ((f_X9_isThrown M 1 1).2) 0 2).2) 1 3).2) (tgi ((f_X9_isThrown ((f_X9_isThrown ((f_X9_isThrown M 1 1).2) 0 2).2) 1 3).2) 250 10) 0 x1) (tgi ((f_X9_isThrown ((f_X9_isThrown ((f_X9_isThrown M 1 1).2) 0 2).2) 1 3).2) 250 10) 1 x2) (tgi ((f_X9_isThrown ((f_X9_isThrown ((f_X9_isThrown M 1 1).2) 0 2).2) 1 3).2) 250 10) 2 x3 q39.1) (Nat.le_of_ble_eq_true rfl) rfl rfl rfl rfl (Nat.le_of_ble_eq_true rfl) (Nat.le_of_ble_eq_true rfl) (Nat.le_of_ble_eq_true rfl) (Nat.le_of_ble_eq_true rfl) (Nat.le_of_ble_eq_true rfl) ?_
        refine tv_aload_n C dk_X9_boxed_117 rfl ?_
        refine tv_getR (r := 250) C dk_X9_boxed_118 fl_RX9_9 (Nat.le_of_ble_eq_true rfl) rfl rfl (fun _ _ _ _ => rfl) ?_
        refine tv_bipush (v := 10) C dk_X9_boxed_121 (by decide) ?_
        refine tv_dup2 C dk_X9_boxed_123 rfl rfl ?_
        refine tv_iald (j := 10) rfl C dk_X9_boxed_124 (Nat.le_of_ble_eq_true rfl) rfl (vp_in_nI (n := 10) (by decide) (by decide)) ?_
        refine tv_iconst (v := 1) C dk_X9_boxed_125 (by decide) ?_
        refine tv_iadd C dk_X9_boxed_126 ?_
        refine tv_iast (j := 10) rfl C tvP0_ex dk_X9_boxed_127 (Nat.le_of_ble_eq_true rfl) rfl (vp_in_nI (n := 10) (by decide) (by decide)) ?_
        refine tv_iload C dk_X9_boxed_128 rfl ?_
        exact tv_iret C hQ dk_X9_boxed_130 rfl (by rw [f_X9_boxed, if_pos h1, if_pos h2, if_neg h3, if_neg h8, if_pos h9, if_pos h10, if_pos h12]) (by rw [f_X9_boxed, if_pos h1, if_pos h2, if_neg h3, if_neg h8, if_pos h9, if_pos h10, if_pos h12])
      have q41 := q36.2 h12
      refine tv_iconst (v := 0) C dk_X9_boxed_82 (by decide) ?_
      exact tv_iret C hQ dk_X9_boxed_83 rfl (by rw [f_X9_boxed, if_pos h1, if_pos h2, if_neg h3, if_neg h8, if_pos h9, if_pos h10, if_neg h12]) (by rw [f_X9_boxed, if_pos h1, if_pos h2, if_neg h3, if_neg h8, if_pos h9, if_pos h10, if_neg h12])
    have q42 := q23.1 h8
    refine tv_iconst (v := 1) C dk_X9_boxed_45 (by decide) ?_
    refine tv_goto C dk_X9_boxed_46 ?_
    refine tv_iconst (v := 2) C dk_X9_boxed_50 (by decide) ?_
    have q43 := q42.2
    refine tv_cV1 C dk_X9_boxed_51 ml_RX9_62 yk_X9_isThrown yi_X9_isThrown (m_X9_isThrown _ ((f_X9_isThrown M 1 1).2) 1 2 q42.1) (Nat.le_of_ble_eq_true rfl) rfl rfl rfl rfl (Nat.le_of_ble_eq_true rfl) (Nat.le_of_ble_eq_true rfl) (Nat.le_of_ble_eq_true rfl) (Nat.le_of_ble_eq_true rfl) (Nat.le_of_ble_eq_true rfl) ?_
    refine tv_if_ne C dk_X9_boxed_54 (fun h13 => ?_) (fun h13 => ?_)
    · have q44 := q43.2 h13
      refine tv_iconst (v := 0) C dk_X9_boxed_82 (by decide) ?_
      exact tv_iret C hQ dk_X9_boxed_83 rfl (by rw [f_X9_boxed, if_pos h1, if_pos h2, if_neg h3, if_pos h8, if_neg h13]) (by rw [f_X9_boxed, if_pos h1, if_pos h2, if_neg h3, if_pos h8, if_neg h13])
    have q45 := q43.1 h13
    refine tv_aload_n C dk_X9_boxed_57 rfl ?_
    refine tv_aload_n C dk_X9_boxed_58 rfl ?_
    refine tv_getR (r := 250) C dk_X9_boxed_59 fl_RX9_9 (Nat.le_of_ble_eq_true rfl) rfl rfl (fun _ _ _ _ => rfl) ?_
    refine tv_bipush (v := 10) C dk_X9_boxed_62 (by decide) ?_
    refine tv_iald (j := 10) rfl C dk_X9_boxed_64 (Nat.le_of_ble_eq_true rfl) rfl (vp_in_nI (n := 10) (by decide) (by decide)) ?_
    refine tv_bipush (v := 10) C dk_X9_boxed_65 (by decide) ?_
    refine tv_icmp_ne C dk_X9_boxed_67 (fun h14 => ?_) (fun h14 => ?_)
    · have q46 := q45.2 h14
      refine tv_iconst (v := 0) C dk_X9_boxed_74 (by decide) ?_
      refine tv_iconst (v := 3) C dk_X9_boxed_75 (by decide) ?_
      have q47 := q46.2
      refine tv_cV1 C dk_X9_boxed_76 ml_RX9_62 yk_X9_isThrown yi_X9_isThrown (m_X9_isThrown _ ((f_X9_isThrown ((f_X9_isThrown M 1 1).2) 1 2).2) 0 3 q46.1) (Nat.le_of_ble_eq_true rfl) rfl rfl rfl rfl (Nat.le_of_ble_eq_true rfl) (Nat.le_of_ble_eq_true rfl) (Nat.le_of_ble_eq_true rfl) (Nat.le_of_ble_eq_true rfl) (Nat.le_of_ble_eq_true rfl) ?_
      refine tv_if_eq C dk_X9_boxed_79 (fun h15 => ?_) (fun h15 => ?_)
      · have q48 := q47.1 h15
        refine tv_aload_n C dk_X9_boxed_84 rfl ?_
        refine tv_getR (r := 250) C dk_X9_boxed_85 fl_RX9_9 (Nat.le_of_ble_eq_true rfl) rfl rfl (fun _ _ _ _ => rfl) ?_
        refine tv_bipush (v := 10) C dk_X9_boxed_88 (by decide) ?_
        refine tv_iald (j := 10) rfl C dk_X9_boxed_90 (Nat.le_of_ble_eq_true rfl) rfl (vp_in_nI (n := 10) (by decide) (by decide)) ?_
        refine tv_istore (L' := [_, _, _, _, _]) (hn := by decide) (hlt := (Nat.le_of_ble_eq_true rfl)) (hno := rfl) C dk_X9_boxed_91 rfl ?_
        refine tv_aload_n C dk_X9_boxed_93 rfl ?_
        refine tv_iload C dk_X9_boxed_94 rfl ?_
        refine tv_iconst (v := 0) C dk_X9_boxed_96 (by decide) ?_
        refine tv_iload_n C dk_X9_boxed_97 rfl ?_
        have q49 := q48.2
        refine tv_cV0 C dk_X9_boxed_98 ml_RX9_84 yk_X9_sets yi_X9_sets (m_X9_sets _ ((f_X9_isThrown ((f_X9_isThrown ((f_X9_isThrown M 1 1).2) 1 2).2) 0 3).2) (tgi ((f_X9_isThrown ((f_X9_isThrown ((f_X9_isThrown M 1 1).2) 1 2).2) 0 3).2) 250 10) 0 x1 q48.1) (Nat.le_of_ble_eq_true rfl) rfl rfl rfl rfl (Nat.le_of_ble_eq_true rfl) (Nat.le_of_ble_eq_true rfl) (Nat.le_of_ble_eq_true rfl) (Nat.le_of_ble_eq_true rfl) (Nat.le_of_ble_eq_true rfl) ?_
        refine tv_aload_n C dk_X9_boxed_101 rfl ?_
        refine tv_iload C dk_X9_boxed_102 rfl ?_
        refine tv_iconst (v := 1) C dk_X9_boxed_104 (by decide) ?_
        refine tv_iload_n C dk_X9_boxed_105 rfl ?_
        have q50 := q49.2
        refine tv_cV0 C dk_X9_boxed_106 ml_RX9_84 yk_X9_sets yi_X9_sets (m_X9_sets _ (f_X9_sets ((f_X9_isThrown ((f_X9_isThrown ((f_X9_isThrown M 1 1).2) 1 2).2) 0 3).2) (tgi ((f_X9_isThrown ((f_X9_isThrown ((f_X9_isThrown M 1 1).2) 1 2).2) 0 3).2) 250 10) 0 x1) (tgi ((f_X9_isThrown ((f_X9_isThrown ((f_X9_isThrown M 1 1).2) 1 2).2) 0 3).2) 250 10) 1 x2 q49.1) (Nat.le_of_ble_eq_true rfl) rfl rfl rfl rfl (Nat.le_of_ble_eq_true rfl) (Nat.le_of_ble_eq_true rfl) (Nat.le_of_ble_eq_true rfl) (Nat.le_of_ble_eq_true rfl) (Nat.le_of_ble_eq_true rfl) ?_
        refine tv_aload_n C dk_X9_boxed_109 rfl ?_
        refine tv_iload C dk_X9_boxed_110 rfl ?_
        refine tv_iconst (v := 2) C dk_X9_boxed_112 (by decide) ?_
        refine tv_iload_n C dk_X9_boxed_113 rfl ?_
        have q51 := q50.2
        refine tv_cV0 C dk_X9_boxed_114 ml_RX9_84 yk_X9_sets yi_X9_sets (m_X9_sets _ (f_X9_sets (f_X9_sets ((f_X9_isThrown ((f_X9_isThrown ((f_X9_isThrown M 1 1).2) 1 2).2) 0 3).2) (tgi ((f_X9_isThrown ((f_X9_isThrown ((f_X9_isThrown M 1 1).2) 1 2).2) 0 3).2) 250 10) 0 x1) (tgi ((f_X9_isThrown ((f_X9_isThrown ((f_X9_isThrown M 1 1).2) 1 2).2) 0 3).2) 250 10) 1 x2) (tgi ((f_X9_isThrown ((f_X9_isThrown ((f_X9_isThrown M 1 1).2) 1 2).2) 0 3).2) 250 10) 2 x3 q50.1) (Nat.le_of_ble_eq_true rfl) rfl rfl rfl rfl (Nat.le_of_ble_eq_true rfl) (Nat.le_of_ble_eq_true rfl) (Nat.le_of_ble_eq_true rfl) (Nat.le_of_ble_eq_true rfl) (Nat.le_of_ble_eq_true rfl) ?_
        refine tv_aload_n C dk_X9_boxed_117 rfl ?_
        refine tv_getR (r := 250) C dk_X9_boxed_118 fl_RX9_9 (Nat.le_of_ble_eq_true rfl) rfl rfl (fun _ _ _ _ => rfl) ?_
        refine tv_bipush (v := 10) C dk_X9_boxed_121 (by decide) ?_
        refine tv_dup2 C dk_X9_boxed_123 rfl rfl ?_
        refine tv_iald (j := 10) rfl C dk_X9_boxed_124 (Nat.le_of_ble_eq_true rfl) rfl (vp_in_nI (n := 10) (by decide) (by decide)) ?_
        refine tv_iconst (v := 1) C dk_X9_boxed_125 (by decide) ?_
        refine tv_iadd C dk_X9_boxed_126 ?_
        refine tv_iast (j := 10) rfl C tvP0_ex dk_X9_boxed_127 (Nat.le_of_ble_eq_true rfl) rfl (vp_in_nI (n := 10) (by decide) (by decide)) ?_
        refine tv_iload C dk_X9_boxed_128 rfl ?_
        exact tv_iret C hQ dk_X9_boxed_130 rfl (by rw [f_X9_boxed, if_pos h1, if_pos h2, if_neg h3, if_pos h8, if_pos h13, if_neg h14, if_pos h15]) (by rw [f_X9_boxed, if_pos h1, if_pos h2, if_neg h3, if_pos h8, if_pos h13, if_neg h14, if_pos h15])
      have q52 := q47.2 h15
      refine tv_iconst (v := 0) C dk_X9_boxed_82 (by decide) ?_
      exact tv_iret C hQ dk_X9_boxed_83 rfl (by rw [f_X9_boxed, if_pos h1, if_pos h2, if_neg h3, if_pos h8, if_pos h13, if_neg h14, if_neg h15]) (by rw [f_X9_boxed, if_pos h1, if_pos h2, if_neg h3, if_pos h8, if_pos h13, if_neg h14, if_neg h15])
    have q53 := q45.1 h14
    refine tv_iconst (v := 1) C dk_X9_boxed_70 (by decide) ?_
    refine tv_goto C dk_X9_boxed_71 ?_
    refine tv_iconst (v := 3) C dk_X9_boxed_75 (by decide) ?_
    have q54 := q53.2
    refine tv_cV1 C dk_X9_boxed_76 ml_RX9_62 yk_X9_isThrown yi_X9_isThrown (m_X9_isThrown _ ((f_X9_isThrown ((f_X9_isThrown M 1 1).2) 1 2).2) 1 3 q53.1) (Nat.le_of_ble_eq_true rfl) rfl rfl rfl rfl (Nat.le_of_ble_eq_true rfl) (Nat.le_of_ble_eq_true rfl) (Nat.le_of_ble_eq_true rfl) (Nat.le_of_ble_eq_true rfl) (Nat.le_of_ble_eq_true rfl) ?_
    refine tv_if_eq C dk_X9_boxed_79 (fun h16 => ?_) (fun h16 => ?_)
    · have q55 := q54.1 h16
      refine tv_aload_n C dk_X9_boxed_84 rfl ?_
      refine tv_getR (r := 250) C dk_X9_boxed_85 fl_RX9_9 (Nat.le_of_ble_eq_true rfl) rfl rfl (fun _ _ _ _ => rfl) ?_
      refine tv_bipush (v := 10) C dk_X9_boxed_88 (by decide) ?_
      refine tv_iald (j := 10) rfl C dk_X9_boxed_90 (Nat.le_of_ble_eq_true rfl) rfl (vp_in_nI (n := 10) (by decide) (by decide)) ?_
      refine tv_istore (L' := [_, _, _, _, _]) (hn := by decide) (hlt := (Nat.le_of_ble_eq_true rfl)) (hno := rfl) C dk_X9_boxed_91 rfl ?_
      refine tv_aload_n C dk_X9_boxed_93 rfl ?_
      refine tv_iload C dk_X9_boxed_94 rfl ?_
      refine tv_iconst (v := 0) C dk_X9_boxed_96 (by decide) ?_
      refine tv_iload_n C dk_X9_boxed_97 rfl ?_
      have q56 := q55.2
      refine tv_cV0 C dk_X9_boxed_98 ml_RX9_84 yk_X9_sets yi_X9_sets (m_X9_sets _ ((f_X9_isThrown ((f_X9_isThrown ((f_X9_isThrown M 1 1).2) 1 2).2) 1 3).2) (tgi ((f_X9_isThrown ((f_X9_isThrown ((f_X9_isThrown M 1 1).2) 1 2).2) 1 3).2) 250 10) 0 x1 q55.1) (Nat.le_of_ble_eq_true rfl) rfl rfl rfl rfl (Nat.le_of_ble_eq_true rfl) (Nat.le_of_ble_eq_true rfl) (Nat.le_of_ble_eq_true rfl) (Nat.le_of_ble_eq_true rfl) (Nat.le_of_ble_eq_true rfl) ?_
      refine tv_aload_n C dk_X9_boxed_101 rfl ?_
      refine tv_iload C dk_X9_boxed_102 rfl ?_
      refine tv_iconst (v := 1) C dk_X9_boxed_104 (by decide) ?_
      refine tv_iload_n C dk_X9_boxed_105 rfl ?_
      have q57 := q56.2
      refine tv_cV0 C dk_X9_boxed_106 ml_RX9_84 yk_X9_sets yi_X9_sets (m_X9_sets _ (f_X9_sets ((f_X9_isThrown ((f_X9_isThrown ((f_X9_isThrown M 1 1).2) 1 2).2) 1 3).2) (tgi ((f_X9_isThrown ((f_X9_isThrown ((f_X9_isThrown M 1 1).2) 1 2).2) 1 3).2) 250 10) 0 x1) (tgi ((f_X9_isThrown ((f_X9_isThrown ((f_X9_isThrown M 1 1).2) 1 2).2) 1 3).2) 250 10) 1 x2 q56.1) (Nat.le_of_ble_eq_true rfl) rfl rfl rfl rfl (Nat.le_of_ble_eq_true rfl) (Nat.le_of_ble_eq_true rfl) (Nat.le_of_ble_eq_true rfl) (Nat.le_of_ble_eq_true rfl) (Nat.le_of_ble_eq_true rfl) ?_
      refine tv_aload_n C dk_X9_boxed_109 rfl ?_
      refine tv_iload C dk_X9_boxed_110 rfl ?_
      refine tv_iconst (v := 2) C dk_X9_boxed_112 (by decide) ?_
      refine tv_iload_n C dk_X9_boxed_113 rfl ?_
      have q58 := q57.2
      refine tv_cV0 C dk_X9_boxed_114 ml_RX9_84 yk_X9_sets yi_X9_sets (m_X9_sets _ (f_X9_sets (f_X9_sets ((f_X9_isThrown ((f_X9_isThrown ((f_X9_isThrown M 1 1).2) 1 2).2) 1 3).2) (tgi ((f_X9_isThrown ((f_X9_isThrown ((f_X9_isThrown M 1 1).2) 1 2).2) 1 3).2) 250 10) 0 x1) (tgi ((f_X9_isThrown ((f_X9_isThrown ((f_X9_isThrown M 1 1).2) 1 2).2) 1 3).2) 250 10) 1 x2) (tgi ((f_X9_isThrown ((f_X9_isThrown ((f_X9_isThrown M 1 1).2) 1 2).2) 1 3).2) 250 10) 2 x3 q57.1) (Nat.le_of_ble_eq_true rfl) rfl rfl rfl rfl (Nat.le_of_ble_eq_true rfl) (Nat.le_of_ble_eq_true rfl) (Nat.le_of_ble_eq_true rfl) (Nat.le_of_ble_eq_true rfl) (Nat.le_of_ble_eq_true rfl) ?_
      refine tv_aload_n C dk_X9_boxed_117 rfl ?_
      refine tv_getR (r := 250) C dk_X9_boxed_118 fl_RX9_9 (Nat.le_of_ble_eq_true rfl) rfl rfl (fun _ _ _ _ => rfl) ?_
      refine tv_bipush (v := 10) C dk_X9_boxed_121 (by decide) ?_
      refine tv_dup2 C dk_X9_boxed_123 rfl rfl ?_
      refine tv_iald (j := 10) rfl C dk_X9_boxed_124 (Nat.le_of_ble_eq_true rfl) rfl (vp_in_nI (n := 10) (by decide) (by decide)) ?_
      refine tv_iconst (v := 1) C dk_X9_boxed_125 (by decide) ?_
      refine tv_iadd C dk_X9_boxed_126 ?_
      refine tv_iast (j := 10) rfl C tvP0_ex dk_X9_boxed_127 (Nat.le_of_ble_eq_true rfl) rfl (vp_in_nI (n := 10) (by decide) (by decide)) ?_
      refine tv_iload C dk_X9_boxed_128 rfl ?_
      exact tv_iret C hQ dk_X9_boxed_130 rfl (by rw [f_X9_boxed, if_pos h1, if_pos h2, if_neg h3, if_pos h8, if_pos h13, if_pos h14, if_pos h16]) (by rw [f_X9_boxed, if_pos h1, if_pos h2, if_neg h3, if_pos h8, if_pos h13, if_pos h14, if_pos h16])
    have q59 := q54.2 h16
    refine tv_iconst (v := 0) C dk_X9_boxed_82 (by decide) ?_
    exact tv_iret C hQ dk_X9_boxed_83 rfl (by rw [f_X9_boxed, if_pos h1, if_pos h2, if_neg h3, if_pos h8, if_pos h13, if_pos h14, if_neg h16]) (by rw [f_X9_boxed, if_pos h1, if_pos h2, if_neg h3, if_pos h8, if_pos h13, if_pos h14, if_neg h16])
  have q60 := hq.2 h1
  refine tv_aload_n C dk_X9_boxed_9 rfl ?_
  refine tv_iload_n C dk_X9_boxed_10 rfl ?_
  refine tv_cV1 C dk_X9_boxed_11 ml_RX9_80 yk_X9_isHolder yi_X9_isHolder (m_X9_isHolder _ M x2) (Nat.le_of_ble_eq_true rfl) rfl rfl rfl rfl (Nat.le_of_ble_eq_true rfl) (Nat.le_of_ble_eq_true rfl) (Nat.le_of_ble_eq_true rfl) (Nat.le_of_ble_eq_true rfl) (Nat.le_of_ble_eq_true rfl) ?_
  refine tv_if_ne C dk_X9_boxed_14 (fun h17 => ?_) (fun h17 => ?_)
  · have q61 := q60.2 h17
    refine tv_iconst (v := 0) C dk_X9_boxed_21 (by decide) ?_
    refine tv_iconst (v := 1) C dk_X9_boxed_22 (by decide) ?_
    have q62 := q61.2
    refine tv_cV1 C dk_X9_boxed_23 ml_RX9_62 yk_X9_isThrown yi_X9_isThrown (m_X9_isThrown _ M 0 1 q61.1) (Nat.le_of_ble_eq_true rfl) rfl rfl rfl rfl (Nat.le_of_ble_eq_true rfl) (Nat.le_of_ble_eq_true rfl) (Nat.le_of_ble_eq_true rfl) (Nat.le_of_ble_eq_true rfl) (Nat.le_of_ble_eq_true rfl) ?_
    refine tv_if_ne C dk_X9_boxed_26 (fun h18 => ?_) (fun h18 => ?_)
    · have q63 := q62.2 h18
      refine tv_iconst (v := 0) C dk_X9_boxed_82 (by decide) ?_
      exact tv_iret C hQ dk_X9_boxed_83 rfl (by rw [f_X9_boxed, if_neg h1, if_neg h17, if_neg h18]) (by rw [f_X9_boxed, if_neg h1, if_neg h17, if_neg h18])
    have q64 := q62.1 h18
    refine tv_aload_n C dk_X9_boxed_29 rfl ?_
    refine tv_iload_n C dk_X9_boxed_30 rfl ?_
    refine tv_iload_n C dk_X9_boxed_31 rfl ?_
    refine tv_icmp_eq C dk_X9_boxed_32 (fun h19 => ?_) (fun h19 => ?_)
    · have q65 := q64.1 h19
      refine tv_iconst (v := 1) C dk_X9_boxed_45 (by decide) ?_
      refine tv_goto C dk_X9_boxed_46 ?_
      refine tv_iconst (v := 2) C dk_X9_boxed_50 (by decide) ?_
      have q66 := q65.2
      refine tv_cV1 C dk_X9_boxed_51 ml_RX9_62 yk_X9_isThrown yi_X9_isThrown (m_X9_isThrown _ ((f_X9_isThrown M 0 1).2) 1 2 q65.1) (Nat.le_of_ble_eq_true rfl) rfl rfl rfl rfl (Nat.le_of_ble_eq_true rfl) (Nat.le_of_ble_eq_true rfl) (Nat.le_of_ble_eq_true rfl) (Nat.le_of_ble_eq_true rfl) (Nat.le_of_ble_eq_true rfl) ?_
      refine tv_if_ne C dk_X9_boxed_54 (fun h20 => ?_) (fun h20 => ?_)
      · have q67 := q66.2 h20
        refine tv_iconst (v := 0) C dk_X9_boxed_82 (by decide) ?_
        exact tv_iret C hQ dk_X9_boxed_83 rfl (by rw [f_X9_boxed, if_neg h1, if_neg h17, if_pos h18, if_pos h19, if_neg h20]) (by rw [f_X9_boxed, if_neg h1, if_neg h17, if_pos h18, if_pos h19, if_neg h20])
      have q68 := q66.1 h20
      refine tv_aload_n C dk_X9_boxed_57 rfl ?_
      refine tv_aload_n C dk_X9_boxed_58 rfl ?_
      refine tv_getR (r := 250) C dk_X9_boxed_59 fl_RX9_9 (Nat.le_of_ble_eq_true rfl) rfl rfl (fun _ _ _ _ => rfl) ?_
      refine tv_bipush (v := 10) C dk_X9_boxed_62 (by decide) ?_
      refine tv_iald (j := 10) rfl C dk_X9_boxed_64 (Nat.le_of_ble_eq_true rfl) rfl (vp_in_nI (n := 10) (by decide) (by decide)) ?_
      refine tv_bipush (v := 10) C dk_X9_boxed_65 (by decide) ?_
      refine tv_icmp_ne C dk_X9_boxed_67 (fun h21 => ?_) (fun h21 => ?_)
      · have q69 := q68.2 h21
        refine tv_iconst (v := 0) C dk_X9_boxed_74 (by decide) ?_
        refine tv_iconst (v := 3) C dk_X9_boxed_75 (by decide) ?_
        have q70 := q69.2
        refine tv_cV1 C dk_X9_boxed_76 ml_RX9_62 yk_X9_isThrown yi_X9_isThrown (m_X9_isThrown _ ((f_X9_isThrown ((f_X9_isThrown M 0 1).2) 1 2).2) 0 3 q69.1) (Nat.le_of_ble_eq_true rfl) rfl rfl rfl rfl (Nat.le_of_ble_eq_true rfl) (Nat.le_of_ble_eq_true rfl) (Nat.le_of_ble_eq_true rfl) (Nat.le_of_ble_eq_true rfl) (Nat.le_of_ble_eq_true rfl) ?_
        refine tv_if_eq C dk_X9_boxed_79 (fun h22 => ?_) (fun h22 => ?_)
        · have q71 := q70.1 h22
          refine tv_aload_n C dk_X9_boxed_84 rfl ?_
          refine tv_getR (r := 250) C dk_X9_boxed_85 fl_RX9_9 (Nat.le_of_ble_eq_true rfl) rfl rfl (fun _ _ _ _ => rfl) ?_
          refine tv_bipush (v := 10) C dk_X9_boxed_88 (by decide) ?_
          refine tv_iald (j := 10) rfl C dk_X9_boxed_90 (Nat.le_of_ble_eq_true rfl) rfl (vp_in_nI (n := 10) (by decide) (by decide)) ?_
          refine tv_istore (L' := [_, _, _, _, _]) (hn := by decide) (hlt := (Nat.le_of_ble_eq_true rfl)) (hno := rfl) C dk_X9_boxed_91 rfl ?_
          refine tv_aload_n C dk_X9_boxed_93 rfl ?_
          refine tv_iload C dk_X9_boxed_94 rfl ?_
          refine tv_iconst (v := 0) C dk_X9_boxed_96 (by decide) ?_
          refine tv_iload_n C dk_X9_boxed_97 rfl ?_
          have q72 := q71.2
          refine tv_cV0 C dk_X9_boxed_98 ml_RX9_84 yk_X9_sets yi_X9_sets (m_X9_sets _ ((f_X9_isThrown ((f_X9_isThrown ((f_X9_isThrown M 0 1).2) 1 2).2) 0 3).2) (tgi ((f_X9_isThrown ((f_X9_isThrown ((f_X9_isThrown M 0 1).2) 1 2).2) 0 3).2) 250 10) 0 x1 q71.1) (Nat.le_of_ble_eq_true rfl) rfl rfl rfl rfl (Nat.le_of_ble_eq_true rfl) (Nat.le_of_ble_eq_true rfl) (Nat.le_of_ble_eq_true rfl) (Nat.le_of_ble_eq_true rfl) (Nat.le_of_ble_eq_true rfl) ?_
          refine tv_aload_n C dk_X9_boxed_101 rfl ?_
          refine tv_iload C dk_X9_boxed_102 rfl ?_
          refine tv_iconst (v := 1) C dk_X9_boxed_104 (by decide) ?_
          refine tv_iload_n C dk_X9_boxed_105 rfl ?_
          have q73 := q72.2
          refine tv_cV0 C dk_X9_boxed_106 ml_RX9_84 yk_X9_sets yi_X9_sets (m_X9_sets _ (f_X9_sets ((f_X9_isThrown ((f_X9_isThrown ((f_X9_isThrown M 0 1).2) 1 2).2) 0 3).2) (tgi ((f_X9_isThrown ((f_X9_isThrown ((f_X9_isThrown M 0 1).2) 1 2).2) 0 3).2) 250 10) 0 x1) (tgi ((f_X9_isThrown ((f_X9_isThrown ((f_X9_isThrown M 0 1).2) 1 2).2) 0 3).2) 250 10) 1 x2 q72.1) (Nat.le_of_ble_eq_true rfl) rfl rfl rfl rfl (Nat.le_of_ble_eq_true rfl) (Nat.le_of_ble_eq_true rfl) (Nat.le_of_ble_eq_true rfl) (Nat.le_of_ble_eq_true rfl) (Nat.le_of_ble_eq_true rfl) ?_
          refine tv_aload_n C dk_X9_boxed_109 rfl ?_
          refine tv_iload C dk_X9_boxed_110 rfl ?_
          refine tv_iconst (v := 2) C dk_X9_boxed_112 (by decide) ?_
          refine tv_iload_n C dk_X9_boxed_113 rfl ?_
          have q74 := q73.2
          refine tv_cV0 C dk_X9_boxed_114 ml_RX9_84 yk_X9_sets yi_X9_sets (m_X9_sets _ (f_X9_sets (f_X9_sets ((f_X9_isThrown ((f_X9_isThrown ((f_X9_isThrown M 0 1).2) 1 2).2) 0 3).2) (tgi ((f_X9_isThrown ((f_X9_isThrown ((f_X9_isThrown M 0 1).2) 1 2).2) 0 3).2) 250 10) 0 x1) (tgi ((f_X9_isThrown ((f_X9_isThrown ((f_X9_isThrown M 0 1).2) 1 2).2) 0 3).2) 250 10) 1 x2) (tgi ((f_X9_isThrown ((f_X9_isThrown ((f_X9_isThrown M 0 1).2) 1 2).2) 0 3).2) 250 10) 2 x3 q73.1) (Nat.le_of_ble_eq_true rfl) rfl rfl rfl rfl (Nat.le_of_ble_eq_true rfl) (Nat.le_of_ble_eq_true rfl) (Nat.le_of_ble_eq_true rfl) (Nat.le_of_ble_eq_true rfl) (Nat.le_of_ble_eq_true rfl) ?_
          refine tv_aload_n C dk_X9_boxed_117 rfl ?_
          refine tv_getR (r := 250) C dk_X9_boxed_118 fl_RX9_9 (Nat.le_of_ble_eq_true rfl) rfl rfl (fun _ _ _ _ => rfl) ?_
          refine tv_bipush (v := 10) C dk_X9_boxed_121 (by decide) ?_
          refine tv_dup2 C dk_X9_boxed_123 rfl rfl ?_
          refine tv_iald (j := 10) rfl C dk_X9_boxed_124 (Nat.le_of_ble_eq_true rfl) rfl (vp_in_nI (n := 10) (by decide) (by decide)) ?_
          refine tv_iconst (v := 1) C dk_X9_boxed_125 (by decide) ?_
          refine tv_iadd C dk_X9_boxed_126 ?_
          refine tv_iast (j := 10) rfl C tvP0_ex dk_X9_boxed_127 (Nat.le_of_ble_eq_true rfl) rfl (vp_in_nI (n := 10) (by decide) (by decide)) ?_
          refine tv_iload C dk_X9_boxed_128 rfl ?_
          exact tv_iret C hQ dk_X9_boxed_130 rfl (by rw [f_X9_boxed, if_neg h1, if_neg h17, if_pos h18, if_pos h19, if_pos h20, if_neg h21, if_pos h22]) (by rw [f_X9_boxed, if_neg h1, if_neg h17, if_pos h18, if_pos h19, if_pos h20, if_neg h21, if_pos h22])
        have q75 := q70.2 h22
        refine tv_iconst (v := 0) C dk_X9_boxed_82 (by decide) ?_
        exact tv_iret C hQ dk_X9_boxed_83 rfl (by rw [f_X9_boxed, if_neg h1, if_neg h17, if_pos h18, if_pos h19, if_pos h20, if_neg h21, if_neg h22]) (by rw [f_X9_boxed, if_neg h1, if_neg h17, if_pos h18, if_pos h19, if_pos h20, if_neg h21, if_neg h22])
      have q76 := q68.1 h21
      refine tv_iconst (v := 1) C dk_X9_boxed_70 (by decide) ?_
      refine tv_goto C dk_X9_boxed_71 ?_
      refine tv_iconst (v := 3) C dk_X9_boxed_75 (by decide) ?_
      have q77 := q76.2
      refine tv_cV1 C dk_X9_boxed_76 ml_RX9_62 yk_X9_isThrown yi_X9_isThrown (m_X9_isThrown _ ((f_X9_isThrown ((f_X9_isThrown M 0 1).2) 1 2).2) 1 3 q76.1) (Nat.le_of_ble_eq_true rfl) rfl rfl rfl rfl (Nat.le_of_ble_eq_true rfl) (Nat.le_of_ble_eq_true rfl) (Nat.le_of_ble_eq_true rfl) (Nat.le_of_ble_eq_true rfl) (Nat.le_of_ble_eq_true rfl) ?_
      refine tv_if_eq C dk_X9_boxed_79 (fun h23 => ?_) (fun h23 => ?_)
      · have q78 := q77.1 h23
        refine tv_aload_n C dk_X9_boxed_84 rfl ?_
        refine tv_getR (r := 250) C dk_X9_boxed_85 fl_RX9_9 (Nat.le_of_ble_eq_true rfl) rfl rfl (fun _ _ _ _ => rfl) ?_
        refine tv_bipush (v := 10) C dk_X9_boxed_88 (by decide) ?_
        refine tv_iald (j := 10) rfl C dk_X9_boxed_90 (Nat.le_of_ble_eq_true rfl) rfl (vp_in_nI (n := 10) (by decide) (by decide)) ?_
        refine tv_istore (L' := [_, _, _, _, _]) (hn := by decide) (hlt := (Nat.le_of_ble_eq_true rfl)) (hno := rfl) C dk_X9_boxed_91 rfl ?_
        refine tv_aload_n C dk_X9_boxed_93 rfl ?_
        refine tv_iload C dk_X9_boxed_94 rfl ?_
        refine tv_iconst (v := 0) C dk_X9_boxed_96 (by decide) ?_
        refine tv_iload_n C dk_X9_boxed_97 rfl ?_
        have q79 := q78.2
        refine tv_cV0 C dk_X9_boxed_98 ml_RX9_84 yk_X9_sets yi_X9_sets (m_X9_sets _ ((f_X9_isThrown ((f_X9_isThrown ((f_X9_isThrown M 0 1).2) 1 2).2) 1 3).2) (tgi ((f_X9_isThrown ((f_X9_isThrown ((f_X9_isThrown M 0 1).2) 1 2).2) 1 3).2) 250 10) 0 x1 q78.1) (Nat.le_of_ble_eq_true rfl) rfl rfl rfl rfl (Nat.le_of_ble_eq_true rfl) (Nat.le_of_ble_eq_true rfl) (Nat.le_of_ble_eq_true rfl) (Nat.le_of_ble_eq_true rfl) (Nat.le_of_ble_eq_true rfl) ?_
        refine tv_aload_n C dk_X9_boxed_101 rfl ?_
        refine tv_iload C dk_X9_boxed_102 rfl ?_
        refine tv_iconst (v := 1) C dk_X9_boxed_104 (by decide) ?_
        refine tv_iload_n C dk_X9_boxed_105 rfl ?_
        have q80 := q79.2
        refine tv_cV0 C dk_X9_boxed_106 ml_RX9_84 yk_X9_sets yi_X9_sets (m_X9_sets _ (f_X9_sets ((f_X9_isThrown ((f_X9_isThrown ((f_X9_isThrown M 0 1).2) 1 2).2) 1 3).2) (tgi ((f_X9_isThrown ((f_X9_isThrown ((f_X9_isThrown M 0 1).2) 1 2).2) 1 3).2) 250 10) 0 x1) (tgi ((f_X9_isThrown ((f_X9_isThrown ((f_X9_isThrown M 0 1).2) 1 2).2) 1 3).2) 250 10) 1 x2 q79.1) (Nat.le_of_ble_eq_true rfl) rfl rfl rfl rfl (Nat.le_of_ble_eq_true rfl) (Nat.le_of_ble_eq_true rfl) (Nat.le_of_ble_eq_true rfl) (Nat.le_of_ble_eq_true rfl) (Nat.le_of_ble_eq_true rfl) ?_
        refine tv_aload_n C dk_X9_boxed_109 rfl ?_
        refine tv_iload C dk_X9_boxed_110 rfl ?_
        refine tv_iconst (v := 2) C dk_X9_boxed_112 (by decide) ?_
        refine tv_iload_n C dk_X9_boxed_113 rfl ?_
        have q81 := q80.2
        refine tv_cV0 C dk_X9_boxed_114 ml_RX9_84 yk_X9_sets yi_X9_sets (m_X9_sets _ (f_X9_sets (f_X9_sets ((f_X9_isThrown ((f_X9_isThrown ((f_X9_isThrown M 0 1).2) 1 2).2) 1 3).2) (tgi ((f_X9_isThrown ((f_X9_isThrown ((f_X9_isThrown M 0 1).2) 1 2).2) 1 3).2) 250 10) 0 x1) (tgi ((f_X9_isThrown ((f_X9_isThrown ((f_X9_isThrown M 0 1).2) 1 2).2) 1 3).2) 250 10) 1 x2) (tgi ((f_X9_isThrown ((f_X9_isThrown ((f_X9_isThrown M 0 1).2) 1 2).2) 1 3).2) 250 10) 2 x3 q80.1) (Nat.le_of_ble_eq_true rfl) rfl rfl rfl rfl (Nat.le_of_ble_eq_true rfl) (Nat.le_of_ble_eq_true rfl) (Nat.le_of_ble_eq_true rfl) (Nat.le_of_ble_eq_true rfl) (Nat.le_of_ble_eq_true rfl) ?_
        refine tv_aload_n C dk_X9_boxed_117 rfl ?_
        refine tv_getR (r := 250) C dk_X9_boxed_118 fl_RX9_9 (Nat.le_of_ble_eq_true rfl) rfl rfl (fun _ _ _ _ => rfl) ?_
        refine tv_bipush (v := 10) C dk_X9_boxed_121 (by decide) ?_
        refine tv_dup2 C dk_X9_boxed_123 rfl rfl ?_
        refine tv_iald (j := 10) rfl C dk_X9_boxed_124 (Nat.le_of_ble_eq_true rfl) rfl (vp_in_nI (n := 10) (by decide) (by decide)) ?_
        refine tv_iconst (v := 1) C dk_X9_boxed_125 (by decide) ?_
        refine tv_iadd C dk_X9_boxed_126 ?_
        refine tv_iast (j := 10) rfl C tvP0_ex dk_X9_boxed_127 (Nat.le_of_ble_eq_true rfl) rfl (vp_in_nI (n := 10) (by decide) (by decide)) ?_
        refine tv_iload C dk_X9_boxed_128 rfl ?_
        exact tv_iret C hQ dk_X9_boxed_130 rfl (by rw [f_X9_boxed, if_neg h1, if_neg h17, if_pos h18, if_pos h19, if_pos h20, if_pos h21, if_pos h23]) (by rw [f_X9_boxed, if_neg h1, if_neg h17, if_pos h18, if_pos h19, if_pos h20, if_pos h21, if_pos h23])
      have q82 := q77.2 h23
      refine tv_iconst (v := 0) C dk_X9_boxed_82 (by decide) ?_
      exact tv_iret C hQ dk_X9_boxed_83 rfl (by rw [f_X9_boxed, if_neg h1, if_neg h17, if_pos h18, if_pos h19, if_pos h20, if_pos h21, if_neg h23]) (by rw [f_X9_boxed, if_neg h1, if_neg h17, if_pos h18, if_pos h19, if_pos h20, if_pos h21, if_neg h23])
    have q83 := q64.2 h19
    refine tv_iload_n C dk_X9_boxed_35 rfl ?_
    refine tv_iconst (v := 0) C dk_X9_boxed_36 (by decide) ?_
    refine tv_bipush (v := 60) C dk_X9_boxed_37 (by decide) ?_
    refine tv_cS1 C dk_X9_boxed_39 ml_RX9_51 yk_X9_isIn yi_X9_isIn (m_X9_isIn _ ((f_X9_isThrown M 0 1).2) x3 0 60) rfl rfl (Nat.le_of_ble_eq_true rfl) (Nat.le_of_ble_eq_true rfl) (Nat.le_of_ble_eq_true rfl) (Nat.le_of_ble_eq_true rfl) (Nat.le_of_ble_eq_true rfl) ?_
    refine tv_if_ne C dk_X9_boxed_42 (fun h24 => ?_) (fun h24 => ?_)
    · have q84 := q83.2 h24
      refine tv_iconst (v := 0) C dk_X9_boxed_49 (by decide) ?_
      refine tv_iconst (v := 2) C dk_X9_boxed_50 (by decide) ?_
      have q85 := q84.2
      refine tv_cV1 C dk_X9_boxed_51 ml_RX9_62 yk_X9_isThrown yi_X9_isThrown (m_X9_isThrown _ ((f_X9_isThrown M 0 1).2) 0 2 q84.1) (Nat.le_of_ble_eq_true rfl) rfl rfl rfl rfl (Nat.le_of_ble_eq_true rfl) (Nat.le_of_ble_eq_true rfl) (Nat.le_of_ble_eq_true rfl) (Nat.le_of_ble_eq_true rfl) (Nat.le_of_ble_eq_true rfl) ?_
      refine tv_if_ne C dk_X9_boxed_54 (fun h25 => ?_) (fun h25 => ?_)
      · have q86 := q85.2 h25
        refine tv_iconst (v := 0) C dk_X9_boxed_82 (by decide) ?_
        exact tv_iret C hQ dk_X9_boxed_83 rfl (by rw [f_X9_boxed, if_neg h1, if_neg h17, if_pos h18, if_neg h19, if_neg h24, if_neg h25]) (by rw [f_X9_boxed, if_neg h1, if_neg h17, if_pos h18, if_neg h19, if_neg h24, if_neg h25])
      have q87 := q85.1 h25
      refine tv_aload_n C dk_X9_boxed_57 rfl ?_
      refine tv_aload_n C dk_X9_boxed_58 rfl ?_
      refine tv_getR (r := 250) C dk_X9_boxed_59 fl_RX9_9 (Nat.le_of_ble_eq_true rfl) rfl rfl (fun _ _ _ _ => rfl) ?_
      refine tv_bipush (v := 10) C dk_X9_boxed_62 (by decide) ?_
      refine tv_iald (j := 10) rfl C dk_X9_boxed_64 (Nat.le_of_ble_eq_true rfl) rfl (vp_in_nI (n := 10) (by decide) (by decide)) ?_
      refine tv_bipush (v := 10) C dk_X9_boxed_65 (by decide) ?_
      refine tv_icmp_ne C dk_X9_boxed_67 (fun h26 => ?_) (fun h26 => ?_)
      · have q88 := q87.2 h26
        refine tv_iconst (v := 0) C dk_X9_boxed_74 (by decide) ?_
        refine tv_iconst (v := 3) C dk_X9_boxed_75 (by decide) ?_
        have q89 := q88.2
        refine tv_cV1 C dk_X9_boxed_76 ml_RX9_62 yk_X9_isThrown yi_X9_isThrown (m_X9_isThrown _ ((f_X9_isThrown ((f_X9_isThrown M 0 1).2) 0 2).2) 0 3 q88.1) (Nat.le_of_ble_eq_true rfl) rfl rfl rfl rfl (Nat.le_of_ble_eq_true rfl) (Nat.le_of_ble_eq_true rfl) (Nat.le_of_ble_eq_true rfl) (Nat.le_of_ble_eq_true rfl) (Nat.le_of_ble_eq_true rfl) ?_
        refine tv_if_eq C dk_X9_boxed_79 (fun h27 => ?_) (fun h27 => ?_)
        · have q90 := q89.1 h27
          refine tv_aload_n C dk_X9_boxed_84 rfl ?_
          refine tv_getR (r := 250) C dk_X9_boxed_85 fl_RX9_9 (Nat.le_of_ble_eq_true rfl) rfl rfl (fun _ _ _ _ => rfl) ?_
          refine tv_bipush (v := 10) C dk_X9_boxed_88 (by decide) ?_
          refine tv_iald (j := 10) rfl C dk_X9_boxed_90 (Nat.le_of_ble_eq_true rfl) rfl (vp_in_nI (n := 10) (by decide) (by decide)) ?_
          refine tv_istore (L' := [_, _, _, _, _]) (hn := by decide) (hlt := (Nat.le_of_ble_eq_true rfl)) (hno := rfl) C dk_X9_boxed_91 rfl ?_
          refine tv_aload_n C dk_X9_boxed_93 rfl ?_
          refine tv_iload C dk_X9_boxed_94 rfl ?_
          refine tv_iconst (v := 0) C dk_X9_boxed_96 (by decide) ?_
          refine tv_iload_n C dk_X9_boxed_97 rfl ?_
          have q91 := q90.2
          refine tv_cV0 C dk_X9_boxed_98 ml_RX9_84 yk_X9_sets yi_X9_sets (m_X9_sets _ ((f_X9_isThrown ((f_X9_isThrown ((f_X9_isThrown M 0 1).2) 0 2).2) 0 3).2) (tgi ((f_X9_isThrown ((f_X9_isThrown ((f_X9_isThrown M 0 1).2) 0 2).2) 0 3).2) 250 10) 0 x1 q90.1) (Nat.le_of_ble_eq_true rfl) rfl rfl rfl rfl (Nat.le_of_ble_eq_true rfl) (Nat.le_of_ble_eq_true rfl) (Nat.le_of_ble_eq_true rfl) (Nat.le_of_ble_eq_true rfl) (Nat.le_of_ble_eq_true rfl) ?_
          refine tv_aload_n C dk_X9_boxed_101 rfl ?_
          refine tv_iload C dk_X9_boxed_102 rfl ?_
          refine tv_iconst (v := 1) C dk_X9_boxed_104 (by decide) ?_
          refine tv_iload_n C dk_X9_boxed_105 rfl ?_
          have q92 := q91.2
          refine tv_cV0 C dk_X9_boxed_106 ml_RX9_84 yk_X9_sets yi_X9_sets (m_X9_sets _ (f_X9_sets ((f_X9_isThrown ((f_X9_isThrown ((f_X9_isThrown M 0 1).2) 0 2).2) 0 3).2) (tgi ((f_X9_isThrown ((f_X9_isThrown ((f_X9_isThrown M 0 1).2) 0 2).2) 0 3).2) 250 10) 0 x1) (tgi ((f_X9_isThrown ((f_X9_isThrown ((f_X9_isThrown M 0 1).2) 0 2).2) 0 3).2) 250 10) 1 x2 q91.1) (Nat.le_of_ble_eq_true rfl) rfl rfl rfl rfl (Nat.le_of_ble_eq_true rfl) (Nat.le_of_ble_eq_true rfl) (Nat.le_of_ble_eq_true rfl) (Nat.le_of_ble_eq_true rfl) (Nat.le_of_ble_eq_true rfl) ?_
          refine tv_aload_n C dk_X9_boxed_109 rfl ?_
          refine tv_iload C dk_X9_boxed_110 rfl ?_
          refine tv_iconst (v := 2) C dk_X9_boxed_112 (by decide) ?_
          refine tv_iload_n C dk_X9_boxed_113 rfl ?_
          have q93 := q92.2
          refine tv_cV0 C dk_X9_boxed_114 ml_RX9_84 yk_X9_sets yi_X9_sets (m_X9_sets _ (f_X9_sets (f_X9_sets ((f_X9_isThrown ((f_X9_isThrown ((f_X9_isThrown M 0 1).2) 0 2).2) 0 3).2) (tgi ((f_X9_isThrown ((f_X9_isThrown ((f_X9_isThrown M 0 1).2) 0 2).2) 0 3).2) 250 10) 0 x1) (tgi ((f_X9_isThrown ((f_X9_isThrown ((f_X9_isThrown M 0 1).2) 0 2).2) 0 3).2) 250 10) 1 x2) (tgi ((f_X9_isThrown ((f_X9_isThrown ((f_X9_isThrown M 0 1).2) 0 2).2) 0 3).2) 250 10) 2 x3 q92.1) (Nat.le_of_ble_eq_true rfl) rfl rfl rfl rfl (Nat.le_of_ble_eq_true rfl) (Nat.le_of_ble_eq_true rfl) (Nat.le_of_ble_eq_true rfl) (Nat.le_of_ble_eq_true rfl) (Nat.le_of_ble_eq_true rfl) ?_
          refine tv_aload_n C dk_X9_boxed_117 rfl ?_
          refine tv_getR (r := 250) C dk_X9_boxed_118 fl_RX9_9 (Nat.le_of_ble_eq_true rfl) rfl rfl (fun _ _ _ _ => rfl) ?_
          refine tv_bipush (v := 10) C dk_X9_boxed_121 (by decide) ?_
          refine tv_dup2 C dk_X9_boxed_123 rfl rfl ?_
          refine tv_iald (j := 10) rfl C dk_X9_boxed_124 (Nat.le_of_ble_eq_true rfl) rfl (vp_in_nI (n := 10) (by decide) (by decide)) ?_
          refine tv_iconst (v := 1) C dk_X9_boxed_125 (by decide) ?_
          refine tv_iadd C dk_X9_boxed_126 ?_
          refine tv_iast (j := 10) rfl C tvP0_ex dk_X9_boxed_127 (Nat.le_of_ble_eq_true rfl) rfl (vp_in_nI (n := 10) (by decide) (by decide)) ?_
          refine tv_iload C dk_X9_boxed_128 rfl ?_
          exact tv_iret C hQ dk_X9_boxed_130 rfl (by rw [f_X9_boxed, if_neg h1, if_neg h17, if_pos h18, if_neg h19, if_neg h24, if_pos h25, if_neg h26, if_pos h27]) (by rw [f_X9_boxed, if_neg h1, if_neg h17, if_pos h18, if_neg h19, if_neg h24, if_pos h25, if_neg h26, if_pos h27])
        have q94 := q89.2 h27
        refine tv_iconst (v := 0) C dk_X9_boxed_82 (by decide) ?_
        exact tv_iret C hQ dk_X9_boxed_83 rfl (by rw [f_X9_boxed, if_neg h1, if_neg h17, if_pos h18, if_neg h19, if_neg h24, if_pos h25, if_neg h26, if_neg h27]) (by rw [f_X9_boxed, if_neg h1, if_neg h17, if_pos h18, if_neg h19, if_neg h24, if_pos h25, if_neg h26, if_neg h27])
      have q95 := q87.1 h26
      refine tv_iconst (v := 1) C dk_X9_boxed_70 (by decide) ?_
      refine tv_goto C dk_X9_boxed_71 ?_
      refine tv_iconst (v := 3) C dk_X9_boxed_75 (by decide) ?_
      have q96 := q95.2
      refine tv_cV1 C dk_X9_boxed_76 ml_RX9_62 yk_X9_isThrown yi_X9_isThrown (m_X9_isThrown _ ((f_X9_isThrown ((f_X9_isThrown M 0 1).2) 0 2).2) 1 3 q95.1) (Nat.le_of_ble_eq_true rfl) rfl rfl rfl rfl (Nat.le_of_ble_eq_true rfl) (Nat.le_of_ble_eq_true rfl) (Nat.le_of_ble_eq_true rfl) (Nat.le_of_ble_eq_true rfl) (Nat.le_of_ble_eq_true rfl) ?_
      refine tv_if_eq C dk_X9_boxed_79 (fun h28 => ?_) (fun h28 => ?_)
      · have q97 := q96.1 h28
        refine tv_aload_n C dk_X9_boxed_84 rfl ?_
        refine tv_getR (r := 250) C dk_X9_boxed_85 fl_RX9_9 (Nat.le_of_ble_eq_true rfl) rfl rfl (fun _ _ _ _ => rfl) ?_
        refine tv_bipush (v := 10) C dk_X9_boxed_88 (by decide) ?_
        refine tv_iald (j := 10) rfl C dk_X9_boxed_90 (Nat.le_of_ble_eq_true rfl) rfl (vp_in_nI (n := 10) (by decide) (by decide)) ?_
        refine tv_istore (L' := [_, _, _, _, _]) (hn := by decide) (hlt := (Nat.le_of_ble_eq_true rfl)) (hno := rfl) C dk_X9_boxed_91 rfl ?_
        refine tv_aload_n C dk_X9_boxed_93 rfl ?_
        refine tv_iload C dk_X9_boxed_94 rfl ?_
        refine tv_iconst (v := 0) C dk_X9_boxed_96 (by decide) ?_
        refine tv_iload_n C dk_X9_boxed_97 rfl ?_
        have q98 := q97.2
        refine tv_cV0 C dk_X9_boxed_98 ml_RX9_84 yk_X9_sets yi_X9_sets (m_X9_sets _ ((f_X9_isThrown ((f_X9_isThrown ((f_X9_isThrown M 0 1).2) 0 2).2) 1 3).2) (tgi ((f_X9_isThrown ((f_X9_isThrown ((f_X9_isThrown M 0 1).2) 0 2).2) 1 3).2) 250 10) 0 x1 q97.1) (Nat.le_of_ble_eq_true rfl) rfl rfl rfl rfl (Nat.le_of_ble_eq_true rfl) (Nat.le_of_ble_eq_true rfl) (Nat.le_of_ble_eq_true rfl) (Nat.le_of_ble_eq_true rfl) (Nat.le_of_ble_eq_true rfl) ?_
        refine tv_aload_n C dk_X9_boxed_101 rfl ?_
        refine tv_iload C dk_X9_boxed_102 rfl ?_
        refine tv_iconst (v := 1) C dk_X9_boxed_104 (by decide) ?_
        refine tv_iload_n C dk_X9_boxed_105 rfl ?_
        have q99 := q98.2
        refine tv_cV0 C dk_X9_boxed_106 ml_RX9_84 yk_X9_sets yi_X9_sets (m_X9_sets _ (f_X9_sets ((f_X9_isThrown ((f_X9_isThrown ((f_X9_isThrown M 0 1).2) 0 2).2) 1 3).2) (tgi ((f_X9_isThrown ((f_X9_isThrown ((f_X9_isThrown M 0 1).2) 0 2).2) 1 3).2) 250 10) 0 x1) (tgi ((f_X9_isThrown ((f_X9_isThrown ((f_X9_isThrown M 0 1).2) 0 2).2) 1 3).2) 250 10) 1 x2 q98.1) (Nat.le_of_ble_eq_true rfl) rfl rfl rfl rfl (Nat.le_of_ble_eq_true rfl) (Nat.le_of_ble_eq_true rfl) (Nat.le_of_ble_eq_true rfl) (Nat.le_of_ble_eq_true rfl) (Nat.le_of_ble_eq_true rfl) ?_
        refine tv_aload_n C dk_X9_boxed_109 rfl ?_
        refine tv_iload C dk_X9_boxed_110 rfl ?_
        refine tv_iconst (v := 2) C dk_X9_boxed_112 (by decide) ?_
        refine tv_iload_n C dk_X9_boxed_113 rfl ?_
        have q100 := q99.2
        refine tv_cV0 C dk_X9_boxed_114 ml_RX9_84 yk_X9_sets yi_X9_sets (m_X9_sets _ (f_X9_sets (f_X9_sets ((f_X9_isThrown ((f_X9_isThrown ((f_X9_isThrown M 0 1).2) 0 2).2) 1 3).2) (tgi ((f_X9_isThrown ((f_X9_isThrown ((f_X9_isThrown M 0 1).2) 0 2).2) 1 3).2) 250 10) 0 x1) (tgi ((f_X9_isThrown ((f_X9_isThrown ((f_X9_isThrown M 0 1).2) 0 2).2) 1 3).2) 250 10) 1 x2) (tgi ((f_X9_isThrown ((f_X9_isThrown ((f_X9_isThrown M 0 1).2) 0 2).2) 1 3).2) 250 10) 2 x3 q99.1) (Nat.le_of_ble_eq_true rfl) rfl rfl rfl rfl (Nat.le_of_ble_eq_true rfl) (Nat.le_of_ble_eq_true rfl) (Nat.le_of_ble_eq_true rfl) (Nat.le_of_ble_eq_true rfl) (Nat.le_of_ble_eq_true rfl) ?_
        refine tv_aload_n C dk_X9_boxed_117 rfl ?_
        refine tv_getR (r := 250) C dk_X9_boxed_118 fl_RX9_9 (Nat.le_of_ble_eq_true rfl) rfl rfl (fun _ _ _ _ => rfl) ?_
        refine tv_bipush (v := 10) C dk_X9_boxed_121 (by decide) ?_
        refine tv_dup2 C dk_X9_boxed_123 rfl rfl ?_
        refine tv_iald (j := 10) rfl C dk_X9_boxed_124 (Nat.le_of_ble_eq_true rfl) rfl (vp_in_nI (n := 10) (by decide) (by decide)) ?_
        refine tv_iconst (v := 1) C dk_X9_boxed_125 (by decide) ?_
        refine tv_iadd C dk_X9_boxed_126 ?_
        refine tv_iast (j := 10) rfl C tvP0_ex dk_X9_boxed_127 (Nat.le_of_ble_eq_true rfl) rfl (vp_in_nI (n := 10) (by decide) (by decide)) ?_
        refine tv_iload C dk_X9_boxed_128 rfl ?_
        exact tv_iret C hQ dk_X9_boxed_130 rfl (by rw [f_X9_boxed, if_neg h1, if_neg h17, if_pos h18, if_neg h19, if_neg h24, if_pos h25, if_pos h26, if_pos h28]) (by rw [f_X9_boxed, if_neg h1, if_neg h17, if_pos h18, if_neg h19, if_neg h24, if_pos h25, if_pos h26, if_pos h28])
      have q101 := q96.2 h28
      refine tv_iconst (v := 0) C dk_X9_boxed_82 (by decide) ?_
      exact tv_iret C hQ dk_X9_boxed_83 rfl (by rw [f_X9_boxed, if_neg h1, if_neg h17, if_pos h18, if_neg h19, if_neg h24, if_pos h25, if_pos h26, if_neg h28]) (by rw [f_X9_boxed, if_neg h1, if_neg h17, if_pos h18, if_neg h19, if_neg h24, if_pos h25, if_pos h26, if_neg h28])
    have q102 := q83.1 h24
    refine tv_iconst (v := 1) C dk_X9_boxed_45 (by decide) ?_
    refine tv_goto C dk_X9_boxed_46 ?_
    refine tv_iconst (v := 2) C dk_X9_boxed_50 (by decide) ?_
    have q103 := q102.2
    refine tv_cV1 C dk_X9_boxed_51 ml_RX9_62 yk_X9_isThrown yi_X9_isThrown (m_X9_isThrown _ ((f_X9_isThrown M 0 1).2) 1 2 q102.1) (Nat.le_of_ble_eq_true rfl) rfl rfl rfl rfl (Nat.le_of_ble_eq_true rfl) (Nat.le_of_ble_eq_true rfl) (Nat.le_of_ble_eq_true rfl) (Nat.le_of_ble_eq_true rfl) (Nat.le_of_ble_eq_true rfl) ?_
    refine tv_if_ne C dk_X9_boxed_54 (fun h29 => ?_) (fun h29 => ?_)
    · have q104 := q103.2 h29
      refine tv_iconst (v := 0) C dk_X9_boxed_82 (by decide) ?_
      exact tv_iret C hQ dk_X9_boxed_83 rfl (by rw [f_X9_boxed, if_neg h1, if_neg h17, if_pos h18, if_neg h19, if_pos h24, if_neg h29]) (by rw [f_X9_boxed, if_neg h1, if_neg h17, if_pos h18, if_neg h19, if_pos h24, if_neg h29])
    have q105 := q103.1 h29
    refine tv_aload_n C dk_X9_boxed_57 rfl ?_
    refine tv_aload_n C dk_X9_boxed_58 rfl ?_
    refine tv_getR (r := 250) C dk_X9_boxed_59 fl_RX9_9 (Nat.le_of_ble_eq_true rfl) rfl rfl (fun _ _ _ _ => rfl) ?_
    refine tv_bipush (v := 10) C dk_X9_boxed_62 (by decide) ?_
    refine tv_iald (j := 10) rfl C dk_X9_boxed_64 (Nat.le_of_ble_eq_true rfl) rfl (vp_in_nI (n := 10) (by decide) (by decide)) ?_
    refine tv_bipush (v := 10) C dk_X9_boxed_65 (by decide) ?_
    refine tv_icmp_ne C dk_X9_boxed_67 (fun h30 => ?_) (fun h30 => ?_)
    · have q106 := q105.2 h30
      refine tv_iconst (v := 0) C dk_X9_boxed_74 (by decide) ?_
      refine tv_iconst (v := 3) C dk_X9_boxed_75 (by decide) ?_
      have q107 := q106.2
      refine tv_cV1 C dk_X9_boxed_76 ml_RX9_62 yk_X9_isThrown yi_X9_isThrown (m_X9_isThrown _ ((f_X9_isThrown ((f_X9_isThrown M 0 1).2) 1 2).2) 0 3 q106.1) (Nat.le_of_ble_eq_true rfl) rfl rfl rfl rfl (Nat.le_of_ble_eq_true rfl) (Nat.le_of_ble_eq_true rfl) (Nat.le_of_ble_eq_true rfl) (Nat.le_of_ble_eq_true rfl) (Nat.le_of_ble_eq_true rfl) ?_
      refine tv_if_eq C dk_X9_boxed_79 (fun h31 => ?_) (fun h31 => ?_)
      · have q108 := q107.1 h31
        refine tv_aload_n C dk_X9_boxed_84 rfl ?_
        refine tv_getR (r := 250) C dk_X9_boxed_85 fl_RX9_9 (Nat.le_of_ble_eq_true rfl) rfl rfl (fun _ _ _ _ => rfl) ?_
        refine tv_bipush (v := 10) C dk_X9_boxed_88 (by decide) ?_
        refine tv_iald (j := 10) rfl C dk_X9_boxed_90 (Nat.le_of_ble_eq_true rfl) rfl (vp_in_nI (n := 10) (by decide) (by decide)) ?_
        refine tv_istore (L' := [_, _, _, _, _]) (hn := by decide) (hlt := (Nat.le_of_ble_eq_true rfl)) (hno := rfl) C dk_X9_boxed_91 rfl ?_
        refine tv_aload_n C dk_X9_boxed_93 rfl ?_
        refine tv_iload C dk_X9_boxed_94 rfl ?_
        refine tv_iconst (v := 0) C dk_X9_boxed_96 (by decide) ?_
        refine tv_iload_n C dk_X9_boxed_97 rfl ?_
        have q109 := q108.2
        refine tv_cV0 C dk_X9_boxed_98 ml_RX9_84 yk_X9_sets yi_X9_sets (m_X9_sets _ ((f_X9_isThrown ((f_X9_isThrown ((f_X9_isThrown M 0 1).2) 1 2).2) 0 3).2) (tgi ((f_X9_isThrown ((f_X9_isThrown ((f_X9_isThrown M 0 1).2) 1 2).2) 0 3).2) 250 10) 0 x1 q108.1) (Nat.le_of_ble_eq_true rfl) rfl rfl rfl rfl (Nat.le_of_ble_eq_true rfl) (Nat.le_of_ble_eq_true rfl) (Nat.le_of_ble_eq_true rfl) (Nat.le_of_ble_eq_true rfl) (Nat.le_of_ble_eq_true rfl) ?_
        refine tv_aload_n C dk_X9_boxed_101 rfl ?_
        refine tv_iload C dk_X9_boxed_102 rfl ?_
        refine tv_iconst (v := 1) C dk_X9_boxed_104 (by decide) ?_
        refine tv_iload_n C dk_X9_boxed_105 rfl ?_
        have q110 := q109.2
        refine tv_cV0 C dk_X9_boxed_106 ml_RX9_84 yk_X9_sets yi_X9_sets (m_X9_sets _ (f_X9_sets ((f_X9_isThrown ((f_X9_isThrown ((f_X9_isThrown M 0 1).2) 1 2).2) 0 3).2) (tgi ((f_X9_isThrown ((f_X9_isThrown ((f_X9_isThrown M 0 1).2) 1 2).2) 0 3).2) 250 10) 0 x1) (tgi ((f_X9_isThrown ((f_X9_isThrown ((f_X9_isThrown M 0 1).2) 1 2).2) 0 3).2) 250 10) 1 x2 q109.1) (Nat.le_of_ble_eq_true rfl) rfl rfl rfl rfl (Nat.le_of_ble_eq_true rfl) (Nat.le_of_ble_eq_true rfl) (Nat.le_of_ble_eq_true rfl) (Nat.le_of_ble_eq_true rfl) (Nat.le_of_ble_eq_true rfl) ?_
        refine tv_aload_n C dk_X9_boxed_109 rfl ?_
        refine tv_iload C dk_X9_boxed_110 rfl ?_
        refine tv_iconst (v := 2) C dk_X9_boxed_112 (by decide) ?_
        refine tv_iload_n C dk_X9_boxed_113 rfl ?_
        have q111 := q110.2
        refine tv_cV0 C dk_X9_boxed_114 ml_RX9_84 yk_X9_sets yi_X9_sets (m_X9_sets _ (f_X9_sets (f_X9_sets ((f_X9_isThrown ((f_X9_isThrown ((f_X9_isThrown M 0 1).2) 1 2).2) 0 3).2) (tgi ((f_X9_isThrown ((f_X9_isThrown ((f_X9_isThrown M 0 1).2) 1 2).2) 0 3).2) 250 10) 0 x1) (tgi ((f_X9_isThrown ((f_X9_isThrown ((f_X9_isThrown M 0 1).2) 1 2).2) 0 3).2) 250 10) 1 x2) (tgi ((f_X9_isThrown ((f_X9_isThrown ((f_X9_isThrown M 0 1).2) 1 2).2) 0 3).2) 250 10) 2 x3 q110.1) (Nat.le_of_ble_eq_true rfl) rfl rfl rfl rfl (Nat.le_of_ble_eq_true rfl) (Nat.le_of_ble_eq_true rfl) (Nat.le_of_ble_eq_true rfl) (Nat.le_of_ble_eq_true rfl) (Nat.le_of_ble_eq_true rfl) ?_
        refine tv_aload_n C dk_X9_boxed_117 rfl ?_
        refine tv_getR (r := 250) C dk_X9_boxed_118 fl_RX9_9 (Nat.le_of_ble_eq_true rfl) rfl rfl (fun _ _ _ _ => rfl) ?_
        refine tv_bipush (v := 10) C dk_X9_boxed_121 (by decide) ?_
        refine tv_dup2 C dk_X9_boxed_123 rfl rfl ?_
        refine tv_iald (j := 10) rfl C dk_X9_boxed_124 (Nat.le_of_ble_eq_true rfl) rfl (vp_in_nI (n := 10) (by decide) (by decide)) ?_
        refine tv_iconst (v := 1) C dk_X9_boxed_125 (by decide) ?_
        refine tv_iadd C dk_X9_boxed_126 ?_
        refine tv_iast (j := 10) rfl C tvP0_ex dk_X9_boxed_127 (Nat.le_of_ble_eq_true rfl) rfl (vp_in_nI (n := 10) (by decide) (by decide)) ?_
        refine tv_iload C dk_X9_boxed_128 rfl ?_
        exact tv_iret C hQ dk_X9_boxed_130 rfl (by rw [f_X9_boxed, if_neg h1, if_neg h17, if_pos h18, if_neg h19, if_pos h24, if_pos h29, if_neg h30, if_pos h31]) (by rw [f_X9_boxed, if_neg h1, if_neg h17, if_pos h18, if_neg h19, if_pos h24, if_pos h29, if_neg h30, if_pos h31])
      have q112 := q107.2 h31
      refine tv_iconst (v := 0) C dk_X9_boxed_82 (by decide) ?_
      exact tv_iret C hQ dk_X9_boxed_83 rfl (by rw [f_X9_boxed, if_neg h1, if_neg h17, if_pos h18, if_neg h19, if_pos h24, if_pos h29, if_neg h30, if_neg h31]) (by rw [f_X9_boxed, if_neg h1, if_neg h17, if_pos h18, if_neg h19, if_pos h24, if_pos h29, if_neg h30, if_neg h31])
    have q113 := q105.1 h30
    refine tv_iconst (v := 1) C dk_X9_boxed_70 (by decide) ?_
    refine tv_goto C dk_X9_boxed_71 ?_
    refine tv_iconst (v := 3) C dk_X9_boxed_75 (by decide) ?_
    have q114 := q113.2
    refine tv_cV1 C dk_X9_boxed_76 ml_RX9_62 yk_X9_isThrown yi_X9_isThrown (m_X9_isThrown _ ((f_X9_isThrown ((f_X9_isThrown M 0 1).2) 1 2).2) 1 3 q113.1) (Nat.le_of_ble_eq_true rfl) rfl rfl rfl rfl (Nat.le_of_ble_eq_true rfl) (Nat.le_of_ble_eq_true rfl) (Nat.le_of_ble_eq_true rfl) (Nat.le_of_ble_eq_true rfl) (Nat.le_of_ble_eq_true rfl) ?_
    refine tv_if_eq C dk_X9_boxed_79 (fun h32 => ?_) (fun h32 => ?_)
    · have q115 := q114.1 h32
      refine tv_aload_n C dk_X9_boxed_84 rfl ?_
      refine tv_getR (r := 250) C dk_X9_boxed_85 fl_RX9_9 (Nat.le_of_ble_eq_true rfl) rfl rfl (fun _ _ _ _ => rfl) ?_
      refine tv_bipush (v := 10) C dk_X9_boxed_88 (by decide) ?_
      refine tv_iald (j := 10) rfl C dk_X9_boxed_90 (Nat.le_of_ble_eq_true rfl) rfl (vp_in_nI (n := 10) (by decide) (by decide)) ?_
      refine tv_istore (L' := [_, _, _, _, _]) (hn := by decide) (hlt := (Nat.le_of_ble_eq_true rfl)) (hno := rfl) C dk_X9_boxed_91 rfl ?_
      refine tv_aload_n C dk_X9_boxed_93 rfl ?_
      refine tv_iload C dk_X9_boxed_94 rfl ?_
      refine tv_iconst (v := 0) C dk_X9_boxed_96 (by decide) ?_
      refine tv_iload_n C dk_X9_boxed_97 rfl ?_
      have q116 := q115.2
      refine tv_cV0 C dk_X9_boxed_98 ml_RX9_84 yk_X9_sets yi_X9_sets (m_X9_sets _ ((f_X9_isThrown ((f_X9_isThrown ((f_X9_isThrown M 0 1).2) 1 2).2) 1 3).2) (tgi ((f_X9_isThrown ((f_X9_isThrown ((f_X9_isThrown M 0 1).2) 1 2).2) 1 3).2) 250 10) 0 x1 q115.1) (Nat.le_of_ble_eq_true rfl) rfl rfl rfl rfl (Nat.le_of_ble_eq_true rfl) (Nat.le_of_ble_eq_true rfl) (Nat.le_of_ble_eq_true rfl) (Nat.le_of_ble_eq_true rfl) (Nat.le_of_ble_eq_true rfl) ?_
      refine tv_aload_n C dk_X9_boxed_101 rfl ?_
      refine tv_iload C dk_X9_boxed_102 rfl ?_
      refine tv_iconst (v := 1) C dk_X9_boxed_104 (by decide) ?_
      refine tv_iload_n C dk_X9_boxed_105 rfl ?_
      have q117 := q116.2
      refine tv_cV0 C dk_X9_boxed_106 ml_RX9_84 yk_X9_sets yi_X9_sets (m_X9_sets _ (f_X9_sets ((f_X9_isThrown ((f_X9_isThrown ((f_X9_isThrown M 0 1).2) 1 2).2) 1 3).2) (tgi ((f_X9_isThrown ((f_X9_isThrown ((f_X9_isThrown M 0 1).2) 1 2).2) 1 3).2) 250 10) 0 x1) (tgi ((f_X9_isThrown ((f_X9_isThrown ((f_X9_isThrown M 0 1).2) 1 2).2) 1 3).2) 250 10) 1 x2 q116.1) (Nat.le_of_ble_eq_true rfl) rfl rfl rfl rfl (Nat.le_of_ble_eq_true rfl) (Nat.le_of_ble_eq_true rfl) (Nat.le_of_ble_eq_true rfl) (Nat.le_of_ble_eq_true rfl) (Nat.le_of_ble_eq_true rfl) ?_
      refine tv_aload_n C dk_X9_boxed_109 rfl ?_
      refine tv_iload C dk_X9_boxed_110 rfl ?_
      refine tv_iconst (v := 2) C dk_X9_boxed_112 (by decide) ?_
      refine tv_iload_n C dk_X9_boxed_113 rfl ?_
      have q118 := q117.2
      refine tv_cV0 C dk_X9_boxed_114 ml_RX9_84 yk_X9_sets yi_X9_sets (m_X9_sets _ (f_X9_sets (f_X9_sets ((f_X9_isThrown ((f_X9_isThrown ((f_X9_isThrown M 0 1).2) 1 2).2) 1 3).2) (tgi ((f_X9_isThrown ((f_X9_isThrown ((f_X9_isThrown M 0 1).2) 1 2).2) 1 3).2) 250 10) 0 x1) (tgi ((f_X9_isThrown ((f_X9_isThrown ((f_X9_isThrown M 0 1).2) 1 2).2) 1 3).2) 250 10) 1 x2) (tgi ((f_X9_isThrown ((f_X9_isThrown ((f_X9_isThrown M 0 1).2) 1 2).2) 1 3).2) 250 10) 2 x3 q117.1) (Nat.le_of_ble_eq_true rfl) rfl rfl rfl rfl (Nat.le_of_ble_eq_true rfl) (Nat.le_of_ble_eq_true rfl) (Nat.le_of_ble_eq_true rfl) (Nat.le_of_ble_eq_true rfl) (Nat.le_of_ble_eq_true rfl) ?_
      refine tv_aload_n C dk_X9_boxed_117 rfl ?_
      refine tv_getR (r := 250) C dk_X9_boxed_118 fl_RX9_9 (Nat.le_of_ble_eq_true rfl) rfl rfl (fun _ _ _ _ => rfl) ?_
      refine tv_bipush (v := 10) C dk_X9_boxed_121 (by decide) ?_
      refine tv_dup2 C dk_X9_boxed_123 rfl rfl ?_
      refine tv_iald (j := 10) rfl C dk_X9_boxed_124 (Nat.le_of_ble_eq_true rfl) rfl (vp_in_nI (n := 10) (by decide) (by decide)) ?_
      refine tv_iconst (v := 1) C dk_X9_boxed_125 (by decide) ?_
      refine tv_iadd C dk_X9_boxed_126 ?_
      refine tv_iast (j := 10) rfl C tvP0_ex dk_X9_boxed_127 (Nat.le_of_ble_eq_true rfl) rfl (vp_in_nI (n := 10) (by decide) (by decide)) ?_
      refine tv_iload C dk_X9_boxed_128 rfl ?_
      exact tv_iret C hQ dk_X9_boxed_130 rfl (by rw [f_X9_boxed, if_neg h1, if_neg h17, if_pos h18, if_neg h19, if_pos h24, if_pos h29, if_pos h30, if_pos h32]) (by rw [f_X9_boxed, if_neg h1, if_neg h17, if_pos h18, if_neg h19, if_pos h24, if_pos h29, if_pos h30, if_pos h32])
    have q119 := q114.2 h32
    refine tv_iconst (v := 0) C dk_X9_boxed_82 (by decide) ?_
    exact tv_iret C hQ dk_X9_boxed_83 rfl (by rw [f_X9_boxed, if_neg h1, if_neg h17, if_pos h18, if_neg h19, if_pos h24, if_pos h29, if_pos h30, if_neg h32]) (by rw [f_X9_boxed, if_neg h1, if_neg h17, if_pos h18, if_neg h19, if_pos h24, if_pos h29, if_pos h30, if_neg h32])
  have q120 := q60.1 h17
  refine tv_iconst (v := 1) C dk_X9_boxed_17 (by decide) ?_
  refine tv_goto C dk_X9_boxed_18 ?_
  refine tv_iconst (v := 1) C dk_X9_boxed_22 (by decide) ?_
  have q121 := q120.2
  refine tv_cV1 C dk_X9_boxed_23 ml_RX9_62 yk_X9_isThrown yi_X9_isThrown (m_X9_isThrown _ M 1 1 q120.1) (Nat.le_of_ble_eq_true rfl) rfl rfl rfl rfl (Nat.le_of_ble_eq_true rfl) (Nat.le_of_ble_eq_true rfl) (Nat.le_of_ble_eq_true rfl) (Nat.le_of_ble_eq_true rfl) (Nat.le_of_ble_eq_true rfl) ?_
  refine tv_if_ne C dk_X9_boxed_26 (fun h33 => ?_) (fun h33 => ?_)
  · have q122 := q121.2 h33
    refine tv_iconst (v := 0) C dk_X9_boxed_82 (by decide) ?_
    exact tv_iret C hQ dk_X9_boxed_83 rfl (by rw [f_X9_boxed, if_neg h1, if_pos h17, if_neg h33]) (by rw [f_X9_boxed, if_neg h1, if_pos h17, if_neg h33])
  have q123 := q121.1 h33
  refine tv_aload_n C dk_X9_boxed_29 rfl ?_
  refine tv_iload_n C dk_X9_boxed_30 rfl ?_
  refine tv_iload_n C dk_X9_boxed_31 rfl ?_
  refine tv_icmp_eq C dk_X9_boxed_32 (fun h34 => ?_) (fun h34 => ?_)
  · have q124 := q123.1 h34
    refine tv_iconst (v := 1) C dk_X9_boxed_45 (by decide) ?_
    refine tv_goto C dk_X9_boxed_46 ?_
    refine tv_iconst (v := 2) C dk_X9_boxed_50 (by decide) ?_
    have q125 := q124.2
    refine tv_cV1 C dk_X9_boxed_51 ml_RX9_62 yk_X9_isThrown yi_X9_isThrown (m_X9_isThrown _ ((f_X9_isThrown M 1 1).2) 1 2 q124.1) (Nat.le_of_ble_eq_true rfl) rfl rfl rfl rfl (Nat.le_of_ble_eq_true rfl) (Nat.le_of_ble_eq_true rfl) (Nat.le_of_ble_eq_true rfl) (Nat.le_of_ble_eq_true rfl) (Nat.le_of_ble_eq_true rfl) ?_
    refine tv_if_ne C dk_X9_boxed_54 (fun h35 => ?_) (fun h35 => ?_)
    · have q126 := q125.2 h35
      refine tv_iconst (v := 0) C dk_X9_boxed_82 (by decide) ?_
      exact tv_iret C hQ dk_X9_boxed_83 rfl (by rw [f_X9_boxed, if_neg h1, if_pos h17, if_pos h33, if_pos h34, if_neg h35]) (by rw [f_X9_boxed, if_neg h1, if_pos h17, if_pos h33, if_pos h34, if_neg h35])
    have q127 := q125.1 h35
    refine tv_aload_n C dk_X9_boxed_57 rfl ?_
    refine tv_aload_n C dk_X9_boxed_58 rfl ?_
    refine tv_getR (r := 250) C dk_X9_boxed_59 fl_RX9_9 (Nat.le_of_ble_eq_true rfl) rfl rfl (fun _ _ _ _ => rfl) ?_
    refine tv_bipush (v := 10) C dk_X9_boxed_62 (by decide) ?_
    refine tv_iald (j := 10) rfl C dk_X9_boxed_64 (Nat.le_of_ble_eq_true rfl) rfl (vp_in_nI (n := 10) (by decide) (by decide)) ?_
    refine tv_bipush (v := 10) C dk_X9_boxed_65 (by decide) ?_
    refine tv_icmp_ne C dk_X9_boxed_67 (fun h36 => ?_) (fun h36 => ?_)
    · have q128 := q127.2 h36
      refine tv_iconst (v := 0) C dk_X9_boxed_74 (by decide) ?_
      refine tv_iconst (v := 3) C dk_X9_boxed_75 (by decide) ?_
      have q129 := q128.2
      refine tv_cV1 C dk_X9_boxed_76 ml_RX9_62 yk_X9_isThrown yi_X9_isThrown (m_X9_isThrown _ ((f_X9_isThrown ((f_X9_isThrown M 1 1).2) 1 2).2) 0 3 q128.1) (Nat.le_of_ble_eq_true rfl) rfl rfl rfl rfl (Nat.le_of_ble_eq_true rfl) (Nat.le_of_ble_eq_true rfl) (Nat.le_of_ble_eq_true rfl) (Nat.le_of_ble_eq_true rfl) (Nat.le_of_ble_eq_true rfl) ?_
      refine tv_if_eq C dk_X9_boxed_79 (fun h37 => ?_) (fun h37 => ?_)
      · have q130 := q129.1 h37
        refine tv_aload_n C dk_X9_boxed_84 rfl ?_
        refine tv_getR (r := 250) C dk_X9_boxed_85 fl_RX9_9 (Nat.le_of_ble_eq_true rfl) rfl rfl (fun _ _ _ _ => rfl) ?_
        refine tv_bipush (v := 10) C dk_X9_boxed_88 (by decide) ?_
        refine tv_iald (j := 10) rfl C dk_X9_boxed_90 (Nat.le_of_ble_eq_true rfl) rfl (vp_in_nI (n := 10) (by decide) (by decide)) ?_
        refine tv_istore (L' := [_, _, _, _, _]) (hn := by decide) (hlt := (Nat.le_of_ble_eq_true rfl)) (hno := rfl) C dk_X9_boxed_91 rfl ?_
        refine tv_aload_n C dk_X9_boxed_93 rfl ?_
        refine tv_iload C dk_X9_boxed_94 rfl ?_
        refine tv_iconst (v := 0) C dk_X9_boxed_96 (by decide) ?_
        refine tv_iload_n C dk_X9_boxed_97 rfl ?_
        have q131 := q130.2
        refine tv_cV0 C dk_X9_boxed_98 ml_RX9_84 yk_X9_sets yi_X9_sets (m_X9_sets _ ((f_X9_isThrown ((f_X9_isThrown ((f_X9_isThrown M 1 1).2) 1 2).2) 0 3).2) (tgi ((f_X9_isThrown ((f_X9_isThrown ((f_X9_isThrown M 1 1).2) 1 2).2) 0 3).2) 250 10) 0 x1 q130.1) (Nat.le_of_ble_eq_true rfl) rfl rfl rfl rfl (Nat.le_of_ble_eq_true rfl) (Nat.le_of_ble_eq_true rfl) (Nat.le_of_ble_eq_true rfl) (Nat.le_of_ble_eq_true rfl) (Nat.le_of_ble_eq_true rfl) ?_
        refine tv_aload_n C dk_X9_boxed_101 rfl ?_
        refine tv_iload C dk_X9_boxed_102 rfl ?_
        refine tv_iconst (v := 1) C dk_X9_boxed_104 (by decide) ?_
        refine tv_iload_n C dk_X9_boxed_105 rfl ?_
        have q132 := q131.2
        refine tv_cV0 C dk_X9_boxed_106 ml_RX9_84 yk_X9_sets yi_X9_sets (m_X9_sets _ (f_X9_sets ((f_X9_isThrown ((f_X9_isThrown ((f_X9_isThrown M 1 1).2) 1 2).2) 0 3).2) (tgi ((f_X9_isThrown ((f_X9_isThrown ((f_X9_isThrown M 1 1).2) 1 2).2) 0 3).2) 250 10) 0 x1) (tgi ((f_X9_isThrown ((f_X9_isThrown ((f_X9_isThrown M 1 1).2) 1 2).2) 0 3).2) 250 10) 1 x2 q131.1) (Nat.le_of_ble_eq_true rfl) rfl rfl rfl rfl (Nat.le_of_ble_eq_true rfl) (Nat.le_of_ble_eq_true rfl) (Nat.le_of_ble_eq_true rfl) (Nat.le_of_ble_eq_true rfl) (Nat.le_of_ble_eq_true rfl) ?_
        refine tv_aload_n C dk_X9_boxed_109 rfl ?_
        refine tv_iload C dk_X9_boxed_110 rfl ?_
        refine tv_iconst (v := 2) C dk_X9_boxed_112 (by decide) ?_
        refine tv_iload_n C dk_X9_boxed_113 rfl ?_
        have q133 := q132.2
        refine tv_cV0 C dk_X9_boxed_114 ml_RX9_84 yk_X9_sets yi_X9_sets (m_X9_sets _ (f_X9_sets (f_X9_sets ((f_X9_isThrown ((f_X9_isThrown ((f_X9_isThrown M 1 1).2) 1 2).2) 0 3).2) (tgi ((f_X9_isThrown ((f_X9_isThrown ((f_X9_isThrown M 1 1).2) 1 2).2) 0 3).2) 250 10) 0 x1) (tgi ((f_X9_isThrown ((f_X9_isThrown ((f_X9_isThrown M 1 1).2) 1 2).2) 0 3).2) 250 10) 1 x2) (tgi ((f_X9_isThrown ((f_X9_isThrown ((f_X9_isThrown M 1 1).2) 1 2).2) 0 3).2) 250 10) 2 x3 q132.1) (Nat.le_of_ble_eq_true rfl) rfl rfl rfl rfl (Nat.le_of_ble_eq_true rfl) (Nat.le_of_ble_eq_true rfl) (Nat.le_of_ble_eq_true rfl) (Nat.le_of_ble_eq_true rfl) (Nat.le_of_ble_eq_true rfl) ?_
        refine tv_aload_n C dk_X9_boxed_117 rfl ?_
        refine tv_getR (r := 250) C dk_X9_boxed_118 fl_RX9_9 (Nat.le_of_ble_eq_true rfl) rfl rfl (fun _ _ _ _ => rfl) ?_
        refine tv_bipush (v := 10) C dk_X9_boxed_121 (by decide) ?_
        refine tv_dup2 C dk_X9_boxed_123 rfl rfl ?_
        refine tv_iald (j := 10) rfl C dk_X9_boxed_124 (Nat.le_of_ble_eq_true rfl) rfl (vp_in_nI (n := 10) (by decide) (by decide)) ?_
        refine tv_iconst (v := 1) C dk_X9_boxed_125 (by decide) ?_
        refine tv_iadd C dk_X9_boxed_126 ?_
        refine tv_iast (j := 10) rfl C tvP0_ex dk_X9_boxed_127 (Nat.le_of_ble_eq_true rfl) rfl (vp_in_nI (n := 10) (by decide) (by decide)) ?_
        refine tv_iload C dk_X9_boxed_128 rfl ?_
        exact tv_iret C hQ dk_X9_boxed_130 rfl (by rw [f_X9_boxed, if_neg h1, if_pos h17, if_pos h33, if_pos h34, if_pos h35, if_neg h36, if_pos h37]) (by rw [f_X9_boxed, if_neg h1, if_pos h17, if_pos h33, if_pos h34, if_pos h35, if_neg h36, if_pos h37])
      have q134 := q129.2 h37
      refine tv_iconst (v := 0) C dk_X9_boxed_82 (by decide) ?_
      exact tv_iret C hQ dk_X9_boxed_83 rfl (by rw [f_X9_boxed, if_neg h1, if_pos h17, if_pos h33, if_pos h34, if_pos h35, if_neg h36, if_neg h37]) (by rw [f_X9_boxed, if_neg h1, if_pos h17, if_pos h33, if_pos h34, if_pos h35, if_neg h36, if_neg h37])
    have q135 := q127.1 h36
    refine tv_iconst (v := 1) C dk_X9_boxed_70 (by decide) ?_
    refine tv_goto C dk_X9_boxed_71 ?_
    refine tv_iconst (v := 3) C dk_X9_boxed_75 (by decide) ?_
    have q136 := q135.2
    refine tv_cV1 C dk_X9_boxed_76 ml_RX9_62 yk_X9_isThrown yi_X9_isThrown (m_X9_isThrown _ ((f_X9_isThrown ((f_X9_isThrown M 1 1).2) 1 2).2) 1 3 q135.1) (Nat.le_of_ble_eq_true rfl) rfl rfl rfl rfl (Nat.le_of_ble_eq_true rfl) (Nat.le_of_ble_eq_true rfl) (Nat.le_of_ble_eq_true rfl) (Nat.le_of_ble_eq_true rfl) (Nat.le_of_ble_eq_true rfl) ?_
    refine tv_if_eq C dk_X9_boxed_79 (fun h38 => ?_) (fun h38 => ?_)
    · have q137 := q136.1 h38
      refine tv_aload_n C dk_X9_boxed_84 rfl ?_
      refine tv_getR (r := 250) C dk_X9_boxed_85 fl_RX9_9 (Nat.le_of_ble_eq_true rfl) rfl rfl (fun _ _ _ _ => rfl) ?_
      refine tv_bipush (v := 10) C dk_X9_boxed_88 (by decide) ?_
      refine tv_iald (j := 10) rfl C dk_X9_boxed_90 (Nat.le_of_ble_eq_true rfl) rfl (vp_in_nI (n := 10) (by decide) (by decide)) ?_
      refine tv_istore (L' := [_, _, _, _, _]) (hn := by decide) (hlt := (Nat.le_of_ble_eq_true rfl)) (hno := rfl) C dk_X9_boxed_91 rfl ?_
      refine tv_aload_n C dk_X9_boxed_93 rfl ?_
      refine tv_iload C dk_X9_boxed_94 rfl ?_
      refine tv_iconst (v := 0) C dk_X9_boxed_96 (by decide) ?_
      refine tv_iload_n C dk_X9_boxed_97 rfl ?_
      have q138 := q137.2
      refine tv_cV0 C dk_X9_boxed_98 ml_RX9_84 yk_X9_sets yi_X9_sets (m_X9_sets _ ((f_X9_isThrown ((f_X9_isThrown ((f_X9_isThrown M 1 1).2) 1 2).2) 1 3).2) (tgi ((f_X9_isThrown ((f_X9_isThrown ((f_X9_isThrown M 1 1).2) 1 2).2) 1 3).2) 250 10) 0 x1 q137.1) (Nat.le_of_ble_eq_true rfl) rfl rfl rfl rfl (Nat.le_of_ble_eq_true rfl) (Nat.le_of_ble_eq_true rfl) (Nat.le_of_ble_eq_true rfl) (Nat.le_of_ble_eq_true rfl) (Nat.le_of_ble_eq_true rfl) ?_
      refine tv_aload_n C dk_X9_boxed_101 rfl ?_
      refine tv_iload C dk_X9_boxed_102 rfl ?_
      refine tv_iconst (v := 1) C dk_X9_boxed_104 (by decide) ?_
      refine tv_iload_n C dk_X9_boxed_105 rfl ?_
      have q139 := q138.2
      refine tv_cV0 C dk_X9_boxed_106 ml_RX9_84 yk_X9_sets yi_X9_sets (m_X9_sets _ (f_X9_sets ((f_X9_isThrown ((f_X9_isThrown ((f_X9_isThrown M 1 1).2) 1 2).2) 1 3).2) (tgi ((f_X9_isThrown ((f_X9_isThrown ((f_X9_isThrown M 1 1).2) 1 2).2) 1 3).2) 250 10) 0 x1) (tgi ((f_X9_isThrown ((f_X9_isThrown ((f_X9_isThrown M 1 1).2) 1 2).2) 1 3).2) 250 10) 1 x2 q138.1) (Nat.le_of_ble_eq_true rfl) rfl rfl rfl rfl (Nat.le_of_ble_eq_true rfl) (Nat.le_of_ble_eq_true rfl) (Nat.le_of_ble_eq_true rfl) (Nat.le_of_ble_eq_true rfl) (Nat.le_of_ble_eq_true rfl) ?_
      refine tv_aload_n C dk_X9_boxed_109 rfl ?_
      refine tv_iload C dk_X9_boxed_110 rfl ?_
      refine tv_iconst (v := 2) C dk_X9_boxed_112 (by decide) ?_
      refine tv_iload_n C dk_X9_boxed_113 rfl ?_
      have q140 := q139.2
      refine tv_cV0 C dk_X9_boxed_114 ml_RX9_84 yk_X9_sets yi_X9_sets (m_X9_sets _ (f_X9_sets (f_X9_sets ((f_X9_isThrown ((f_X9_isThrown ((f_X9_isThrown M 1 1).2) 1 2).2) 1 3).2) (tgi ((f_X9_isThrown ((f_X9_isThrown ((f_X9_isThrown M 1 1).2) 1 2).2) 1 3).2) 250 10) 0 x1) (tgi ((f_X9_isThrown ((f_X9_isThrown ((f_X9_isThrown M 1 1).2) 1 2).2) 1 3).2) 250 10) 1 x2) (tgi ((f_X9_isThrown ((f_X9_isThrown ((f_X9_isThrown M 1 1).2) 1 2).2) 1 3).2) 250 10) 2 x3 q139.1) (Nat.le_of_ble_eq_true rfl) rfl rfl rfl rfl (Nat.le_of_ble_eq_true rfl) (Nat.le_of_ble_eq_true rfl) (Nat.le_of_ble_eq_true rfl) (Nat.le_of_ble_eq_true rfl) (Nat.le_of_ble_eq_true rfl) ?_
      refine tv_aload_n C dk_X9_boxed_117 rfl ?_
      refine tv_getR (r := 250) C dk_X9_boxed_118 fl_RX9_9 (Nat.le_of_ble_eq_true rfl) rfl rfl (fun _ _ _ _ => rfl) ?_
      refine tv_bipush (v := 10) C dk_X9_boxed_121 (by decide) ?_
      refine tv_dup2 C dk_X9_boxed_123 rfl rfl ?_
      refine tv_iald (j := 10) rfl C dk_X9_boxed_124 (Nat.le_of_ble_eq_true rfl) rfl (vp_in_nI (n := 10) (by decide) (by decide)) ?_
      refine tv_iconst (v := 1) C dk_X9_boxed_125 (by decide) ?_
      refine tv_iadd C dk_X9_boxed_126 ?_
      refine tv_iast (j := 10) rfl C tvP0_ex dk_X9_boxed_127 (Nat.le_of_ble_eq_true rfl) rfl (vp_in_nI (n := 10) (by decide) (by decide)) ?_
      refine tv_iload C dk_X9_boxed_128 rfl ?_
      exact tv_iret C hQ dk_X9_boxed_130 rfl (by rw [f_X9_boxed, if_neg h1, if_pos h17, if_pos h33, if_pos h34, if_pos h35, if_pos h36, if_pos h38]) (by rw [f_X9_boxed, if_neg h1, if_pos h17, if_pos h33, if_pos h34, if_pos h35, if_pos h36, if_pos h38])
    have q141 := q136.2 h38
    refine tv_iconst (v := 0) C dk_X9_boxed_82 (by decide) ?_
    exact tv_iret C hQ dk_X9_boxed_83 rfl (by rw [f_X9_boxed, if_neg h1, if_pos h17, if_pos h33, if_pos h34, if_pos h35, if_pos h36, if_neg h38]) (by rw [f_X9_boxed, if_neg h1, if_pos h17, if_pos h33, if_pos h34, if_pos h35, if_pos h36, if_neg h38])
  have q142 := q123.2 h34
  refine tv_iload_n C dk_X9_boxed_35 rfl ?_
  refine tv_iconst (v := 0) C dk_X9_boxed_36 (by decide) ?_
  refine tv_bipush (v := 60) C dk_X9_boxed_37 (by decide) ?_
  refine tv_cS1 C dk_X9_boxed_39 ml_RX9_51 yk_X9_isIn yi_X9_isIn (m_X9_isIn _ ((f_X9_isThrown M 1 1).2) x3 0 60) rfl rfl (Nat.le_of_ble_eq_true rfl) (Nat.le_of_ble_eq_true rfl) (Nat.le_of_ble_eq_true rfl) (Nat.le_of_ble_eq_true rfl) (Nat.le_of_ble_eq_true rfl) ?_
  refine tv_if_ne C dk_X9_boxed_42 (fun h39 => ?_) (fun h39 => ?_)
  · have q143 := q142.2 h39
    refine tv_iconst (v := 0) C dk_X9_boxed_49 (by decide) ?_
    refine tv_iconst (v := 2) C dk_X9_boxed_50 (by decide) ?_
    have q144 := q143.2
    refine tv_cV1 C dk_X9_boxed_51 ml_RX9_62 yk_X9_isThrown yi_X9_isThrown (m_X9_isThrown _ ((f_X9_isThrown M 1 1).2) 0 2 q143.1) (Nat.le_of_ble_eq_true rfl) rfl rfl rfl rfl (Nat.le_of_ble_eq_true rfl) (Nat.le_of_ble_eq_true rfl) (Nat.le_of_ble_eq_true rfl) (Nat.le_of_ble_eq_true rfl) (Nat.le_of_ble_eq_true rfl) ?_
    refine tv_if_ne C dk_X9_boxed_54 (fun h40 => ?_) (fun h40 => ?_)
    · have q145 := q144.2 h40
      refine tv_iconst (v := 0) C dk_X9_boxed_82 (by decide) ?_
      exact tv_iret C hQ dk_X9_boxed_83 rfl (by rw [f_X9_boxed, if_neg h1, if_pos h17, if_pos h33, if_neg h34, if_neg h39, if_neg h40]) (by rw [f_X9_boxed, if_neg h1, if_pos h17, if_pos h33, if_neg h34, if_neg h39, if_neg h40])
    have q146 := q144.1 h40
    refine tv_aload_n C dk_X9_boxed_57 rfl ?_
    refine tv_aload_n C dk_X9_boxed_58 rfl ?_
    refine tv_getR (r := 250) C dk_X9_boxed_59 fl_RX9_9 (Nat.le_of_ble_eq_true rfl) rfl rfl (fun _ _ _ _ => rfl) ?_
    refine tv_bipush (v := 10) C dk_X9_boxed_62 (by decide) ?_
    refine tv_iald (j := 10) rfl C dk_X9_boxed_64 (Nat.le_of_ble_eq_true rfl) rfl (vp_in_nI (n := 10) (by decide) (by decide)) ?_
    refine tv_bipush (v := 10) C dk_X9_boxed_65 (by decide) ?_
    refine tv_icmp_ne C dk_X9_boxed_67 (fun h41 => ?_) (fun h41 => ?_)
    · have q147 := q146.2 h41
      refine tv_iconst (v := 0) C dk_X9_boxed_74 (by decide) ?_
      refine tv_iconst (v := 3) C dk_X9_boxed_75 (by decide) ?_
      have q148 := q147.2
      refine tv_cV1 C dk_X9_boxed_76 ml_RX9_62 yk_X9_isThrown yi_X9_isThrown (m_X9_isThrown _ ((f_X9_isThrown ((f_X9_isThrown M 1 1).2) 0 2).2) 0 3 q147.1) (Nat.le_of_ble_eq_true rfl) rfl rfl rfl rfl (Nat.le_of_ble_eq_true rfl) (Nat.le_of_ble_eq_true rfl) (Nat.le_of_ble_eq_true rfl) (Nat.le_of_ble_eq_true rfl) (Nat.le_of_ble_eq_true rfl) ?_
      refine tv_if_eq C dk_X9_boxed_79 (fun h42 => ?_) (fun h42 => ?_)
      · have q149 := q148.1 h42
        refine tv_aload_n C dk_X9_boxed_84 rfl ?_
        refine tv_getR (r := 250) C dk_X9_boxed_85 fl_RX9_9 (Nat.le_of_ble_eq_true rfl) rfl rfl (fun _ _ _ _ => rfl) ?_
        refine tv_bipush (v := 10) C dk_X9_boxed_88 (by decide) ?_
        refine tv_iald (j := 10) rfl C dk_X9_boxed_90 (Nat.le_of_ble_eq_true rfl) rfl (vp_in_nI (n := 10) (by decide) (by decide)) ?_
        refine tv_istore (L' := [_, _, _, _, _]) (hn := by decide) (hlt := (Nat.le_of_ble_eq_true rfl)) (hno := rfl) C dk_X9_boxed_91 rfl ?_
        refine tv_aload_n C dk_X9_boxed_93 rfl ?_
        refine tv_iload C dk_X9_boxed_94 rfl ?_
        refine tv_iconst (v := 0) C dk_X9_boxed_96 (by decide) ?_
        refine tv_iload_n C dk_X9_boxed_97 rfl ?_
        have q150 := q149.2
        refine tv_cV0 C dk_X9_boxed_98 ml_RX9_84 yk_X9_sets yi_X9_sets (m_X9_sets _ ((f_X9_isThrown ((f_X9_isThrown ((f_X9_isThrown M 1 1).2) 0 2).2) 0 3).2) (tgi ((f_X9_isThrown ((f_X9_isThrown ((f_X9_isThrown M 1 1).2) 0 2).2) 0 3).2) 250 10) 0 x1 q149.1) (Nat.le_of_ble_eq_true rfl) rfl rfl rfl rfl (Nat.le_of_ble_eq_true rfl) (Nat.le_of_ble_eq_true rfl) (Nat.le_of_ble_eq_true rfl) (Nat.le_of_ble_eq_true rfl) (Nat.le_of_ble_eq_true rfl) ?_
        refine tv_aload_n C dk_X9_boxed_101 rfl ?_
        refine tv_iload C dk_X9_boxed_102 rfl ?_
        refine tv_iconst (v := 1) C dk_X9_boxed_104 (by decide) ?_
        refine tv_iload_n C dk_X9_boxed_105 rfl ?_
        have q151 := q150.2
        refine tv_cV0 C dk_X9_boxed_106 ml_RX9_84 yk_X9_sets yi_X9_sets (m_X9_sets _ (f_X9_sets ((f_X9_isThrown ((f_X9_isThrown ((f_X9_isThrown M 1 1).2) 0 2).2) 0 3).2) (tgi ((f_X9_isThrown ((f_X9_isThrown ((f_X9_isThrown M 1 1).2) 0 2).2) 0 3).2) 250 10) 0 x1) (tgi ((f_X9_isThrown ((f_X9_isThrown ((f_X9_isThrown M 1 1).2) 0 2).2) 0 3).2) 250 10) 1 x2 q150.1) (Nat.le_of_ble_eq_true rfl) rfl rfl rfl rfl (Nat.le_of_ble_eq_true rfl) (Nat.le_of_ble_eq_true rfl) (Nat.le_of_ble_eq_true rfl) (Nat.le_of_ble_eq_true rfl) (Nat.le_of_ble_eq_true rfl) ?_
        refine tv_aload_n C dk_X9_boxed_109 rfl ?_
        refine tv_iload C dk_X9_boxed_110 rfl ?_
        refine tv_iconst (v := 2) C dk_X9_boxed_112 (by decide) ?_
        refine tv_iload_n C dk_X9_boxed_113 rfl ?_
        have q152 := q151.2
        refine tv_cV0 C dk_X9_boxed_114 ml_RX9_84 yk_X9_sets yi_X9_sets (m_X9_sets _ (f_X9_sets (f_X9_sets ((f_X9_isThrown ((f_X9_isThrown ((f_X9_isThrown M 1 1).2) 0 2).2) 0 3).2) (tgi ((f_X9_isThrown ((f_X9_isThrown ((f_X9_isThrown M 1 1).2) 0 2).2) 0 3).2) 250 10) 0 x1) (tgi ((f_X9_isThrown ((f_X9_isThrown ((f_X9_isThrown M 1 1).2) 0 2).2) 0 3).2) 250 10) 1 x2) (tgi ((f_X9_isThrown ((f_X9_isThrown ((f_X9_isThrown M 1 1).2) 0 2).2) 0 3).2) 250 10) 2 x3 q151.1) (Nat.le_of_ble_eq_true rfl) rfl rfl rfl rfl (Nat.le_of_ble_eq_true rfl) (Nat.le_of_ble_eq_true rfl) (Nat.le_of_ble_eq_true rfl) (Nat.le_of_ble_eq_true rfl) (Nat.le_of_ble_eq_true rfl) ?_
        refine tv_aload_n C dk_X9_boxed_117 rfl ?_
        refine tv_getR (r := 250) C dk_X9_boxed_118 fl_RX9_9 (Nat.le_of_ble_eq_true rfl) rfl rfl (fun _ _ _ _ => rfl) ?_
        refine tv_bipush (v := 10) C dk_X9_boxed_121 (by decide) ?_
        refine tv_dup2 C dk_X9_boxed_123 rfl rfl ?_
        refine tv_iald (j := 10) rfl C dk_X9_boxed_124 (Nat.le_of_ble_eq_true rfl) rfl (vp_in_nI (n := 10) (by decide) (by decide)) ?_
        refine tv_iconst (v := 1) C dk_X9_boxed_125 (by decide) ?_
        refine tv_iadd C dk_X9_boxed_126 ?_
        refine tv_iast (j := 10) rfl C tvP0_ex dk_X9_boxed_127 (Nat.le_of_ble_eq_true rfl) rfl (vp_in_nI (n := 10) (by decide) (by decide)) ?_
        refine tv_iload C dk_X9_boxed_128 rfl ?_
        exact tv_iret C hQ dk_X9_boxed_130 rfl (by rw [f_X9_boxed, if_neg h1, if_pos h17, if_pos h33, if_neg h34, if_neg h39, if_pos h40, if_neg h41, if_pos h42]) (by rw [f_X9_boxed, if_neg h1, if_pos h17, if_pos h33, if_neg h34, if_neg h39, if_pos h40, if_neg h41, if_pos h42])
      have q153 := q148.2 h42
      refine tv_iconst (v := 0) C dk_X9_boxed_82 (by decide) ?_
      exact tv_iret C hQ dk_X9_boxed_83 rfl (by rw [f_X9_boxed, if_neg h1, if_pos h17, if_pos h33, if_neg h34, if_neg h39, if_pos h40, if_neg h41, if_neg h42]) (by rw [f_X9_boxed, if_neg h1, if_pos h17, if_pos h33, if_neg h34, if_neg h39, if_pos h40, if_neg h41, if_neg h42])
    have q154 := q146.1 h41
    refine tv_iconst (v := 1) C dk_X9_boxed_70 (by decide) ?_
    refine tv_goto C dk_X9_boxed_71 ?_
    refine tv_iconst (v := 3) C dk_X9_boxed_75 (by decide) ?_
    have q155 := q154.2
    refine tv_cV1 C dk_X9_boxed_76 ml_RX9_62 yk_X9_isThrown yi_X9_isThrown (m_X9_isThrown _ ((f_X9_isThrown ((f_X9_isThrown M 1 1).2) 0 2).2) 1 3 q154.1) (Nat.le_of_ble_eq_true rfl) rfl rfl rfl rfl (Nat.le_of_ble_eq_true rfl) (Nat.le_of_ble_eq_true rfl) (Nat.le_of_ble_eq_true rfl) (Nat.le_of_ble_eq_true rfl) (Nat.le_of_ble_eq_true rfl) ?_
    refine tv_if_eq C dk_X9_boxed_79 (fun h43 => ?_) (fun h43 => ?_)
    · have q156 := q155.1 h43
      refine tv_aload_n C dk_X9_boxed_84 rfl ?_
      refine tv_getR (r := 250) C dk_X9_boxed_85 fl_RX9_9 (Nat.le_of_ble_eq_true rfl) rfl rfl (fun _ _ _ _ => rfl) ?_
      refine tv_bipush (v := 10) C dk_X9_boxed_88 (by decide) ?_
      refine tv_iald (j := 10) rfl C dk_X9_boxed_90 (Nat.le_of_ble_eq_true rfl) rfl (vp_in_nI (n := 10) (by decide) (by decide)) ?_
      refine tv_istore (L' := [_, _, _, _, _]) (hn := by decide) (hlt := (Nat.le_of_ble_eq_true rfl)) (hno := rfl) C dk_X9_boxed_91 rfl ?_
      refine tv_aload_n C dk_X9_boxed_93 rfl ?_
      refine tv_iload C dk_X9_boxed_94 rfl ?_
      refine tv_iconst (v := 0) C dk_X9_boxed_96 (by decide) ?_
      refine tv_iload_n C dk_X9_boxed_97 rfl ?_
      have q157 := q156.2
      refine tv_cV0 C dk_X9_boxed_98 ml_RX9_84 yk_X9_sets yi_X9_sets (m_X9_sets _ ((f_X9_isThrown ((f_X9_isThrown ((f_X9_isThrown M 1 1).2) 0 2).2) 1 3).2) (tgi ((f_X9_isThrown ((f_X9_isThrown ((f_X9_isThrown M 1 1).2) 0 2).2) 1 3).2) 250 10) 0 x1 q156.1) (Nat.le_of_ble_eq_true rfl) rfl rfl rfl rfl (Nat.le_of_ble_eq_true rfl) (Nat.le_of_ble_eq_true rfl) (Nat.le_of_ble_eq_true rfl) (Nat.le_of_ble_eq_true rfl) (Nat.le_of_ble_eq_true rfl) ?_
      refine tv_aload_n C dk_X9_boxed_101 rfl ?_
      refine tv_iload C dk_X9_boxed_102 rfl ?_
      refine tv_iconst (v := 1) C dk_X9_boxed_104 (by decide) ?_
      refine tv_iload_n C dk_X9_boxed_105 rfl ?_
      have q158 := q157.2
      refine tv_cV0 C dk_X9_boxed_106 ml_RX9_84 yk_X9_sets yi_X9_sets (m_X9_sets _ (f_X9_sets ((f_X9_isThrown ((f_X9_isThrown ((f_X9_isThrown M 1 1).2) 0 2).2) 1 3).2) (tgi ((f_X9_isThrown ((f_X9_isThrown ((f_X9_isThrown M 1 1).2) 0 2).2) 1 3).2) 250 10) 0 x1) (tgi ((f_X9_isThrown ((f_X9_isThrown ((f_X9_isThrown M 1 1).2) 0 2).2) 1 3).2) 250 10) 1 x2 q157.1) (Nat.le_of_ble_eq_true rfl) rfl rfl rfl rfl (Nat.le_of_ble_eq_true rfl) (Nat.le_of_ble_eq_true rfl) (Nat.le_of_ble_eq_true rfl) (Nat.le_of_ble_eq_true rfl) (Nat.le_of_ble_eq_true rfl) ?_
      refine tv_aload_n C dk_X9_boxed_109 rfl ?_
      refine tv_iload C dk_X9_boxed_110 rfl ?_
      refine tv_iconst (v := 2) C dk_X9_boxed_112 (by decide) ?_
      refine tv_iload_n C dk_X9_boxed_113 rfl ?_
      have q159 := q158.2
      refine tv_cV0 C dk_X9_boxed_114 ml_RX9_84 yk_X9_sets yi_X9_sets (m_X9_sets _ (f_X9_sets (f_X9_sets ((f_X9_isThrown ((f_X9_isThrown ((f_X9_isThrown M 1 1).2) 0 2).2) 1 3).2) (tgi ((f_X9_isThrown ((f_X9_isThrown ((f_X9_isThrown M 1 1).2) 0 2).2) 1 3).2) 250 10) 0 x1) (tgi ((f_X9_isThrown ((f_X9_isThrown ((f_X9_isThrown M 1 1).2) 0 2).2) 1 3).2) 250 10) 1 x2) (tgi ((f_X9_isThrown ((f_X9_isThrown ((f_X9_isThrown M 1 1).2) 0 2).2) 1 3).2) 250 10) 2 x3 q158.1) (Nat.le_of_ble_eq_true rfl) rfl rfl rfl rfl (Nat.le_of_ble_eq_true rfl) (Nat.le_of_ble_eq_true rfl) (Nat.le_of_ble_eq_true rfl) (Nat.le_of_ble_eq_true rfl) (Nat.le_of_ble_eq_true rfl) ?_
      refine tv_aload_n C dk_X9_boxed_117 rfl ?_
      refine tv_getR (r := 250) C dk_X9_boxed_118 fl_RX9_9 (Nat.le_of_ble_eq_true rfl) rfl rfl (fun _ _ _ _ => rfl) ?_
      refine tv_bipush (v := 10) C dk_X9_boxed_121 (by decide) ?_
      refine tv_dup2 C dk_X9_boxed_123 rfl rfl ?_
      refine tv_iald (j := 10) rfl C dk_X9_boxed_124 (Nat.le_of_ble_eq_true rfl) rfl (vp_in_nI (n := 10) (by decide) (by decide)) ?_
      refine tv_iconst (v := 1) C dk_X9_boxed_125 (by decide) ?_
      refine tv_iadd C dk_X9_boxed_126 ?_
      refine tv_iast (j := 10) rfl C tvP0_ex dk_X9_boxed_127 (Nat.le_of_ble_eq_true rfl) rfl (vp_in_nI (n := 10) (by decide) (by decide)) ?_
      refine tv_iload C dk_X9_boxed_128 rfl ?_
      exact tv_iret C hQ dk_X9_boxed_130 rfl (by rw [f_X9_boxed, if_neg h1, if_pos h17, if_pos h33, if_neg h34, if_neg h39, if_pos h40, if_pos h41, if_pos h43]) (by rw [f_X9_boxed, if_neg h1, if_pos h17, if_pos h33, if_neg h34, if_neg h39, if_pos h40, if_pos h41, if_pos h43])
    have q160 := q155.2 h43
    refine tv_iconst (v := 0) C dk_X9_boxed_82 (by decide) ?_
    exact tv_iret C hQ dk_X9_boxed_83 rfl (by rw [f_X9_boxed, if_neg h1, if_pos h17, if_pos h33, if_neg h34, if_neg h39, if_pos h40, if_pos h41, if_neg h43]) (by rw [f_X9_boxed, if_neg h1, if_pos h17, if_pos h33, if_neg h34, if_neg h39, if_pos h40, if_pos h41, if_neg h43])
  have q161 := q142.1 h39
  refine tv_iconst (v := 1) C dk_X9_boxed_45 (by decide) ?_
  refine tv_goto C dk_X9_boxed_46 ?_
  refine tv_iconst (v := 2) C dk_X9_boxed_50 (by decide) ?_
  have q162 := q161.2
  refine tv_cV1 C dk_X9_boxed_51 ml_RX9_62 yk_X9_isThrown yi_X9_isThrown (m_X9_isThrown _ ((f_X9_isThrown M 1 1).2) 1 2 q161.1) (Nat.le_of_ble_eq_true rfl) rfl rfl rfl rfl (Nat.le_of_ble_eq_true rfl) (Nat.le_of_ble_eq_true rfl) (Nat.le_of_ble_eq_true rfl) (Nat.le_of_ble_eq_true rfl) (Nat.le_of_ble_eq_true rfl) ?_
  refine tv_if_ne C dk_X9_boxed_54 (fun h44 => ?_) (fun h44 => ?_)
  · have q163 := q162.2 h44
    refine tv_iconst (v := 0) C dk_X9_boxed_82 (by decide) ?_
    exact tv_iret C hQ dk_X9_boxed_83 rfl (by rw [f_X9_boxed, if_neg h1, if_pos h17, if_pos h33, if_neg h34, if_pos h39, if_neg h44]) (by rw [f_X9_boxed, if_neg h1, if_pos h17, if_pos h33, if_neg h34, if_pos h39, if_neg h44])
  have q164 := q162.1 h44
  refine tv_aload_n C dk_X9_boxed_57 rfl ?_
  refine tv_aload_n C dk_X9_boxed_58 rfl ?_
  refine tv_getR (r := 250) C dk_X9_boxed_59 fl_RX9_9 (Nat.le_of_ble_eq_true rfl) rfl rfl (fun _ _ _ _ => rfl) ?_
  refine tv_bipush (v := 10) C dk_X9_boxed_62 (by decide) ?_
  refine tv_iald (j := 10) rfl C dk_X9_boxed_64 (Nat.le_of_ble_eq_true rfl) rfl (vp_in_nI (n := 10) (by decide) (by decide)) ?_
  refine tv_bipush (v := 10) C dk_X9_boxed_65 (by decide) ?_
  refine tv_icmp_ne C dk_X9_boxed_67 (fun h45 => ?_) (fun h45 => ?_)
  · have q165 := q164.2 h45
    refine tv_iconst (v := 0) C dk_X9_boxed_74 (by decide) ?_
    refine tv_iconst (v := 3) C dk_X9_boxed_75 (by decide) ?_
    have q166 := q165.2
    refine tv_cV1 C dk_X9_boxed_76 ml_RX9_62 yk_X9_isThrown yi_X9_isThrown (m_X9_isThrown _ ((f_X9_isThrown ((f_X9_isThrown M 1 1).2) 1 2).2) 0 3 q165.1) (Nat.le_of_ble_eq_true rfl) rfl rfl rfl rfl (Nat.le_of_ble_eq_true rfl) (Nat.le_of_ble_eq_true rfl) (Nat.le_of_ble_eq_true rfl) (Nat.le_of_ble_eq_true rfl) (Nat.le_of_ble_eq_true rfl) ?_
    refine tv_if_eq C dk_X9_boxed_79 (fun h46 => ?_) (fun h46 => ?_)
    · have q167 := q166.1 h46
      refine tv_aload_n C dk_X9_boxed_84 rfl ?_
      refine tv_getR (r := 250) C dk_X9_boxed_85 fl_RX9_9 (Nat.le_of_ble_eq_true rfl) rfl rfl (fun _ _ _ _ => rfl) ?_
      refine tv_bipush (v := 10) C dk_X9_boxed_88 (by decide) ?_
      refine tv_iald (j := 10) rfl C dk_X9_boxed_90 (Nat.le_of_ble_eq_true rfl) rfl (vp_in_nI (n := 10) (by decide) (by decide)) ?_
      refine tv_istore (L' := [_, _, _, _, _]) (hn := by decide) (hlt := (Nat.le_of_ble_eq_true rfl)) (hno := rfl) C dk_X9_boxed_91 rfl ?_
      refine tv_aload_n C dk_X9_boxed_93 rfl ?_
      refine tv_iload C dk_X9_boxed_94 rfl ?_
      refine tv_iconst (v := 0) C dk_X9_boxed_96 (by decide) ?_
      refine tv_iload_n C dk_X9_boxed_97 rfl ?_
      have q168 := q167.2
      refine tv_cV0 C dk_X9_boxed_98 ml_RX9_84 yk_X9_sets yi_X9_sets (m_X9_sets _ ((f_X9_isThrown ((f_X9_isThrown ((f_X9_isThrown M 1 1).2) 1 2).2) 0 3).2) (tgi ((f_X9_isThrown ((f_X9_isThrown ((f_X9_isThrown M 1 1).2) 1 2).2) 0 3).2) 250 10) 0 x1 q167.1) (Nat.le_of_ble_eq_true rfl) rfl rfl rfl rfl (Nat.le_of_ble_eq_true rfl) (Nat.le_of_ble_eq_true rfl) (Nat.le_of_ble_eq_true rfl) (Nat.le_of_ble_eq_true rfl) (Nat.le_of_ble_eq_true rfl) ?_
      refine tv_aload_n C dk_X9_boxed_101 rfl ?_
      refine tv_iload C dk_X9_boxed_102 rfl ?_
      refine tv_iconst (v := 1) C dk_X9_boxed_104 (by decide) ?_
      refine tv_iload_n C dk_X9_boxed_105 rfl ?_
      have q169 := q168.2
      refine tv_cV0 C dk_X9_boxed_106 ml_RX9_84 yk_X9_sets yi_X9_sets (m_X9_sets _ (f_X9_sets ((f_X9_isThrown ((f_X9_isThrown ((f_X9_isThrown M 1 1).2) 1 2).2) 0 3).2) (tgi ((f_X9_isThrown ((f_X9_isThrown ((f_X9_isThrown M 1 1).2) 1 2).2) 0 3).2) 250 10) 0 x1) (tgi ((f_X9_isThrown ((f_X9_isThrown ((f_X9_isThrown M 1 1).2) 1 2).2) 0 3).2) 250 10) 1 x2 q168.1) (Nat.le_of_ble_eq_true rfl) rfl rfl rfl rfl (Nat.le_of_ble_eq_true rfl) (Nat.le_of_ble_eq_true rfl) (Nat.le_of_ble_eq_true rfl) (Nat.le_of_ble_eq_true rfl) (Nat.le_of_ble_eq_true rfl) ?_
      refine tv_aload_n C dk_X9_boxed_109 rfl ?_
      refine tv_iload C dk_X9_boxed_110 rfl ?_
      refine tv_iconst (v := 2) C dk_X9_boxed_112 (by decide) ?_
      refine tv_iload_n C dk_X9_boxed_113 rfl ?_
      have q170 := q169.2
      refine tv_cV0 C dk_X9_boxed_114 ml_RX9_84 yk_X9_sets yi_X9_sets (m_X9_sets _ (f_X9_sets (f_X9_sets ((f_X9_isThrown ((f_X9_isThrown ((f_X9_isThrown M 1 1).2) 1 2).2) 0 3).2) (tgi ((f_X9_isThrown ((f_X9_isThrown ((f_X9_isThrown M 1 1).2) 1 2).2) 0 3).2) 250 10) 0 x1) (tgi ((f_X9_isThrown ((f_X9_isThrown ((f_X9_isThrown M 1 1).2) 1 2).2) 0 3).2) 250 10) 1 x2) (tgi ((f_X9_isThrown ((f_X9_isThrown ((f_X9_isThrown M 1 1).2) 1 2).2) 0 3).2) 250 10) 2 x3 q169.1) (Nat.le_of_ble_eq_true rfl) rfl rfl rfl rfl (Nat.le_of_ble_eq_true rfl) (Nat.le_of_ble_eq_true rfl) (Nat.le_of_ble_eq_true rfl) (Nat.le_of_ble_eq_true rfl) (Nat.le_of_ble_eq_true rfl) ?_
      refine tv_aload_n C dk_X9_boxed_117 rfl ?_
      refine tv_getR (r := 250) C dk_X9_boxed_118 fl_RX9_9 (Nat.le_of_ble_eq_true rfl) rfl rfl (fun _ _ _ _ => rfl) ?_
      refine tv_bipush (v := 10) C dk_X9_boxed_121 (by decide) ?_
      refine tv_dup2 C dk_X9_boxed_123 rfl rfl ?_
      refine tv_iald (j := 10) rfl C dk_X9_boxed_124 (Nat.le_of_ble_eq_true rfl) rfl (vp_in_nI (n := 10) (by decide) (by decide)) ?_
      refine tv_iconst (v := 1) C dk_X9_boxed_125 (by decide) ?_
      refine tv_iadd C dk_X9_boxed_126 ?_
      refine tv_iast (j := 10) rfl C tvP0_ex dk_X9_boxed_127 (Nat.le_of_ble_eq_true rfl) rfl (vp_in_nI (n := 10) (by decide) (by decide)) ?_
      refine tv_iload C dk_X9_boxed_128 rfl ?_
      exact tv_iret C hQ dk_X9_boxed_130 rfl (by rw [f_X9_boxed, if_neg h1, if_pos h17, if_pos h33, if_neg h34, if_pos h39, if_pos h44, if_neg h45, if_pos h46]) (by rw [f_X9_boxed, if_neg h1, if_pos h17, if_pos h33, if_neg h34, if_pos h39, if_pos h44, if_neg h45, if_pos h46])
    have q171 := q166.2 h46
    refine tv_iconst (v := 0) C dk_X9_boxed_82 (by decide) ?_
    exact tv_iret C hQ dk_X9_boxed_83 rfl (by rw [f_X9_boxed, if_neg h1, if_pos h17, if_pos h33, if_neg h34, if_pos h39, if_pos h44, if_neg h45, if_neg h46]) (by rw [f_X9_boxed, if_neg h1, if_pos h17, if_pos h33, if_neg h34, if_pos h39, if_pos h44, if_neg h45, if_neg h46])
  have q172 := q164.1 h45
  refine tv_iconst (v := 1) C dk_X9_boxed_70 (by decide) ?_
  refine tv_goto C dk_X9_boxed_71 ?_
  refine tv_iconst (v := 3) C dk_X9_boxed_75 (by decide) ?_
  have q173 := q172.2
  refine tv_cV1 C dk_X9_boxed_76 ml_RX9_62 yk_X9_isThrown yi_X9_isThrown (m_X9_isThrown _ ((f_X9_isThrown ((f_X9_isThrown M 1 1).2) 1 2).2) 1 3 q172.1) (Nat.le_of_ble_eq_true rfl) rfl rfl rfl rfl (Nat.le_of_ble_eq_true rfl) (Nat.le_of_ble_eq_true rfl) (Nat.le_of_ble_eq_true rfl) (Nat.le_of_ble_eq_true rfl) (Nat.le_of_ble_eq_true rfl) ?_
  refine tv_if_eq C dk_X9_boxed_79 (fun h47 => ?_) (fun h47 => ?_)
  · have q174 := q173.1 h47
    refine tv_aload_n C dk_X9_boxed_84 rfl ?_
    refine tv_getR (r := 250) C dk_X9_boxed_85 fl_RX9_9 (Nat.le_of_ble_eq_true rfl) rfl rfl (fun _ _ _ _ => rfl) ?_
    refine tv_bipush (v := 10) C dk_X9_boxed_88 (by decide) ?_
    refine tv_iald (j := 10) rfl C dk_X9_boxed_90 (Nat.le_of_ble_eq_true rfl) rfl (vp_in_nI (n := 10) (by decide) (by decide)) ?_
    refine tv_istore (L' := [_, _, _, _, _]) (hn := by decide) (hlt := (Nat.le_of_ble_eq_true rfl)) (hno := rfl) C dk_X9_boxed_91 rfl ?_
    refine tv_aload_n C dk_X9_boxed_93 rfl ?_
    refine tv_iload C dk_X9_boxed_94 rfl ?_
    refine tv_iconst (v := 0) C dk_X9_boxed_96 (by decide) ?_
    refine tv_iload_n C dk_X9_boxed_97 rfl ?_
    have q175 := q174.2
    refine tv_cV0 C dk_X9_boxed_98 ml_RX9_84 yk_X9_sets yi_X9_sets (m_X9_sets _ ((f_X9_isThrown ((f_X9_isThrown ((f_X9_isThrown M 1 1).2) 1 2).2) 1 3).2) (tgi ((f_X9_isThrown ((f_X9_isThrown ((f_X9_isThrown M 1 1).2) 1 2).2) 1 3).2) 250 10) 0 x1 q174.1) (Nat.le_of_ble_eq_true rfl) rfl rfl rfl rfl (Nat.le_of_ble_eq_true rfl) (Nat.le_of_ble_eq_true rfl) (Nat.le_of_ble_eq_true rfl) (Nat.le_of_ble_eq_true rfl) (Nat.le_of_ble_eq_true rfl) ?_
    refine tv_aload_n C dk_X9_boxed_101 rfl ?_
    refine tv_iload C dk_X9_boxed_102 rfl ?_
    refine tv_iconst (v := 1) C dk_X9_boxed_104 (by decide) ?_
    refine tv_iload_n C dk_X9_boxed_105 rfl ?_
    have q176 := q175.2
    refine tv_cV0 C dk_X9_boxed_106 ml_RX9_84 yk_X9_sets yi_X9_sets (m_X9_sets _ (f_X9_sets ((f_X9_isThrown ((f_X9_isThrown ((f_X9_isThrown M 1 1).2) 1 2).2) 1 3).2) (tgi ((f_X9_isThrown ((f_X9_isThrown ((f_X9_isThrown M 1 1).2) 1 2).2) 1 3).2) 250 10) 0 x1) (tgi ((f_X9_isThrown ((f_X9_isThrown ((f_X9_isThrown M 1 1).2) 1 2).2) 1 3).2) 250 10) 1 x2 q175.1) (Nat.le_of_ble_eq_true rfl) rfl rfl rfl rfl (Nat.le_of_ble_eq_true rfl) (Nat.le_of_ble_eq_true rfl) (Nat.le_of_ble_eq_true rfl) (Nat.le_of_ble_eq_true rfl) (Nat.le_of_ble_eq_true rfl) ?_
    refine tv_aload_n C dk_X9_boxed_109 rfl ?_
    refine tv_iload C dk_X9_boxed_110 rfl ?_
    refine tv_iconst (v := 2) C dk_X9_boxed_112 (by decide) ?_
    refine tv_iload_n C dk_X9_boxed_113 rfl ?_
    have q177 := q176.2
    refine tv_cV0 C dk_X9_boxed_114 ml_RX9_84 yk_X9_sets yi_X9_sets (m_X9_sets _ (f_X9_sets (f_X9_sets ((f_X9_isThrown ((f_X9_isThrown ((f_X9_isThrown M 1 1).2) 1 2).2) 1 3).2) (tgi ((f_X9_isThrown ((f_X9_isThrown ((f_X9_isThrown M 1 1).2) 1 2).2) 1 3).2) 250 10) 0 x1) (tgi ((f_X9_isThrown ((f_X9_isThrown ((f_X9_isThrown M 1 1).2) 1 2).2) 1 3).2) 250 10) 1 x2) (tgi ((f_X9_isThrown ((f_X9_isThrown ((f_X9_isThrown M 1 1).2) 1 2).2) 1 3).2) 250 10) 2 x3 q176.1) (Nat.le_of_ble_eq_true rfl) rfl rfl rfl rfl (Nat.le_of_ble_eq_true rfl) (Nat.le_of_ble_eq_true rfl) (Nat.le_of_ble_eq_true rfl) (Nat.le_of_ble_eq_true rfl) (Nat.le_of_ble_eq_true rfl) ?_
    refine tv_aload_n C dk_X9_boxed_117 rfl ?_
    refine tv_getR (r := 250) C dk_X9_boxed_118 fl_RX9_9 (Nat.le_of_ble_eq_true rfl) rfl rfl (fun _ _ _ _ => rfl) ?_
    refine tv_bipush (v := 10) C dk_X9_boxed_121 (by decide) ?_
    refine tv_dup2 C dk_X9_boxed_123 rfl rfl ?_
    refine tv_iald (j := 10) rfl C dk_X9_boxed_124 (Nat.le_of_ble_eq_true rfl) rfl (vp_in_nI (n := 10) (by decide) (by decide)) ?_
    refine tv_iconst (v := 1) C dk_X9_boxed_125 (by decide) ?_
    refine tv_iadd C dk_X9_boxed_126 ?_
    refine tv_iast (j := 10) rfl C tvP0_ex dk_X9_boxed_127 (Nat.le_of_ble_eq_true rfl) rfl (vp_in_nI (n := 10) (by decide) (by decide)) ?_
    refine tv_iload C dk_X9_boxed_128 rfl ?_
    exact tv_iret C hQ dk_X9_boxed_130 rfl (by rw [f_X9_boxed, if_neg h1, if_pos h17, if_pos h33, if_neg h34, if_pos h39, if_pos h44, if_pos h45, if_pos h47]) (by rw [f_X9_boxed, if_neg h1, if_pos h17, if_pos h33, if_neg h34, if_pos h39, if_pos h44, if_pos h45, if_pos h47])
  have q178 := q173.2 h47
  refine tv_iconst (v := 0) C dk_X9_boxed_82 (by decide) ?_
  exact tv_iret C hQ dk_X9_boxed_83 rfl (by rw [f_X9_boxed, if_neg h1, if_pos h17, if_pos h33, if_neg h34, if_pos h39, if_pos h44, if_pos h45, if_neg h47]) (by rw [f_X9_boxed, if_neg h1, if_pos h17, if_pos h33, if_neg h34, if_pos h39, if_pos h44, if_pos h45, if_neg h47])
/-- TideVaultModel.tides(II)I -/
def f_X9_tides (M : tvM) (x1 : Int32) (x2 : Int32) : Int32 × tvM := (if (f_X9_isIn M x1 60 480) = 0 then (if (f_X9_isThrown M 1 1).1 = 0 then ((tgi ((f_X9_isThrown M 1 1).2) 250 1), (tpi (tpi ((f_X9_isThrown M 1 1).2) 250 1 x1) 250 2 x2)) else (0, (f_X9_isThrown M 1 1).2)) else (if (f_X9_isIn M x2 10 x1) = 0 then (if (f_X9_isThrown M 1 1).1 = 0 then ((tgi ((f_X9_isThrown M 1 1).2) 250 1), (tpi (tpi ((f_X9_isThrown M 1 1).2) 250 1 x1) 250 2 x2)) else (0, (f_X9_isThrown M 1 1).2)) else (if (f_X9_isThrown M 0 1).1 = 0 then ((tgi ((f_X9_isThrown M 0 1).2) 250 1), (tpi (tpi ((f_X9_isThrown M 0 1).2) 250 1 x1) 250 2 x2)) else (0, (f_X9_isThrown M 0 1).2))))
def q_X9_tides (M : tvM) (x1 : Int32) (x2 : Int32) : Prop := (((f_X9_isIn M x1 60 480) = 0 → ((q_X9_isThrown M 1 1) ∧ (((f_X9_isThrown M 1 1).1 = 0 → True) ∧ (¬ (f_X9_isThrown M 1 1).1 = 0 → True)))) ∧ (¬ (f_X9_isIn M x1 60 480) = 0 → (((f_X9_isIn M x2 10 x1) = 0 → ((q_X9_isThrown M 1 1) ∧ (((f_X9_isThrown M 1 1).1 = 0 → True) ∧ (¬ (f_X9_isThrown M 1 1).1 = 0 → True)))) ∧ (¬ (f_X9_isIn M x2 10 x1) = 0 → ((q_X9_isThrown M 0 1) ∧ (((f_X9_isThrown M 0 1).1 = 0 → True) ∧ (¬ (f_X9_isThrown M 0 1).1 = 0 → True)))))))
theorem m_X9_tides (G : tvG) (M : tvM) (x1 : Int32) (x2 : Int32) (hq : q_X9_tides M x1 x2) : tvRun G yX9_tides cX9_tides 4 (some .int) 2 0 0 tvP0 tvP0 [.ref (G.2.1 + 249), .int x1, .int x2] M (.inl (some (.int (f_X9_tides M x1 x2).1))) ((f_X9_tides M x1 x2).2) := by
  refine tvRun.of yk_X9_tides rfl [some (.ref (G.2.1 + 249)), some (.int x1), some (.int x2), none] rfl (Nat.le_of_ble_eq_true rfl) ?_
  intro E hG C hQ; subst hG
  refine tv_aload_n C dk_X9_tides_0 rfl ?_
  refine tv_iload_n C dk_X9_tides_1 rfl ?_
  refine tv_bipush (v := 60) C dk_X9_tides_2 (by decide) ?_
  refine tv_sipush (v := 480) C dk_X9_tides_4 (by decide) ?_
  refine tv_cS1 C dk_X9_tides_7 ml_RX9_51 yk_X9_isIn yi_X9_isIn (m_X9_isIn _ M x1 60 480) rfl rfl (Nat.le_of_ble_eq_true rfl) (Nat.le_of_ble_eq_true rfl) (Nat.le_of_ble_eq_true rfl) (Nat.le_of_ble_eq_true rfl) (Nat.le_of_ble_eq_true rfl) ?_
  refine tv_if_eq C dk_X9_tides_10 (fun h1 => ?_) (fun h1 => ?_)
  · have q1 := hq.1 h1
    refine tv_iconst (v := 1) C dk_X9_tides_23 (by decide) ?_
    refine tv_goto C dk_X9_tides_24 ?_
    refine tv_iconst (v := 1) C dk_X9_tides_28 (by decide) ?_
    have q2 := q1.2
    refine tv_cV1 C dk_X9_tides_29 ml_RX9_62 yk_X9_isThrown yi_X9_isThrown (m_X9_isThrown _ M 1 1 q1.1) (Nat.le_of_ble_eq_true rfl) rfl rfl rfl rfl (Nat.le_of_ble_eq_true rfl) (Nat.le_of_ble_eq_true rfl) (Nat.le_of_ble_eq_true rfl) (Nat.le_of_ble_eq_true rfl) (Nat.le_of_ble_eq_true rfl) ?_
    refine tv_if_eq C dk_X9_tides_32 (fun h2 => ?_) (fun h2 => ?_)
    · have q3 := q2.1 h2
      refine tv_aload_n C dk_X9_tides_37 rfl ?_
      refine tv_getR (r := 250) C dk_X9_tides_38 fl_RX9_9 (Nat.le_of_ble_eq_true rfl) rfl rfl (fun _ _ _ _ => rfl) ?_
      refine tv_iconst (v := 1) C dk_X9_tides_41 (by decide) ?_
      refine tv_iald (j := 1) rfl C dk_X9_tides_42 (Nat.le_of_ble_eq_true rfl) rfl (vp_in_nI (n := 1) (by decide) (by decide)) ?_
      refine tv_istore_n (L' := [_, _, _, _]) (hn := by decide) (hlt := (Nat.le_of_ble_eq_true rfl)) (hno := rfl) C dk_X9_tides_43 rfl ?_
      refine tv_aload_n C dk_X9_tides_44 rfl ?_
      refine tv_getR (r := 250) C dk_X9_tides_45 fl_RX9_9 (Nat.le_of_ble_eq_true rfl) rfl rfl (fun _ _ _ _ => rfl) ?_
      refine tv_iconst (v := 1) C dk_X9_tides_48 (by decide) ?_
      refine tv_iload_n C dk_X9_tides_49 rfl ?_
      refine tv_iast (j := 1) rfl C tvP0_ex dk_X9_tides_50 (Nat.le_of_ble_eq_true rfl) rfl (vp_in_nI (n := 1) (by decide) (by decide)) ?_
      refine tv_aload_n C dk_X9_tides_51 rfl ?_
      refine tv_getR (r := 250) C dk_X9_tides_52 fl_RX9_9 (Nat.le_of_ble_eq_true rfl) rfl rfl (fun _ _ _ _ => rfl) ?_
      refine tv_iconst (v := 2) C dk_X9_tides_55 (by decide) ?_
      refine tv_iload_n C dk_X9_tides_56 rfl ?_
      refine tv_iast (j := 2) rfl C tvP0_ex dk_X9_tides_57 (Nat.le_of_ble_eq_true rfl) rfl (vp_in_nI (n := 2) (by decide) (by decide)) ?_
      refine tv_iload_n C dk_X9_tides_58 rfl ?_
      exact tv_iret C hQ dk_X9_tides_59 rfl (by rw [f_X9_tides, if_pos h1, if_pos h2]) (by rw [f_X9_tides, if_pos h1, if_pos h2])
    have q4 := q2.2 h2
    refine tv_iconst (v := 0) C dk_X9_tides_35 (by decide) ?_
    exact tv_iret C hQ dk_X9_tides_36 rfl (by rw [f_X9_tides, if_pos h1, if_neg h2]) (by rw [f_X9_tides, if_pos h1, if_neg h2])
  have q5 := hq.2 h1
  refine tv_iload_n C dk_X9_tides_13 rfl ?_
  refine tv_bipush (v := 10) C dk_X9_tides_14 (by decide) ?_
  refine tv_iload_n C dk_X9_tides_16 rfl ?_
  refine tv_cS1 C dk_X9_tides_17 ml_RX9_51 yk_X9_isIn yi_X9_isIn (m_X9_isIn _ M x2 10 x1) rfl rfl (Nat.le_of_ble_eq_true rfl) (Nat.le_of_ble_eq_true rfl) (Nat.le_of_ble_eq_true rfl) (Nat.le_of_ble_eq_true rfl) (Nat.le_of_ble_eq_true rfl) ?_
  refine tv_if_ne C dk_X9_tides_20 (fun h3 => ?_) (fun h3 => ?_)
  · have q6 := q5.2 h3
    refine tv_iconst (v := 0) C dk_X9_tides_27 (by decide) ?_
    refine tv_iconst (v := 1) C dk_X9_tides_28 (by decide) ?_
    have q7 := q6.2
    refine tv_cV1 C dk_X9_tides_29 ml_RX9_62 yk_X9_isThrown yi_X9_isThrown (m_X9_isThrown _ M 0 1 q6.1) (Nat.le_of_ble_eq_true rfl) rfl rfl rfl rfl (Nat.le_of_ble_eq_true rfl) (Nat.le_of_ble_eq_true rfl) (Nat.le_of_ble_eq_true rfl) (Nat.le_of_ble_eq_true rfl) (Nat.le_of_ble_eq_true rfl) ?_
    refine tv_if_eq C dk_X9_tides_32 (fun h4 => ?_) (fun h4 => ?_)
    · have q8 := q7.1 h4
      refine tv_aload_n C dk_X9_tides_37 rfl ?_
      refine tv_getR (r := 250) C dk_X9_tides_38 fl_RX9_9 (Nat.le_of_ble_eq_true rfl) rfl rfl (fun _ _ _ _ => rfl) ?_
      refine tv_iconst (v := 1) C dk_X9_tides_41 (by decide) ?_
      refine tv_iald (j := 1) rfl C dk_X9_tides_42 (Nat.le_of_ble_eq_true rfl) rfl (vp_in_nI (n := 1) (by decide) (by decide)) ?_
      refine tv_istore_n (L' := [_, _, _, _]) (hn := by decide) (hlt := (Nat.le_of_ble_eq_true rfl)) (hno := rfl) C dk_X9_tides_43 rfl ?_
      refine tv_aload_n C dk_X9_tides_44 rfl ?_
      refine tv_getR (r := 250) C dk_X9_tides_45 fl_RX9_9 (Nat.le_of_ble_eq_true rfl) rfl rfl (fun _ _ _ _ => rfl) ?_
      refine tv_iconst (v := 1) C dk_X9_tides_48 (by decide) ?_
      refine tv_iload_n C dk_X9_tides_49 rfl ?_
      refine tv_iast (j := 1) rfl C tvP0_ex dk_X9_tides_50 (Nat.le_of_ble_eq_true rfl) rfl (vp_in_nI (n := 1) (by decide) (by decide)) ?_
      refine tv_aload_n C dk_X9_tides_51 rfl ?_
      refine tv_getR (r := 250) C dk_X9_tides_52 fl_RX9_9 (Nat.le_of_ble_eq_true rfl) rfl rfl (fun _ _ _ _ => rfl) ?_
      refine tv_iconst (v := 2) C dk_X9_tides_55 (by decide) ?_
      refine tv_iload_n C dk_X9_tides_56 rfl ?_
      refine tv_iast (j := 2) rfl C tvP0_ex dk_X9_tides_57 (Nat.le_of_ble_eq_true rfl) rfl (vp_in_nI (n := 2) (by decide) (by decide)) ?_
      refine tv_iload_n C dk_X9_tides_58 rfl ?_
      exact tv_iret C hQ dk_X9_tides_59 rfl (by rw [f_X9_tides, if_neg h1, if_neg h3, if_pos h4]) (by rw [f_X9_tides, if_neg h1, if_neg h3, if_pos h4])
    have q9 := q7.2 h4
    refine tv_iconst (v := 0) C dk_X9_tides_35 (by decide) ?_
    exact tv_iret C hQ dk_X9_tides_36 rfl (by rw [f_X9_tides, if_neg h1, if_neg h3, if_neg h4]) (by rw [f_X9_tides, if_neg h1, if_neg h3, if_neg h4])
  have q10 := q5.1 h3
  refine tv_iconst (v := 1) C dk_X9_tides_23 (by decide) ?_
  refine tv_goto C dk_X9_tides_24 ?_
  refine tv_iconst (v := 1) C dk_X9_tides_28 (by decide) ?_
  have q11 := q10.2
  refine tv_cV1 C dk_X9_tides_29 ml_RX9_62 yk_X9_isThrown yi_X9_isThrown (m_X9_isThrown _ M 1 1 q10.1) (Nat.le_of_ble_eq_true rfl) rfl rfl rfl rfl (Nat.le_of_ble_eq_true rfl) (Nat.le_of_ble_eq_true rfl) (Nat.le_of_ble_eq_true rfl) (Nat.le_of_ble_eq_true rfl) (Nat.le_of_ble_eq_true rfl) ?_
  refine tv_if_eq C dk_X9_tides_32 (fun h5 => ?_) (fun h5 => ?_)
  · have q12 := q11.1 h5
    refine tv_aload_n C dk_X9_tides_37 rfl ?_
    refine tv_getR (r := 250) C dk_X9_tides_38 fl_RX9_9 (Nat.le_of_ble_eq_true rfl) rfl rfl (fun _ _ _ _ => rfl) ?_
    refine tv_iconst (v := 1) C dk_X9_tides_41 (by decide) ?_
    refine tv_iald (j := 1) rfl C dk_X9_tides_42 (Nat.le_of_ble_eq_true rfl) rfl (vp_in_nI (n := 1) (by decide) (by decide)) ?_
    refine tv_istore_n (L' := [_, _, _, _]) (hn := by decide) (hlt := (Nat.le_of_ble_eq_true rfl)) (hno := rfl) C dk_X9_tides_43 rfl ?_
    refine tv_aload_n C dk_X9_tides_44 rfl ?_
    refine tv_getR (r := 250) C dk_X9_tides_45 fl_RX9_9 (Nat.le_of_ble_eq_true rfl) rfl rfl (fun _ _ _ _ => rfl) ?_
    refine tv_iconst (v := 1) C dk_X9_tides_48 (by decide) ?_
    refine tv_iload_n C dk_X9_tides_49 rfl ?_
    refine tv_iast (j := 1) rfl C tvP0_ex dk_X9_tides_50 (Nat.le_of_ble_eq_true rfl) rfl (vp_in_nI (n := 1) (by decide) (by decide)) ?_
    refine tv_aload_n C dk_X9_tides_51 rfl ?_
    refine tv_getR (r := 250) C dk_X9_tides_52 fl_RX9_9 (Nat.le_of_ble_eq_true rfl) rfl rfl (fun _ _ _ _ => rfl) ?_
    refine tv_iconst (v := 2) C dk_X9_tides_55 (by decide) ?_
    refine tv_iload_n C dk_X9_tides_56 rfl ?_
    refine tv_iast (j := 2) rfl C tvP0_ex dk_X9_tides_57 (Nat.le_of_ble_eq_true rfl) rfl (vp_in_nI (n := 2) (by decide) (by decide)) ?_
    refine tv_iload_n C dk_X9_tides_58 rfl ?_
    exact tv_iret C hQ dk_X9_tides_59 rfl (by rw [f_X9_tides, if_neg h1, if_pos h3, if_pos h5]) (by rw [f_X9_tides, if_neg h1, if_pos h3, if_pos h5])
  have q13 := q11.2 h5
  refine tv_iconst (v := 0) C dk_X9_tides_35 (by decide) ?_
  exact tv_iret C hQ dk_X9_tides_36 rfl (by rw [f_X9_tides, if_neg h1, if_pos h3, if_neg h5]) (by rw [f_X9_tides, if_neg h1, if_pos h3, if_neg h5])
/-- TideVaultModel.sign(I)I -/
def f_X9_sign (M : tvM) (x1 : Int32) : Int32 := (f_J0_charAt_5068e 18 x1)
def q_X9_sign (M : tvM) (x1 : Int32) : Prop := (vp_in x1 (tvLen.getD 18 0) ∧ True)
theorem m_X9_sign (G : tvG) (M : tvM) (x1 : Int32) (hq : q_X9_sign M x1) : tvRun G yX9_sign cX9_sign 1 (some .int) 5 0 0 tvP0 tvP0 [.int x1] M (.inl (some (.int (f_X9_sign M x1)))) M := by
  refine tvRun.of yk_X9_sign rfl [some (.int x1)] rfl (Nat.le_of_ble_eq_true rfl) ?_
  intro E hG C hQ; subst hG
  refine tv_ldcS (i := 18) C dk_X9_sign_0 (List.mem_of_getElem? (i := 18) rfl) ?_
  refine tv_iload_n C dk_X9_sign_2 rfl ?_
  have q1 := hq.2
  refine tv_cT1 C dk_X9_sign_3 ml_RX9_104 yk_J0_charAt_5068e yi_J0_charAt_5068e (m_J0_charAt_5068e _ M (by decide) hq.1) (by decide) rfl rfl rfl (Nat.le_of_ble_eq_true rfl) (Nat.le_of_ble_eq_true rfl) (Nat.le_of_ble_eq_true rfl) (Nat.le_of_ble_eq_true rfl) (Nat.le_of_ble_eq_true rfl) ?_
  exact tv_iret C hQ dk_X9_sign_6 rfl (by rw [f_X9_sign]) rfl
/-- TideVaultModel.cannotTurn(II)Z -/
def f_X9_cannotTurn (M : tvM) (x1 : Int32) (x2 : Int32) : Int32 := (if (f_X9_of M x1 3) = 1 then (if (f_X9_of M x1 4) = x2 then (if 50 ≤ (tgi M 250 3) then 1 else (if (f_X9_locked M x2) = 0 then (if 2 ≤ (f_X9_of M x1 3) then 1 else 1) else 1)) else (if 50 ≤ (tgi M 250 3) then 1 else (if (f_X9_locked M x2) = 0 then (if 2 ≤ (f_X9_of M x1 3) then 1 else 0) else 1))) else (if 50 ≤ (tgi M 250 3) then 1 else (if (f_X9_locked M x2) = 0 then (if 2 ≤ (f_X9_of M x1 3) then 1 else 0) else 1)))
def q_X9_cannotTurn (M : tvM) (x1 : Int32) (x2 : Int32) : Prop := ((q_X9_of M x1 3) ∧ (((f_X9_of M x1 3) = 1 → ((q_X9_of M x1 4) ∧ (((f_X9_of M x1 4) = x2 → ((50 ≤ (tgi M 250 3) → True) ∧ (¬ 50 ≤ (tgi M 250 3) → ((q_X9_locked M x2) ∧ (((f_X9_locked M x2) = 0 → ((q_X9_of M x1 3) ∧ ((2 ≤ (f_X9_of M x1 3) → True) ∧ (¬ 2 ≤ (f_X9_of M x1 3) → True)))) ∧ (¬ (f_X9_locked M x2) = 0 → True)))))) ∧ (¬ (f_X9_of M x1 4) = x2 → ((50 ≤ (tgi M 250 3) → True) ∧ (¬ 50 ≤ (tgi M 250 3) → ((q_X9_locked M x2) ∧ (((f_X9_locked M x2) = 0 → ((q_X9_of M x1 3) ∧ ((2 ≤ (f_X9_of M x1 3) → True) ∧ (¬ 2 ≤ (f_X9_of M x1 3) → True)))) ∧ (¬ (f_X9_locked M x2) = 0 → True))))))))) ∧ (¬ (f_X9_of M x1 3) = 1 → ((50 ≤ (tgi M 250 3) → True) ∧ (¬ 50 ≤ (tgi M 250 3) → ((q_X9_locked M x2) ∧ (((f_X9_locked M x2) = 0 → ((q_X9_of M x1 3) ∧ ((2 ≤ (f_X9_of M x1 3) → True) ∧ (¬ 2 ≤ (f_X9_of M x1 3) → True)))) ∧ (¬ (f_X9_locked M x2) = 0 → True))))))))
theorem m_X9_cannotTurn (G : tvG) (M : tvM) (x1 : Int32) (x2 : Int32) (hq : q_X9_cannotTurn M x1 x2) : tvRun G yX9_cannotTurn cX9_cannotTurn 4 (some .boolean) 3 0 0 tvP0 tvP0 [.ref (G.2.1 + 249), .int x1, .int x2] M (.inl (some (.int (f_X9_cannotTurn M x1 x2)))) M := by
  refine tvRun.of yk_X9_cannotTurn rfl [some (.ref (G.2.1 + 249)), some (.int x1), some (.int x2), none] rfl (Nat.le_of_ble_eq_true rfl) ?_
  intro E hG C hQ; subst hG
  refine tv_aload_n C dk_X9_cannotTurn_0 rfl ?_
  refine tv_iload_n C dk_X9_cannotTurn_1 rfl ?_
  refine tv_iconst (v := 3) C dk_X9_cannotTurn_2 (by decide) ?_
  have q1 := hq.2
  refine tv_cV1 C dk_X9_cannotTurn_3 ml_RX9_55 yk_X9_of yi_X9_of (m_X9_of _ M x1 3 hq.1) (Nat.le_of_ble_eq_true rfl) rfl rfl rfl rfl (Nat.le_of_ble_eq_true rfl) (Nat.le_of_ble_eq_true rfl) (Nat.le_of_ble_eq_true rfl) (Nat.le_of_ble_eq_true rfl) (Nat.le_of_ble_eq_true rfl) ?_
  refine tv_iconst (v := 1) C dk_X9_cannotTurn_6 (by decide) ?_
  refine tv_icmp_ne C dk_X9_cannotTurn_7 (fun h1 => ?_) (fun h1 => ?_)
  · have q2 := q1.2 h1
    refine tv_iconst (v := 0) C dk_X9_cannotTurn_24 (by decide) ?_
    refine tv_istore_n (L' := [_, _, _, _]) (hn := by decide) (hlt := (Nat.le_of_ble_eq_true rfl)) (hno := rfl) C dk_X9_cannotTurn_25 rfl ?_
    refine tv_aload_n C dk_X9_cannotTurn_26 rfl ?_
    refine tv_getR (r := 250) C dk_X9_cannotTurn_27 fl_RX9_9 (Nat.le_of_ble_eq_true rfl) rfl rfl (fun _ _ _ _ => rfl) ?_
    refine tv_iconst (v := 3) C dk_X9_cannotTurn_30 (by decide) ?_
    refine tv_iald (j := 3) rfl C dk_X9_cannotTurn_31 (Nat.le_of_ble_eq_true rfl) rfl (vp_in_nI (n := 3) (by decide) (by decide)) ?_
    refine tv_bipush (v := 50) C dk_X9_cannotTurn_32 (by decide) ?_
    refine tv_icmp_ge C dk_X9_cannotTurn_34 (fun h2 => ?_) (fun h2 => ?_)
    · have q3 := q2.1 h2
      refine tv_iconst (v := 1) C dk_X9_cannotTurn_59 (by decide) ?_
      refine tv_goto C dk_X9_cannotTurn_60 ?_
      exact tv_iret C hQ dk_X9_cannotTurn_64 rfl (by rw [f_X9_cannotTurn, if_neg h1, if_pos h2]) rfl
    have q4 := q2.2 h2
    refine tv_aload_n C dk_X9_cannotTurn_37 rfl ?_
    refine tv_iload_n C dk_X9_cannotTurn_38 rfl ?_
    have q5 := q4.2
    refine tv_cV1 C dk_X9_cannotTurn_39 ml_RX9_110 yk_X9_locked yi_X9_locked (m_X9_locked _ M x2 q4.1) (Nat.le_of_ble_eq_true rfl) rfl rfl rfl rfl (Nat.le_of_ble_eq_true rfl) (Nat.le_of_ble_eq_true rfl) (Nat.le_of_ble_eq_true rfl) (Nat.le_of_ble_eq_true rfl) (Nat.le_of_ble_eq_true rfl) ?_
    refine tv_if_ne C dk_X9_cannotTurn_42 (fun h3 => ?_) (fun h3 => ?_)
    · have q6 := q5.2 h3
      refine tv_iconst (v := 1) C dk_X9_cannotTurn_59 (by decide) ?_
      refine tv_goto C dk_X9_cannotTurn_60 ?_
      exact tv_iret C hQ dk_X9_cannotTurn_64 rfl (by rw [f_X9_cannotTurn, if_neg h1, if_neg h2, if_neg h3]) rfl
    have q7 := q5.1 h3
    refine tv_aload_n C dk_X9_cannotTurn_45 rfl ?_
    refine tv_iload_n C dk_X9_cannotTurn_46 rfl ?_
    refine tv_iconst (v := 3) C dk_X9_cannotTurn_47 (by decide) ?_
    have q8 := q7.2
    refine tv_cV1 C dk_X9_cannotTurn_48 ml_RX9_55 yk_X9_of yi_X9_of (m_X9_of _ M x1 3 q7.1) (Nat.le_of_ble_eq_true rfl) rfl rfl rfl rfl (Nat.le_of_ble_eq_true rfl) (Nat.le_of_ble_eq_true rfl) (Nat.le_of_ble_eq_true rfl) (Nat.le_of_ble_eq_true rfl) (Nat.le_of_ble_eq_true rfl) ?_
    refine tv_iconst (v := 2) C dk_X9_cannotTurn_51 (by decide) ?_
    refine tv_icmp_ge C dk_X9_cannotTurn_52 (fun h4 => ?_) (fun h4 => ?_)
    · have q9 := q8.1 h4
      refine tv_iconst (v := 1) C dk_X9_cannotTurn_59 (by decide) ?_
      refine tv_goto C dk_X9_cannotTurn_60 ?_
      exact tv_iret C hQ dk_X9_cannotTurn_64 rfl (by rw [f_X9_cannotTurn, if_neg h1, if_neg h2, if_pos h3, if_pos h4]) rfl
    have q10 := q8.2 h4
    refine tv_iload_n C dk_X9_cannotTurn_55 rfl ?_
    refine tv_if_eq C dk_X9_cannotTurn_56 (fun _ => ?_) (fun h => absurd h (by decide))
    refine tv_iconst (v := 0) C dk_X9_cannotTurn_63 (by decide) ?_
    exact tv_iret C hQ dk_X9_cannotTurn_64 rfl (by rw [f_X9_cannotTurn, if_neg h1, if_neg h2, if_pos h3, if_neg h4]) rfl
  have q11 := q1.1 h1
  refine tv_aload_n C dk_X9_cannotTurn_10 rfl ?_
  refine tv_iload_n C dk_X9_cannotTurn_11 rfl ?_
  refine tv_iconst (v := 4) C dk_X9_cannotTurn_12 (by decide) ?_
  have q12 := q11.2
  refine tv_cV1 C dk_X9_cannotTurn_13 ml_RX9_55 yk_X9_of yi_X9_of (m_X9_of _ M x1 4 q11.1) (Nat.le_of_ble_eq_true rfl) rfl rfl rfl rfl (Nat.le_of_ble_eq_true rfl) (Nat.le_of_ble_eq_true rfl) (Nat.le_of_ble_eq_true rfl) (Nat.le_of_ble_eq_true rfl) (Nat.le_of_ble_eq_true rfl) ?_
  refine tv_iload_n C dk_X9_cannotTurn_16 rfl ?_
  refine tv_icmp_ne C dk_X9_cannotTurn_17 (fun h5 => ?_) (fun h5 => ?_)
  · have q13 := q12.2 h5
    refine tv_iconst (v := 0) C dk_X9_cannotTurn_24 (by decide) ?_
    refine tv_istore_n (L' := [_, _, _, _]) (hn := by decide) (hlt := (Nat.le_of_ble_eq_true rfl)) (hno := rfl) C dk_X9_cannotTurn_25 rfl ?_
    refine tv_aload_n C dk_X9_cannotTurn_26 rfl ?_
    refine tv_getR (r := 250) C dk_X9_cannotTurn_27 fl_RX9_9 (Nat.le_of_ble_eq_true rfl) rfl rfl (fun _ _ _ _ => rfl) ?_
    refine tv_iconst (v := 3) C dk_X9_cannotTurn_30 (by decide) ?_
    refine tv_iald (j := 3) rfl C dk_X9_cannotTurn_31 (Nat.le_of_ble_eq_true rfl) rfl (vp_in_nI (n := 3) (by decide) (by decide)) ?_
    refine tv_bipush (v := 50) C dk_X9_cannotTurn_32 (by decide) ?_
    refine tv_icmp_ge C dk_X9_cannotTurn_34 (fun h6 => ?_) (fun h6 => ?_)
    · have q14 := q13.1 h6
      refine tv_iconst (v := 1) C dk_X9_cannotTurn_59 (by decide) ?_
      refine tv_goto C dk_X9_cannotTurn_60 ?_
      exact tv_iret C hQ dk_X9_cannotTurn_64 rfl (by rw [f_X9_cannotTurn, if_pos h1, if_neg h5, if_pos h6]) rfl
    have q15 := q13.2 h6
    refine tv_aload_n C dk_X9_cannotTurn_37 rfl ?_
    refine tv_iload_n C dk_X9_cannotTurn_38 rfl ?_
    have q16 := q15.2
    refine tv_cV1 C dk_X9_cannotTurn_39 ml_RX9_110 yk_X9_locked yi_X9_locked (m_X9_locked _ M x2 q15.1) (Nat.le_of_ble_eq_true rfl) rfl rfl rfl rfl (Nat.le_of_ble_eq_true rfl) (Nat.le_of_ble_eq_true rfl) (Nat.le_of_ble_eq_true rfl) (Nat.le_of_ble_eq_true rfl) (Nat.le_of_ble_eq_true rfl) ?_
    refine tv_if_ne C dk_X9_cannotTurn_42 (fun h7 => ?_) (fun h7 => ?_)
    · have q17 := q16.2 h7
      refine tv_iconst (v := 1) C dk_X9_cannotTurn_59 (by decide) ?_
      refine tv_goto C dk_X9_cannotTurn_60 ?_
      exact tv_iret C hQ dk_X9_cannotTurn_64 rfl (by rw [f_X9_cannotTurn, if_pos h1, if_neg h5, if_neg h6, if_neg h7]) rfl
    have q18 := q16.1 h7
    refine tv_aload_n C dk_X9_cannotTurn_45 rfl ?_
    refine tv_iload_n C dk_X9_cannotTurn_46 rfl ?_
    refine tv_iconst (v := 3) C dk_X9_cannotTurn_47 (by decide) ?_
    have q19 := q18.2
    refine tv_cV1 C dk_X9_cannotTurn_48 ml_RX9_55 yk_X9_of yi_X9_of (m_X9_of _ M x1 3 q18.1) (Nat.le_of_ble_eq_true rfl) rfl rfl rfl rfl (Nat.le_of_ble_eq_true rfl) (Nat.le_of_ble_eq_true rfl) (Nat.le_of_ble_eq_true rfl) (Nat.le_of_ble_eq_true rfl) (Nat.le_of_ble_eq_true rfl) ?_
    refine tv_iconst (v := 2) C dk_X9_cannotTurn_51 (by decide) ?_
    refine tv_icmp_ge C dk_X9_cannotTurn_52 (fun h8 => ?_) (fun h8 => ?_)
    · have q20 := q19.1 h8
      refine tv_iconst (v := 1) C dk_X9_cannotTurn_59 (by decide) ?_
      refine tv_goto C dk_X9_cannotTurn_60 ?_
      exact tv_iret C hQ dk_X9_cannotTurn_64 rfl (by rw [f_X9_cannotTurn, if_pos h1, if_neg h5, if_neg h6, if_pos h7, if_pos h8]) rfl
    have q21 := q19.2 h8
    refine tv_iload_n C dk_X9_cannotTurn_55 rfl ?_
    refine tv_if_eq C dk_X9_cannotTurn_56 (fun _ => ?_) (fun h => absurd h (by decide))
    refine tv_iconst (v := 0) C dk_X9_cannotTurn_63 (by decide) ?_
    exact tv_iret C hQ dk_X9_cannotTurn_64 rfl (by rw [f_X9_cannotTurn, if_pos h1, if_neg h5, if_neg h6, if_pos h7, if_neg h8]) rfl
  have q22 := q12.1 h5
  refine tv_iconst (v := 1) C dk_X9_cannotTurn_20 (by decide) ?_
  refine tv_goto C dk_X9_cannotTurn_21 ?_
  refine tv_istore_n (L' := [_, _, _, _]) (hn := by decide) (hlt := (Nat.le_of_ble_eq_true rfl)) (hno := rfl) C dk_X9_cannotTurn_25 rfl ?_
  refine tv_aload_n C dk_X9_cannotTurn_26 rfl ?_
  refine tv_getR (r := 250) C dk_X9_cannotTurn_27 fl_RX9_9 (Nat.le_of_ble_eq_true rfl) rfl rfl (fun _ _ _ _ => rfl) ?_
  refine tv_iconst (v := 3) C dk_X9_cannotTurn_30 (by decide) ?_
  refine tv_iald (j := 3) rfl C dk_X9_cannotTurn_31 (Nat.le_of_ble_eq_true rfl) rfl (vp_in_nI (n := 3) (by decide) (by decide)) ?_
  refine tv_bipush (v := 50) C dk_X9_cannotTurn_32 (by decide) ?_
  refine tv_icmp_ge C dk_X9_cannotTurn_34 (fun h9 => ?_) (fun h9 => ?_)
  · have q23 := q22.1 h9
    refine tv_iconst (v := 1) C dk_X9_cannotTurn_59 (by decide) ?_
    refine tv_goto C dk_X9_cannotTurn_60 ?_
    exact tv_iret C hQ dk_X9_cannotTurn_64 rfl (by rw [f_X9_cannotTurn, if_pos h1, if_pos h5, if_pos h9]) rfl
  have q24 := q22.2 h9
  refine tv_aload_n C dk_X9_cannotTurn_37 rfl ?_
  refine tv_iload_n C dk_X9_cannotTurn_38 rfl ?_
  have q25 := q24.2
  refine tv_cV1 C dk_X9_cannotTurn_39 ml_RX9_110 yk_X9_locked yi_X9_locked (m_X9_locked _ M x2 q24.1) (Nat.le_of_ble_eq_true rfl) rfl rfl rfl rfl (Nat.le_of_ble_eq_true rfl) (Nat.le_of_ble_eq_true rfl) (Nat.le_of_ble_eq_true rfl) (Nat.le_of_ble_eq_true rfl) (Nat.le_of_ble_eq_true rfl) ?_
  refine tv_if_ne C dk_X9_cannotTurn_42 (fun h10 => ?_) (fun h10 => ?_)
  · have q26 := q25.2 h10
    refine tv_iconst (v := 1) C dk_X9_cannotTurn_59 (by decide) ?_
    refine tv_goto C dk_X9_cannotTurn_60 ?_
    exact tv_iret C hQ dk_X9_cannotTurn_64 rfl (by rw [f_X9_cannotTurn, if_pos h1, if_pos h5, if_neg h9, if_neg h10]) rfl
  have q27 := q25.1 h10
  refine tv_aload_n C dk_X9_cannotTurn_45 rfl ?_
  refine tv_iload_n C dk_X9_cannotTurn_46 rfl ?_
  refine tv_iconst (v := 3) C dk_X9_cannotTurn_47 (by decide) ?_
  have q28 := q27.2
  refine tv_cV1 C dk_X9_cannotTurn_48 ml_RX9_55 yk_X9_of yi_X9_of (m_X9_of _ M x1 3 q27.1) (Nat.le_of_ble_eq_true rfl) rfl rfl rfl rfl (Nat.le_of_ble_eq_true rfl) (Nat.le_of_ble_eq_true rfl) (Nat.le_of_ble_eq_true rfl) (Nat.le_of_ble_eq_true rfl) (Nat.le_of_ble_eq_true rfl) ?_
  refine tv_iconst (v := 2) C dk_X9_cannotTurn_51 (by decide) ?_
  refine tv_icmp_ge C dk_X9_cannotTurn_52 (fun h11 => ?_) (fun h11 => ?_)
  · have q29 := q28.1 h11
    refine tv_iconst (v := 1) C dk_X9_cannotTurn_59 (by decide) ?_
    refine tv_goto C dk_X9_cannotTurn_60 ?_
    exact tv_iret C hQ dk_X9_cannotTurn_64 rfl (by rw [f_X9_cannotTurn, if_pos h1, if_pos h5, if_neg h9, if_pos h10, if_pos h11]) rfl
  have q30 := q28.2 h11
  refine tv_iload_n C dk_X9_cannotTurn_55 rfl ?_
  refine tv_if_eq C dk_X9_cannotTurn_56 (fun h => absurd h (by decide)) (fun _ => ?_)
  refine tv_iconst (v := 1) C dk_X9_cannotTurn_59 (by decide) ?_
  refine tv_goto C dk_X9_cannotTurn_60 ?_
  exact tv_iret C hQ dk_X9_cannotTurn_64 rfl (by rw [f_X9_cannotTurn, if_pos h1, if_pos h5, if_neg h9, if_pos h10, if_neg h11]) rfl
theorem fz_X9_cannotTurn {M : tvM} {x1 : Int32} {x2 : Int32} : narrow .boolean (.int (f_X9_cannotTurn M x1 x2)) = .int (f_X9_cannotTurn M x1 x2) := by
  unfold f_X9_cannotTurn; repeat' split
  all_goals first | rfl
