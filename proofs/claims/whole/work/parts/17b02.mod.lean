/-- TideVaultModel.rings(I)V -/
def f_X9_rings (M : tvM) (x1 : Int32) : tvM := (if ((tgi M 250 3) + x1) ≤ 99 then (tpi M 250 3 ((tgi M 250 3) + x1)) else (tpi M 250 3 99))
theorem m_X9_rings (G : tvG) (M : tvM) (x1 : Int32) : tvRun G yX9_rings cX9_rings 2 none 1 0 0 tvP0 tvP0 [.ref (G.2.1 + 249), .int x1] M (.inl none) (f_X9_rings M x1) := by
  refine tvRun.of yk_X9_rings rfl [some (.ref (G.2.1 + 249)), some (.int x1)] rfl (Nat.le_of_ble_eq_true rfl) ?_
  intro E hG C hQ; subst hG
  refine tv_aload_n C dk_X9_rings_0 rfl ?_
  refine tv_getR (r := 250) C dk_X9_rings_1 fl_RX9_9 (Nat.le_of_ble_eq_true rfl) rfl rfl (fun _ _ _ _ => rfl) ?_
  refine tv_iconst (v := 3) C dk_X9_rings_4 (by decide) ?_
  refine tv_aload_n C dk_X9_rings_5 rfl ?_
  refine tv_getR (r := 250) C dk_X9_rings_6 fl_RX9_9 (Nat.le_of_ble_eq_true rfl) rfl rfl (fun _ _ _ _ => rfl) ?_
  refine tv_iconst (v := 3) C dk_X9_rings_9 (by decide) ?_
  refine tv_iald (j := 3) rfl C dk_X9_rings_10 (Nat.le_of_ble_eq_true rfl) rfl (vp_in_nI (n := 3) (by decide) (by decide)) ?_
  refine tv_iload_n C dk_X9_rings_11 rfl ?_
  refine tv_iadd C dk_X9_rings_12 ?_
  refine tv_bipush (v := 99) C dk_X9_rings_13 (by decide) ?_
  refine tv_icmp_le C dk_X9_rings_15 (fun h1 => ?_) (fun h1 => ?_)
  · refine tv_aload_n C dk_X9_rings_23 rfl ?_
    refine tv_getR (r := 250) C dk_X9_rings_24 fl_RX9_9 (Nat.le_of_ble_eq_true rfl) rfl rfl (fun _ _ _ _ => rfl) ?_
    refine tv_iconst (v := 3) C dk_X9_rings_27 (by decide) ?_
    refine tv_iald (j := 3) rfl C dk_X9_rings_28 (Nat.le_of_ble_eq_true rfl) rfl (vp_in_nI (n := 3) (by decide) (by decide)) ?_
    refine tv_iload_n C dk_X9_rings_29 rfl ?_
    refine tv_iadd C dk_X9_rings_30 ?_
    refine tv_iast (j := 3) rfl C tvP0_ex dk_X9_rings_31 (Nat.le_of_ble_eq_true rfl) rfl (vp_in_nI (n := 3) (by decide) (by decide)) ?_
    exact tv_vret C hQ dk_X9_rings_32 rfl (by rw [f_X9_rings, if_pos h1])
  refine tv_bipush (v := 99) C dk_X9_rings_18 (by decide) ?_
  refine tv_goto C dk_X9_rings_20 ?_
  refine tv_iast (j := 3) rfl C tvP0_ex dk_X9_rings_31 (Nat.le_of_ble_eq_true rfl) rfl (vp_in_nI (n := 3) (by decide) (by decide)) ?_
  exact tv_vret C hQ dk_X9_rings_32 rfl (by rw [f_X9_rings, if_neg h1])
/-- TideVaultModel.holds(I)I -/
def f_X9_holds (M : tvM) (x1 : Int32) : Int32 × tvM := (if (f_X9_isIn M x1 0 999) = 0 then (0, (f_X9_isThrown M 1 1).2) else (if (tgi ((f_X9_isThrown M 0 1).2) 250 9) = 8 then (0, (f_X9_isThrown ((f_X9_isThrown M 0 1).2) 1 2).2) else (((tgi (tpi (f_X9_setsHolder ((f_X9_isThrown ((f_X9_isThrown M 0 1).2) 0 2).2) (tgi ((f_X9_isThrown ((f_X9_isThrown M 0 1).2) 0 2).2) 250 9) 0 x1) 250 9 ((tgi (f_X9_setsHolder ((f_X9_isThrown ((f_X9_isThrown M 0 1).2) 0 2).2) (tgi ((f_X9_isThrown ((f_X9_isThrown M 0 1).2) 0 2).2) 250 9) 0 x1) 250 9) + 1)) 250 9) - 1), (tpi (f_X9_setsHolder ((f_X9_isThrown ((f_X9_isThrown M 0 1).2) 0 2).2) (tgi ((f_X9_isThrown ((f_X9_isThrown M 0 1).2) 0 2).2) 250 9) 0 x1) 250 9 ((tgi (f_X9_setsHolder ((f_X9_isThrown ((f_X9_isThrown M 0 1).2) 0 2).2) (tgi ((f_X9_isThrown ((f_X9_isThrown M 0 1).2) 0 2).2) 250 9) 0 x1) 250 9) + 1)))))
def q_X9_holds (M : tvM) (x1 : Int32) : Prop := (((f_X9_isIn M x1 0 999) = 0 → True) ∧ (¬ (f_X9_isIn M x1 0 999) = 0 → (((tgi ((f_X9_isThrown M 0 1).2) 250 9) = 8 → True) ∧ (¬ (tgi ((f_X9_isThrown M 0 1).2) 250 9) = 8 → ((q_X9_setsHolder ((f_X9_isThrown ((f_X9_isThrown M 0 1).2) 0 2).2) (tgi ((f_X9_isThrown ((f_X9_isThrown M 0 1).2) 0 2).2) 250 9) 0 x1) ∧ True)))))
theorem m_X9_holds (G : tvG) (M : tvM) (x1 : Int32) (hq : q_X9_holds M x1) : tvRun G yX9_holds cX9_holds 2 (some .int) 2 0 0 tvP0 tvP0 [.ref (G.2.1 + 249), .int x1] M (.inl (some (.int (f_X9_holds M x1).1))) ((f_X9_holds M x1).2) := by
  refine tvRun.of yk_X9_holds rfl [some (.ref (G.2.1 + 249)), some (.int x1)] rfl (Nat.le_of_ble_eq_true rfl) ?_
  intro E hG C hQ; subst hG
  refine tv_aload_n C dk_X9_holds_0 rfl ?_
  refine tv_iload_n C dk_X9_holds_1 rfl ?_
  refine tv_iconst (v := 0) C dk_X9_holds_2 (by decide) ?_
  refine tv_sipush (v := 999) C dk_X9_holds_3 (by decide) ?_
  refine tv_cS1 C dk_X9_holds_6 ml_RX9_51 yk_X9_isIn yi_X9_isIn (m_X9_isIn _ M x1 0 999) rfl rfl (Nat.le_of_ble_eq_true rfl) (Nat.le_of_ble_eq_true rfl) (Nat.le_of_ble_eq_true rfl) (Nat.le_of_ble_eq_true rfl) (Nat.le_of_ble_eq_true rfl) ?_
  refine tv_if_ne C dk_X9_holds_9 (fun h1 => ?_) (fun h1 => ?_)
  · have q1 := hq.2 h1
    refine tv_iconst (v := 0) C dk_X9_holds_16 (by decide) ?_
    refine tv_iconst (v := 1) C dk_X9_holds_17 (by decide) ?_
    refine tv_cV1 C dk_X9_holds_18 ml_RX9_62 yk_X9_isThrown yi_X9_isThrown (m_X9_isThrown _ M 0 1 (tv_qt0 _ _)) (Nat.le_of_ble_eq_true rfl) rfl rfl rfl rfl (Nat.le_of_ble_eq_true rfl) (Nat.le_of_ble_eq_true rfl) (Nat.le_of_ble_eq_true rfl) (Nat.le_of_ble_eq_true rfl) (Nat.le_of_ble_eq_true rfl) ?_
    refine tv_ti (v := 0) rfl ?_
    refine tv_if_ne C dk_X9_holds_21 (fun h => absurd h (by decide)) (fun _ => ?_)
    refine tv_aload_n C dk_X9_holds_24 rfl ?_
    refine tv_aload_n C dk_X9_holds_25 rfl ?_
    refine tv_getR (r := 250) C dk_X9_holds_26 fl_RX9_9 (Nat.le_of_ble_eq_true rfl) rfl rfl (fun _ _ _ _ => rfl) ?_
    refine tv_bipush (v := 9) C dk_X9_holds_29 (by decide) ?_
    refine tv_iald (j := 9) rfl C dk_X9_holds_31 (Nat.le_of_ble_eq_true rfl) rfl (vp_in_nI (n := 9) (by decide) (by decide)) ?_
    refine tv_bipush (v := 8) C dk_X9_holds_32 (by decide) ?_
    refine tv_icmp_ne C dk_X9_holds_34 (fun h2 => ?_) (fun h2 => ?_)
    · have q2 := q1.2 h2
      refine tv_iconst (v := 0) C dk_X9_holds_41 (by decide) ?_
      refine tv_iconst (v := 2) C dk_X9_holds_42 (by decide) ?_
      refine tv_cV1 C dk_X9_holds_43 ml_RX9_62 yk_X9_isThrown yi_X9_isThrown (m_X9_isThrown _ ((f_X9_isThrown M 0 1).2) 0 2 (tv_qt0 _ _)) (Nat.le_of_ble_eq_true rfl) rfl rfl rfl rfl (Nat.le_of_ble_eq_true rfl) (Nat.le_of_ble_eq_true rfl) (Nat.le_of_ble_eq_true rfl) (Nat.le_of_ble_eq_true rfl) (Nat.le_of_ble_eq_true rfl) ?_
      refine tv_ti (v := 0) rfl ?_
      refine tv_if_eq C dk_X9_holds_46 (fun _ => ?_) (fun h => absurd h (by decide))
      refine tv_aload_n C dk_X9_holds_51 rfl ?_
      refine tv_aload_n C dk_X9_holds_52 rfl ?_
      refine tv_getR (r := 250) C dk_X9_holds_53 fl_RX9_9 (Nat.le_of_ble_eq_true rfl) rfl rfl (fun _ _ _ _ => rfl) ?_
      refine tv_bipush (v := 9) C dk_X9_holds_56 (by decide) ?_
      refine tv_iald (j := 9) rfl C dk_X9_holds_58 (Nat.le_of_ble_eq_true rfl) rfl (vp_in_nI (n := 9) (by decide) (by decide)) ?_
      refine tv_iconst (v := 0) C dk_X9_holds_59 (by decide) ?_
      refine tv_iload_n C dk_X9_holds_60 rfl ?_
      have q3 := q2.2
      refine tv_cV0 C dk_X9_holds_61 ml_RX9_66 yk_X9_setsHolder yi_X9_setsHolder (m_X9_setsHolder _ ((f_X9_isThrown ((f_X9_isThrown M 0 1).2) 0 2).2) (tgi ((f_X9_isThrown ((f_X9_isThrown M 0 1).2) 0 2).2) 250 9) 0 x1 q2.1) (Nat.le_of_ble_eq_true rfl) rfl rfl rfl rfl (Nat.le_of_ble_eq_true rfl) (Nat.le_of_ble_eq_true rfl) (Nat.le_of_ble_eq_true rfl) (Nat.le_of_ble_eq_true rfl) (Nat.le_of_ble_eq_true rfl) ?_
      refine tv_aload_n C dk_X9_holds_64 rfl ?_
      refine tv_getR (r := 250) C dk_X9_holds_65 fl_RX9_9 (Nat.le_of_ble_eq_true rfl) rfl rfl (fun _ _ _ _ => rfl) ?_
      refine tv_bipush (v := 9) C dk_X9_holds_68 (by decide) ?_
      refine tv_dup2 C dk_X9_holds_70 rfl rfl ?_
      refine tv_iald (j := 9) rfl C dk_X9_holds_71 (Nat.le_of_ble_eq_true rfl) rfl (vp_in_nI (n := 9) (by decide) (by decide)) ?_
      refine tv_iconst (v := 1) C dk_X9_holds_72 (by decide) ?_
      refine tv_iadd C dk_X9_holds_73 ?_
      refine tv_iast (j := 9) rfl C tvP0_ex dk_X9_holds_74 (Nat.le_of_ble_eq_true rfl) rfl (vp_in_nI (n := 9) (by decide) (by decide)) ?_
      refine tv_aload_n C dk_X9_holds_75 rfl ?_
      refine tv_getR (r := 250) C dk_X9_holds_76 fl_RX9_9 (Nat.le_of_ble_eq_true rfl) rfl rfl (fun _ _ _ _ => rfl) ?_
      refine tv_bipush (v := 9) C dk_X9_holds_79 (by decide) ?_
      refine tv_iald (j := 9) rfl C dk_X9_holds_81 (Nat.le_of_ble_eq_true rfl) rfl (vp_in_nI (n := 9) (by decide) (by decide)) ?_
      refine tv_iconst (v := 1) C dk_X9_holds_82 (by decide) ?_
      refine tv_isub C dk_X9_holds_83 ?_
      exact tv_iret C hQ dk_X9_holds_84 rfl (by rw [f_X9_holds, if_neg h1, if_neg h2]) (by rw [f_X9_holds, if_neg h1, if_neg h2])
    have q4 := q1.1 h2
    refine tv_iconst (v := 1) C dk_X9_holds_37 (by decide) ?_
    refine tv_goto C dk_X9_holds_38 ?_
    refine tv_iconst (v := 2) C dk_X9_holds_42 (by decide) ?_
    refine tv_cV1 C dk_X9_holds_43 ml_RX9_62 yk_X9_isThrown yi_X9_isThrown (m_X9_isThrown _ ((f_X9_isThrown M 0 1).2) 1 2 (tv_qt1 _ _)) (Nat.le_of_ble_eq_true rfl) rfl rfl rfl rfl (Nat.le_of_ble_eq_true rfl) (Nat.le_of_ble_eq_true rfl) (Nat.le_of_ble_eq_true rfl) (Nat.le_of_ble_eq_true rfl) (Nat.le_of_ble_eq_true rfl) ?_
    refine tv_ti (v := 1) rfl ?_
    refine tv_if_eq C dk_X9_holds_46 (fun h => absurd h (by decide)) (fun _ => ?_)
    refine tv_iconst (v := 0) C dk_X9_holds_49 (by decide) ?_
    exact tv_iret C hQ dk_X9_holds_50 rfl (by rw [f_X9_holds, if_neg h1, if_pos h2]) (by rw [f_X9_holds, if_neg h1, if_pos h2])
  have q5 := hq.1 h1
  refine tv_iconst (v := 1) C dk_X9_holds_12 (by decide) ?_
  refine tv_goto C dk_X9_holds_13 ?_
  refine tv_iconst (v := 1) C dk_X9_holds_17 (by decide) ?_
  refine tv_cV1 C dk_X9_holds_18 ml_RX9_62 yk_X9_isThrown yi_X9_isThrown (m_X9_isThrown _ M 1 1 (tv_qt1 _ _)) (Nat.le_of_ble_eq_true rfl) rfl rfl rfl rfl (Nat.le_of_ble_eq_true rfl) (Nat.le_of_ble_eq_true rfl) (Nat.le_of_ble_eq_true rfl) (Nat.le_of_ble_eq_true rfl) (Nat.le_of_ble_eq_true rfl) ?_
  refine tv_ti (v := 1) rfl ?_
  refine tv_if_ne C dk_X9_holds_21 (fun _ => ?_) (fun h => absurd h (by decide))
  refine tv_iconst (v := 0) C dk_X9_holds_49 (by decide) ?_
  exact tv_iret C hQ dk_X9_holds_50 rfl (by rw [f_X9_holds, if_pos h1]) (by rw [f_X9_holds, if_pos h1])
/-- TideVaultModel.boxed(III)I -/
def f_X9_boxed (M : tvM) (x1 : Int32) (x2 : Int32) (x3 : Int32) : Int32 × tvM := (if (f_X9_isHolder M x1) = 0 then (0, (f_X9_isThrown M 1 1).2) else (if (f_X9_isHolder M x2) = 0 then (0, (f_X9_isThrown M 1 1).2) else (if x1 = x2 then (0, (f_X9_isThrown ((f_X9_isThrown M 0 1).2) 1 2).2) else (if (f_X9_isIn ((f_X9_isThrown M 0 1).2) x3 0 60) = 0 then (0, (f_X9_isThrown ((f_X9_isThrown M 0 1).2) 1 2).2) else (if (tgi ((f_X9_isThrown ((f_X9_isThrown M 0 1).2) 0 2).2) 250 10) = 10 then (0, (f_X9_isThrown ((f_X9_isThrown ((f_X9_isThrown M 0 1).2) 0 2).2) 1 3).2) else ((tgi ((f_X9_isThrown ((f_X9_isThrown ((f_X9_isThrown M 0 1).2) 0 2).2) 0 3).2) 250 10), (tpi (f_X9_sets (f_X9_sets (f_X9_sets ((f_X9_isThrown ((f_X9_isThrown ((f_X9_isThrown M 0 1).2) 0 2).2) 0 3).2) (tgi ((f_X9_isThrown ((f_X9_isThrown ((f_X9_isThrown M 0 1).2) 0 2).2) 0 3).2) 250 10) 0 x1) (tgi ((f_X9_isThrown ((f_X9_isThrown ((f_X9_isThrown M 0 1).2) 0 2).2) 0 3).2) 250 10) 1 x2) (tgi ((f_X9_isThrown ((f_X9_isThrown ((f_X9_isThrown M 0 1).2) 0 2).2) 0 3).2) 250 10) 2 x3) 250 10 ((tgi (f_X9_sets (f_X9_sets (f_X9_sets ((f_X9_isThrown ((f_X9_isThrown ((f_X9_isThrown M 0 1).2) 0 2).2) 0 3).2) (tgi ((f_X9_isThrown ((f_X9_isThrown ((f_X9_isThrown M 0 1).2) 0 2).2) 0 3).2) 250 10) 0 x1) (tgi ((f_X9_isThrown ((f_X9_isThrown ((f_X9_isThrown M 0 1).2) 0 2).2) 0 3).2) 250 10) 1 x2) (tgi ((f_X9_isThrown ((f_X9_isThrown ((f_X9_isThrown M 0 1).2) 0 2).2) 0 3).2) 250 10) 2 x3) 250 10) + 1))))))))
def q_X9_boxed (M : tvM) (x1 : Int32) (x2 : Int32) (x3 : Int32) : Prop := (((f_X9_isHolder M x1) = 0 → True) ∧ (¬ (f_X9_isHolder M x1) = 0 → (((f_X9_isHolder M x2) = 0 → True) ∧ (¬ (f_X9_isHolder M x2) = 0 → ((x1 = x2 → True) ∧ (¬ x1 = x2 → (((f_X9_isIn ((f_X9_isThrown M 0 1).2) x3 0 60) = 0 → True) ∧ (¬ (f_X9_isIn ((f_X9_isThrown M 0 1).2) x3 0 60) = 0 → (((tgi ((f_X9_isThrown ((f_X9_isThrown M 0 1).2) 0 2).2) 250 10) = 10 → True) ∧ (¬ (tgi ((f_X9_isThrown ((f_X9_isThrown M 0 1).2) 0 2).2) 250 10) = 10 → ((q_X9_sets ((f_X9_isThrown ((f_X9_isThrown ((f_X9_isThrown M 0 1).2) 0 2).2) 0 3).2) (tgi ((f_X9_isThrown ((f_X9_isThrown ((f_X9_isThrown M 0 1).2) 0 2).2) 0 3).2) 250 10) 0 x1) ∧ ((q_X9_sets (f_X9_sets ((f_X9_isThrown ((f_X9_isThrown ((f_X9_isThrown M 0 1).2) 0 2).2) 0 3).2) (tgi ((f_X9_isThrown ((f_X9_isThrown ((f_X9_isThrown M 0 1).2) 0 2).2) 0 3).2) 250 10) 0 x1) (tgi ((f_X9_isThrown ((f_X9_isThrown ((f_X9_isThrown M 0 1).2) 0 2).2) 0 3).2) 250 10) 1 x2) ∧ ((q_X9_sets (f_X9_sets (f_X9_sets ((f_X9_isThrown ((f_X9_isThrown ((f_X9_isThrown M 0 1).2) 0 2).2) 0 3).2) (tgi ((f_X9_isThrown ((f_X9_isThrown ((f_X9_isThrown M 0 1).2) 0 2).2) 0 3).2) 250 10) 0 x1) (tgi ((f_X9_isThrown ((f_X9_isThrown ((f_X9_isThrown M 0 1).2) 0 2).2) 0 3).2) 250 10) 1 x2) (tgi ((f_X9_isThrown ((f_X9_isThrown ((f_X9_isThrown M 0 1).2) 0 2).2) 0 3).2) 250 10) 2 x3) ∧ True)))))))))))))
theorem m_X9_boxed (G : tvG) (M : tvM) (x1 : Int32) (x2 : Int32) (x3 : Int32) (hq : q_X9_boxed M x1 x2 x3) : tvRun G yX9_boxed cX9_boxed 5 (some .int) 3 0 0 tvP0 tvP0 [.ref (G.2.1 + 249), .int x1, .int x2, .int x3] M (.inl (some (.int (f_X9_boxed M x1 x2 x3).1))) ((f_X9_boxed M x1 x2 x3).2) := by
  refine tvRun.of yk_X9_boxed rfl [some (.ref (G.2.1 + 249)), some (.int x1), some (.int x2), some (.int x3), none] rfl (Nat.le_of_ble_eq_true rfl) ?_
  intro E hG C hQ; subst hG
  refine tv_aload_n C dk_X9_boxed_0 rfl ?_
  refine tv_aload_n C dk_X9_boxed_1 rfl ?_
  refine tv_iload_n C dk_X9_boxed_2 rfl ?_
  refine tv_cV1 C dk_X9_boxed_3 ml_RX9_80 yk_X9_isHolder yi_X9_isHolder (m_X9_isHolder _ M x1) (Nat.le_of_ble_eq_true rfl) rfl rfl rfl rfl (Nat.le_of_ble_eq_true rfl) (Nat.le_of_ble_eq_true rfl) (Nat.le_of_ble_eq_true rfl) (Nat.le_of_ble_eq_true rfl) (Nat.le_of_ble_eq_true rfl) ?_
  refine tv_if_eq C dk_X9_boxed_6 (fun h1 => ?_) (fun h1 => ?_)
  · have q1 := hq.1 h1
    refine tv_iconst (v := 1) C dk_X9_boxed_17 (by decide) ?_
    refine tv_goto C dk_X9_boxed_18 ?_
    refine tv_iconst (v := 1) C dk_X9_boxed_22 (by decide) ?_
    refine tv_cV1 C dk_X9_boxed_23 ml_RX9_62 yk_X9_isThrown yi_X9_isThrown (m_X9_isThrown _ M 1 1 (tv_qt1 _ _)) (Nat.le_of_ble_eq_true rfl) rfl rfl rfl rfl (Nat.le_of_ble_eq_true rfl) (Nat.le_of_ble_eq_true rfl) (Nat.le_of_ble_eq_true rfl) (Nat.le_of_ble_eq_true rfl) (Nat.le_of_ble_eq_true rfl) ?_
    refine tv_ti (v := 1) rfl ?_
    refine tv_if_ne C dk_X9_boxed_26 (fun _ => ?_) (fun h => absurd h (by decide))
    refine tv_iconst (v := 0) C dk_X9_boxed_82 (by decide) ?_
    exact tv_iret C hQ dk_X9_boxed_83 rfl (by rw [f_X9_boxed, if_pos h1]) (by rw [f_X9_boxed, if_pos h1])
  have q2 := hq.2 h1
  refine tv_aload_n C dk_X9_boxed_9 rfl ?_
  refine tv_iload_n C dk_X9_boxed_10 rfl ?_
  refine tv_cV1 C dk_X9_boxed_11 ml_RX9_80 yk_X9_isHolder yi_X9_isHolder (m_X9_isHolder _ M x2) (Nat.le_of_ble_eq_true rfl) rfl rfl rfl rfl (Nat.le_of_ble_eq_true rfl) (Nat.le_of_ble_eq_true rfl) (Nat.le_of_ble_eq_true rfl) (Nat.le_of_ble_eq_true rfl) (Nat.le_of_ble_eq_true rfl) ?_
  refine tv_if_ne C dk_X9_boxed_14 (fun h2 => ?_) (fun h2 => ?_)
  · have q3 := q2.2 h2
    refine tv_iconst (v := 0) C dk_X9_boxed_21 (by decide) ?_
    refine tv_iconst (v := 1) C dk_X9_boxed_22 (by decide) ?_
    refine tv_cV1 C dk_X9_boxed_23 ml_RX9_62 yk_X9_isThrown yi_X9_isThrown (m_X9_isThrown _ M 0 1 (tv_qt0 _ _)) (Nat.le_of_ble_eq_true rfl) rfl rfl rfl rfl (Nat.le_of_ble_eq_true rfl) (Nat.le_of_ble_eq_true rfl) (Nat.le_of_ble_eq_true rfl) (Nat.le_of_ble_eq_true rfl) (Nat.le_of_ble_eq_true rfl) ?_
    refine tv_ti (v := 0) rfl ?_
    refine tv_if_ne C dk_X9_boxed_26 (fun h => absurd h (by decide)) (fun _ => ?_)
    refine tv_aload_n C dk_X9_boxed_29 rfl ?_
    refine tv_iload_n C dk_X9_boxed_30 rfl ?_
    refine tv_iload_n C dk_X9_boxed_31 rfl ?_
    refine tv_icmp_eq C dk_X9_boxed_32 (fun h3 => ?_) (fun h3 => ?_)
    · have q4 := q3.1 h3
      refine tv_iconst (v := 1) C dk_X9_boxed_45 (by decide) ?_
      refine tv_goto C dk_X9_boxed_46 ?_
      refine tv_iconst (v := 2) C dk_X9_boxed_50 (by decide) ?_
      refine tv_cV1 C dk_X9_boxed_51 ml_RX9_62 yk_X9_isThrown yi_X9_isThrown (m_X9_isThrown _ ((f_X9_isThrown M 0 1).2) 1 2 (tv_qt1 _ _)) (Nat.le_of_ble_eq_true rfl) rfl rfl rfl rfl (Nat.le_of_ble_eq_true rfl) (Nat.le_of_ble_eq_true rfl) (Nat.le_of_ble_eq_true rfl) (Nat.le_of_ble_eq_true rfl) (Nat.le_of_ble_eq_true rfl) ?_
      refine tv_ti (v := 1) rfl ?_
      refine tv_if_ne C dk_X9_boxed_54 (fun _ => ?_) (fun h => absurd h (by decide))
      refine tv_iconst (v := 0) C dk_X9_boxed_82 (by decide) ?_
      exact tv_iret C hQ dk_X9_boxed_83 rfl (by rw [f_X9_boxed, if_neg h1, if_neg h2, if_pos h3]) (by rw [f_X9_boxed, if_neg h1, if_neg h2, if_pos h3])
    have q5 := q3.2 h3
    refine tv_iload_n C dk_X9_boxed_35 rfl ?_
    refine tv_iconst (v := 0) C dk_X9_boxed_36 (by decide) ?_
    refine tv_bipush (v := 60) C dk_X9_boxed_37 (by decide) ?_
    refine tv_cS1 C dk_X9_boxed_39 ml_RX9_51 yk_X9_isIn yi_X9_isIn (m_X9_isIn _ ((f_X9_isThrown M 0 1).2) x3 0 60) rfl rfl (Nat.le_of_ble_eq_true rfl) (Nat.le_of_ble_eq_true rfl) (Nat.le_of_ble_eq_true rfl) (Nat.le_of_ble_eq_true rfl) (Nat.le_of_ble_eq_true rfl) ?_
    refine tv_if_ne C dk_X9_boxed_42 (fun h4 => ?_) (fun h4 => ?_)
    · have q6 := q5.2 h4
      refine tv_iconst (v := 0) C dk_X9_boxed_49 (by decide) ?_
      refine tv_iconst (v := 2) C dk_X9_boxed_50 (by decide) ?_
      refine tv_cV1 C dk_X9_boxed_51 ml_RX9_62 yk_X9_isThrown yi_X9_isThrown (m_X9_isThrown _ ((f_X9_isThrown M 0 1).2) 0 2 (tv_qt0 _ _)) (Nat.le_of_ble_eq_true rfl) rfl rfl rfl rfl (Nat.le_of_ble_eq_true rfl) (Nat.le_of_ble_eq_true rfl) (Nat.le_of_ble_eq_true rfl) (Nat.le_of_ble_eq_true rfl) (Nat.le_of_ble_eq_true rfl) ?_
      refine tv_ti (v := 0) rfl ?_
      refine tv_if_ne C dk_X9_boxed_54 (fun h => absurd h (by decide)) (fun _ => ?_)
      refine tv_aload_n C dk_X9_boxed_57 rfl ?_
      refine tv_aload_n C dk_X9_boxed_58 rfl ?_
      refine tv_getR (r := 250) C dk_X9_boxed_59 fl_RX9_9 (Nat.le_of_ble_eq_true rfl) rfl rfl (fun _ _ _ _ => rfl) ?_
      refine tv_bipush (v := 10) C dk_X9_boxed_62 (by decide) ?_
      refine tv_iald (j := 10) rfl C dk_X9_boxed_64 (Nat.le_of_ble_eq_true rfl) rfl (vp_in_nI (n := 10) (by decide) (by decide)) ?_
      refine tv_bipush (v := 10) C dk_X9_boxed_65 (by decide) ?_
      refine tv_icmp_ne C dk_X9_boxed_67 (fun h5 => ?_) (fun h5 => ?_)
      · have q7 := q6.2 h5
        refine tv_iconst (v := 0) C dk_X9_boxed_74 (by decide) ?_
        refine tv_iconst (v := 3) C dk_X9_boxed_75 (by decide) ?_
        refine tv_cV1 C dk_X9_boxed_76 ml_RX9_62 yk_X9_isThrown yi_X9_isThrown (m_X9_isThrown _ ((f_X9_isThrown ((f_X9_isThrown M 0 1).2) 0 2).2) 0 3 (tv_qt0 _ _)) (Nat.le_of_ble_eq_true rfl) rfl rfl rfl rfl (Nat.le_of_ble_eq_true rfl) (Nat.le_of_ble_eq_true rfl) (Nat.le_of_ble_eq_true rfl) (Nat.le_of_ble_eq_true rfl) (Nat.le_of_ble_eq_true rfl) ?_
        refine tv_ti (v := 0) rfl ?_
        refine tv_if_eq C dk_X9_boxed_79 (fun _ => ?_) (fun h => absurd h (by decide))
        refine tv_aload_n C dk_X9_boxed_84 rfl ?_
        refine tv_getR (r := 250) C dk_X9_boxed_85 fl_RX9_9 (Nat.le_of_ble_eq_true rfl) rfl rfl (fun _ _ _ _ => rfl) ?_
        refine tv_bipush (v := 10) C dk_X9_boxed_88 (by decide) ?_
        refine tv_iald (j := 10) rfl C dk_X9_boxed_90 (Nat.le_of_ble_eq_true rfl) rfl (vp_in_nI (n := 10) (by decide) (by decide)) ?_
        refine tv_istore (L' := [_, _, _, _, _]) (hn := by decide) (hlt := (Nat.le_of_ble_eq_true rfl)) (hno := rfl) C dk_X9_boxed_91 rfl ?_
        refine tv_aload_n C dk_X9_boxed_93 rfl ?_
        refine tv_iload C dk_X9_boxed_94 rfl ?_
        refine tv_iconst (v := 0) C dk_X9_boxed_96 (by decide) ?_
        refine tv_iload_n C dk_X9_boxed_97 rfl ?_
        have q8 := q7.2
        refine tv_cV0 C dk_X9_boxed_98 ml_RX9_84 yk_X9_sets yi_X9_sets (m_X9_sets _ ((f_X9_isThrown ((f_X9_isThrown ((f_X9_isThrown M 0 1).2) 0 2).2) 0 3).2) (tgi ((f_X9_isThrown ((f_X9_isThrown ((f_X9_isThrown M 0 1).2) 0 2).2) 0 3).2) 250 10) 0 x1 q7.1) (Nat.le_of_ble_eq_true rfl) rfl rfl rfl rfl (Nat.le_of_ble_eq_true rfl) (Nat.le_of_ble_eq_true rfl) (Nat.le_of_ble_eq_true rfl) (Nat.le_of_ble_eq_true rfl) (Nat.le_of_ble_eq_true rfl) ?_
        refine tv_aload_n C dk_X9_boxed_101 rfl ?_
        refine tv_iload C dk_X9_boxed_102 rfl ?_
        refine tv_iconst (v := 1) C dk_X9_boxed_104 (by decide) ?_
        refine tv_iload_n C dk_X9_boxed_105 rfl ?_
        have q9 := q8.2
        refine tv_cV0 C dk_X9_boxed_106 ml_RX9_84 yk_X9_sets yi_X9_sets (m_X9_sets _ (f_X9_sets ((f_X9_isThrown ((f_X9_isThrown ((f_X9_isThrown M 0 1).2) 0 2).2) 0 3).2) (tgi ((f_X9_isThrown ((f_X9_isThrown ((f_X9_isThrown M 0 1).2) 0 2).2) 0 3).2) 250 10) 0 x1) (tgi ((f_X9_isThrown ((f_X9_isThrown ((f_X9_isThrown M 0 1).2) 0 2).2) 0 3).2) 250 10) 1 x2 q8.1) (Nat.le_of_ble_eq_true rfl) rfl rfl rfl rfl (Nat.le_of_ble_eq_true rfl) (Nat.le_of_ble_eq_true rfl) (Nat.le_of_ble_eq_true rfl) (Nat.le_of_ble_eq_true rfl) (Nat.le_of_ble_eq_true rfl) ?_
        refine tv_aload_n C dk_X9_boxed_109 rfl ?_
        refine tv_iload C dk_X9_boxed_110 rfl ?_
        refine tv_iconst (v := 2) C dk_X9_boxed_112 (by decide) ?_
        refine tv_iload_n C dk_X9_boxed_113 rfl ?_
        have q10 := q9.2
        refine tv_cV0 C dk_X9_boxed_114 ml_RX9_84 yk_X9_sets yi_X9_sets (m_X9_sets _ (f_X9_sets (f_X9_sets ((f_X9_isThrown ((f_X9_isThrown ((f_X9_isThrown M 0 1).2) 0 2).2) 0 3).2) (tgi ((f_X9_isThrown ((f_X9_isThrown ((f_X9_isThrown M 0 1).2) 0 2).2) 0 3).2) 250 10) 0 x1) (tgi ((f_X9_isThrown ((f_X9_isThrown ((f_X9_isThrown M 0 1).2) 0 2).2) 0 3).2) 250 10) 1 x2) (tgi ((f_X9_isThrown ((f_X9_isThrown ((f_X9_isThrown M 0 1).2) 0 2).2) 0 3).2) 250 10) 2 x3 q9.1) (Nat.le_of_ble_eq_true rfl) rfl rfl rfl rfl (Nat.le_of_ble_eq_true rfl) (Nat.le_of_ble_eq_true rfl) (Nat.le_of_ble_eq_true rfl) (Nat.le_of_ble_eq_true rfl) (Nat.le_of_ble_eq_true rfl) ?_
        refine tv_aload_n C dk_X9_boxed_117 rfl ?_
        refine tv_getR (r := 250) C dk_X9_boxed_118 fl_RX9_9 (Nat.le_of_ble_eq_true rfl) rfl rfl (fun _ _ _ _ => rfl) ?_
        refine tv_bipush (v := 10) C dk_X9_boxed_121 (by decide) ?_
        refine tv_dup2 C dk_X9_boxed_123 rfl rfl ?_
        refine tv_iald (j := 10) rfl C dk_X9_boxed_124 (Nat.le_of_ble_eq_true rfl) rfl (vp_in_nI (n := 10) (by decide) (by decide)) ?_
        refine tv_iconst (v := 1) C dk_X9_boxed_125 (by decide) ?_
        refine tv_iadd C dk_X9_boxed_126 ?_
        refine tv_iast (j := 10) rfl C tvP0_ex dk_X9_boxed_127 (Nat.le_of_ble_eq_true rfl) rfl (vp_in_nI (n := 10) (by decide) (by decide)) ?_
        refine tv_iload C dk_X9_boxed_128 rfl ?_
        exact tv_iret C hQ dk_X9_boxed_130 rfl (by rw [f_X9_boxed, if_neg h1, if_neg h2, if_neg h3, if_neg h4, if_neg h5]) (by rw [f_X9_boxed, if_neg h1, if_neg h2, if_neg h3, if_neg h4, if_neg h5])
      have q11 := q6.1 h5
      refine tv_iconst (v := 1) C dk_X9_boxed_70 (by decide) ?_
      refine tv_goto C dk_X9_boxed_71 ?_
      refine tv_iconst (v := 3) C dk_X9_boxed_75 (by decide) ?_
      refine tv_cV1 C dk_X9_boxed_76 ml_RX9_62 yk_X9_isThrown yi_X9_isThrown (m_X9_isThrown _ ((f_X9_isThrown ((f_X9_isThrown M 0 1).2) 0 2).2) 1 3 (tv_qt1 _ _)) (Nat.le_of_ble_eq_true rfl) rfl rfl rfl rfl (Nat.le_of_ble_eq_true rfl) (Nat.le_of_ble_eq_true rfl) (Nat.le_of_ble_eq_true rfl) (Nat.le_of_ble_eq_true rfl) (Nat.le_of_ble_eq_true rfl) ?_
      refine tv_ti (v := 1) rfl ?_
      refine tv_if_eq C dk_X9_boxed_79 (fun h => absurd h (by decide)) (fun _ => ?_)
      refine tv_iconst (v := 0) C dk_X9_boxed_82 (by decide) ?_
      exact tv_iret C hQ dk_X9_boxed_83 rfl (by rw [f_X9_boxed, if_neg h1, if_neg h2, if_neg h3, if_neg h4, if_pos h5]) (by rw [f_X9_boxed, if_neg h1, if_neg h2, if_neg h3, if_neg h4, if_pos h5])
    have q12 := q5.1 h4
    refine tv_iconst (v := 1) C dk_X9_boxed_45 (by decide) ?_
    refine tv_goto C dk_X9_boxed_46 ?_
    refine tv_iconst (v := 2) C dk_X9_boxed_50 (by decide) ?_
    refine tv_cV1 C dk_X9_boxed_51 ml_RX9_62 yk_X9_isThrown yi_X9_isThrown (m_X9_isThrown _ ((f_X9_isThrown M 0 1).2) 1 2 (tv_qt1 _ _)) (Nat.le_of_ble_eq_true rfl) rfl rfl rfl rfl (Nat.le_of_ble_eq_true rfl) (Nat.le_of_ble_eq_true rfl) (Nat.le_of_ble_eq_true rfl) (Nat.le_of_ble_eq_true rfl) (Nat.le_of_ble_eq_true rfl) ?_
    refine tv_ti (v := 1) rfl ?_
    refine tv_if_ne C dk_X9_boxed_54 (fun _ => ?_) (fun h => absurd h (by decide))
    refine tv_iconst (v := 0) C dk_X9_boxed_82 (by decide) ?_
    exact tv_iret C hQ dk_X9_boxed_83 rfl (by rw [f_X9_boxed, if_neg h1, if_neg h2, if_neg h3, if_pos h4]) (by rw [f_X9_boxed, if_neg h1, if_neg h2, if_neg h3, if_pos h4])
  have q13 := q2.1 h2
  refine tv_iconst (v := 1) C dk_X9_boxed_17 (by decide) ?_
  refine tv_goto C dk_X9_boxed_18 ?_
  refine tv_iconst (v := 1) C dk_X9_boxed_22 (by decide) ?_
  refine tv_cV1 C dk_X9_boxed_23 ml_RX9_62 yk_X9_isThrown yi_X9_isThrown (m_X9_isThrown _ M 1 1 (tv_qt1 _ _)) (Nat.le_of_ble_eq_true rfl) rfl rfl rfl rfl (Nat.le_of_ble_eq_true rfl) (Nat.le_of_ble_eq_true rfl) (Nat.le_of_ble_eq_true rfl) (Nat.le_of_ble_eq_true rfl) (Nat.le_of_ble_eq_true rfl) ?_
  refine tv_ti (v := 1) rfl ?_
  refine tv_if_ne C dk_X9_boxed_26 (fun _ => ?_) (fun h => absurd h (by decide))
  refine tv_iconst (v := 0) C dk_X9_boxed_82 (by decide) ?_
  exact tv_iret C hQ dk_X9_boxed_83 rfl (by rw [f_X9_boxed, if_neg h1, if_pos h2]) (by rw [f_X9_boxed, if_neg h1, if_pos h2])
/-- TideVaultModel.tides(II)I -/
def f_X9_tides (M : tvM) (x1 : Int32) (x2 : Int32) : Int32 × tvM := (if (f_X9_isIn M x1 60 480) = 0 then (0, (f_X9_isThrown M 1 1).2) else (if (f_X9_isIn M x2 10 x1) = 0 then (0, (f_X9_isThrown M 1 1).2) else ((tgi ((f_X9_isThrown M 0 1).2) 250 1), (tpi (tpi ((f_X9_isThrown M 0 1).2) 250 1 x1) 250 2 x2))))
theorem m_X9_tides (G : tvG) (M : tvM) (x1 : Int32) (x2 : Int32) : tvRun G yX9_tides cX9_tides 4 (some .int) 2 0 0 tvP0 tvP0 [.ref (G.2.1 + 249), .int x1, .int x2] M (.inl (some (.int (f_X9_tides M x1 x2).1))) ((f_X9_tides M x1 x2).2) := by
  refine tvRun.of yk_X9_tides rfl [some (.ref (G.2.1 + 249)), some (.int x1), some (.int x2), none] rfl (Nat.le_of_ble_eq_true rfl) ?_
  intro E hG C hQ; subst hG
  refine tv_aload_n C dk_X9_tides_0 rfl ?_
  refine tv_iload_n C dk_X9_tides_1 rfl ?_
  refine tv_bipush (v := 60) C dk_X9_tides_2 (by decide) ?_
  refine tv_sipush (v := 480) C dk_X9_tides_4 (by decide) ?_
  refine tv_cS1 C dk_X9_tides_7 ml_RX9_51 yk_X9_isIn yi_X9_isIn (m_X9_isIn _ M x1 60 480) rfl rfl (Nat.le_of_ble_eq_true rfl) (Nat.le_of_ble_eq_true rfl) (Nat.le_of_ble_eq_true rfl) (Nat.le_of_ble_eq_true rfl) (Nat.le_of_ble_eq_true rfl) ?_
  refine tv_if_eq C dk_X9_tides_10 (fun h1 => ?_) (fun h1 => ?_)
  · refine tv_iconst (v := 1) C dk_X9_tides_23 (by decide) ?_
    refine tv_goto C dk_X9_tides_24 ?_
    refine tv_iconst (v := 1) C dk_X9_tides_28 (by decide) ?_
    refine tv_cV1 C dk_X9_tides_29 ml_RX9_62 yk_X9_isThrown yi_X9_isThrown (m_X9_isThrown _ M 1 1 (tv_qt1 _ _)) (Nat.le_of_ble_eq_true rfl) rfl rfl rfl rfl (Nat.le_of_ble_eq_true rfl) (Nat.le_of_ble_eq_true rfl) (Nat.le_of_ble_eq_true rfl) (Nat.le_of_ble_eq_true rfl) (Nat.le_of_ble_eq_true rfl) ?_
    refine tv_ti (v := 1) rfl ?_
    refine tv_if_eq C dk_X9_tides_32 (fun h => absurd h (by decide)) (fun _ => ?_)
    refine tv_iconst (v := 0) C dk_X9_tides_35 (by decide) ?_
    exact tv_iret C hQ dk_X9_tides_36 rfl (by rw [f_X9_tides, if_pos h1]) (by rw [f_X9_tides, if_pos h1])
  refine tv_iload_n C dk_X9_tides_13 rfl ?_
  refine tv_bipush (v := 10) C dk_X9_tides_14 (by decide) ?_
  refine tv_iload_n C dk_X9_tides_16 rfl ?_
  refine tv_cS1 C dk_X9_tides_17 ml_RX9_51 yk_X9_isIn yi_X9_isIn (m_X9_isIn _ M x2 10 x1) rfl rfl (Nat.le_of_ble_eq_true rfl) (Nat.le_of_ble_eq_true rfl) (Nat.le_of_ble_eq_true rfl) (Nat.le_of_ble_eq_true rfl) (Nat.le_of_ble_eq_true rfl) ?_
  refine tv_if_ne C dk_X9_tides_20 (fun h2 => ?_) (fun h2 => ?_)
  · refine tv_iconst (v := 0) C dk_X9_tides_27 (by decide) ?_
    refine tv_iconst (v := 1) C dk_X9_tides_28 (by decide) ?_
    refine tv_cV1 C dk_X9_tides_29 ml_RX9_62 yk_X9_isThrown yi_X9_isThrown (m_X9_isThrown _ M 0 1 (tv_qt0 _ _)) (Nat.le_of_ble_eq_true rfl) rfl rfl rfl rfl (Nat.le_of_ble_eq_true rfl) (Nat.le_of_ble_eq_true rfl) (Nat.le_of_ble_eq_true rfl) (Nat.le_of_ble_eq_true rfl) (Nat.le_of_ble_eq_true rfl) ?_
    refine tv_ti (v := 0) rfl ?_
    refine tv_if_eq C dk_X9_tides_32 (fun _ => ?_) (fun h => absurd h (by decide))
    refine tv_aload_n C dk_X9_tides_37 rfl ?_
    refine tv_getR (r := 250) C dk_X9_tides_38 fl_RX9_9 (Nat.le_of_ble_eq_true rfl) rfl rfl (fun _ _ _ _ => rfl) ?_
    refine tv_iconst (v := 1) C dk_X9_tides_41 (by decide) ?_
    refine tv_iald (j := 1) rfl C dk_X9_tides_42 (Nat.le_of_ble_eq_true rfl) rfl (vp_in_nI (n := 1) (by decide) (by decide)) ?_
    refine tv_istore_n (L' := [_, _, _, _]) (hn := by decide) (hlt := (Nat.le_of_ble_eq_true rfl)) (hno := rfl) C dk_X9_tides_43 rfl ?_
    refine tv_aload_n C dk_X9_tides_44 rfl ?_
    refine tv_getR (r := 250) C dk_X9_tides_45 fl_RX9_9 (Nat.le_of_ble_eq_true rfl) rfl rfl (fun _ _ _ _ => rfl) ?_
    refine tv_iconst (v := 1) C dk_X9_tides_48 (by decide) ?_
    refine tv_iload_n C dk_X9_tides_49 rfl ?_
    refine tv_iast (j := 1) rfl C tvP0_ex dk_X9_tides_50 (Nat.le_of_ble_eq_true rfl) rfl (vp_in_nI (n := 1) (by decide) (by decide)) ?_
    refine tv_aload_n C dk_X9_tides_51 rfl ?_
    refine tv_getR (r := 250) C dk_X9_tides_52 fl_RX9_9 (Nat.le_of_ble_eq_true rfl) rfl rfl (fun _ _ _ _ => rfl) ?_
    refine tv_iconst (v := 2) C dk_X9_tides_55 (by decide) ?_
    refine tv_iload_n C dk_X9_tides_56 rfl ?_
    refine tv_iast (j := 2) rfl C tvP0_ex dk_X9_tides_57 (Nat.le_of_ble_eq_true rfl) rfl (vp_in_nI (n := 2) (by decide) (by decide)) ?_
    refine tv_iload_n C dk_X9_tides_58 rfl ?_
    exact tv_iret C hQ dk_X9_tides_59 rfl (by rw [f_X9_tides, if_neg h1, if_neg h2]) (by rw [f_X9_tides, if_neg h1, if_neg h2])
  refine tv_iconst (v := 1) C dk_X9_tides_23 (by decide) ?_
  refine tv_goto C dk_X9_tides_24 ?_
  refine tv_iconst (v := 1) C dk_X9_tides_28 (by decide) ?_
  refine tv_cV1 C dk_X9_tides_29 ml_RX9_62 yk_X9_isThrown yi_X9_isThrown (m_X9_isThrown _ M 1 1 (tv_qt1 _ _)) (Nat.le_of_ble_eq_true rfl) rfl rfl rfl rfl (Nat.le_of_ble_eq_true rfl) (Nat.le_of_ble_eq_true rfl) (Nat.le_of_ble_eq_true rfl) (Nat.le_of_ble_eq_true rfl) (Nat.le_of_ble_eq_true rfl) ?_
  refine tv_ti (v := 1) rfl ?_
  refine tv_if_eq C dk_X9_tides_32 (fun h => absurd h (by decide)) (fun _ => ?_)
  refine tv_iconst (v := 0) C dk_X9_tides_35 (by decide) ?_
  exact tv_iret C hQ dk_X9_tides_36 rfl (by rw [f_X9_tides, if_neg h1, if_pos h2]) (by rw [f_X9_tides, if_neg h1, if_pos h2])
/-- TideVaultModel.sign(I)I -/
def f_X9_sign (M : tvM) (x1 : Int32) : Int32 := (f_J0_charAt_5068e 18 x1)
def q_X9_sign (M : tvM) (x1 : Int32) : Prop := (vp_in x1 (tvLen.getD 18 0) ∧ True)
theorem m_X9_sign (G : tvG) (M : tvM) (x1 : Int32) (hq : q_X9_sign M x1) : tvRun G yX9_sign cX9_sign 1 (some .int) 5 0 0 tvP0 tvP0 [.int x1] M (.inl (some (.int (f_X9_sign M x1)))) M := by
  refine tvRun.of yk_X9_sign rfl [some (.int x1)] rfl (Nat.le_of_ble_eq_true rfl) ?_
  intro E hG C hQ; subst hG
  refine tv_ldcS (i := 18) C dk_X9_sign_0 (List.mem_of_getElem? (i := 18) rfl) ?_
  refine tv_iload_n C dk_X9_sign_2 rfl ?_
  have q1 := hq.2
  refine tv_cT1 C dk_X9_sign_3 ml_RX9_104 yk_J0_charAt_5068e yi_J0_charAt_5068e (m_J0_charAt_5068e _ M (by decide) hq.1) (by decide) rfl rfl rfl (Nat.le_of_ble_eq_true rfl) (Nat.le_of_ble_eq_true rfl) (Nat.le_of_ble_eq_true rfl) (Nat.le_of_ble_eq_true rfl) (Nat.le_of_ble_eq_true rfl) ?_
  exact tv_iret C hQ dk_X9_sign_6 rfl (by rw [f_X9_sign]) rfl
/-- TideVaultModel.cannotTurn(II)Z -/
def f_X9_cannotTurn (M : tvM) (x1 : Int32) (x2 : Int32) : Int32 := (if (f_X9_of M x1 3) = 1 then (if (f_X9_of M x1 4) = x2 then (if 50 ≤ (tgi M 250 3) then 1 else (if (f_X9_locked M x2) = 0 then (if 2 ≤ (f_X9_of M x1 3) then 1 else 1) else 1)) else (if 50 ≤ (tgi M 250 3) then 1 else (if (f_X9_locked M x2) = 0 then (if 2 ≤ (f_X9_of M x1 3) then 1 else 0) else 1))) else (if 50 ≤ (tgi M 250 3) then 1 else (if (f_X9_locked M x2) = 0 then (if 2 ≤ (f_X9_of M x1 3) then 1 else 0) else 1)))
def q_X9_cannotTurn (M : tvM) (x1 : Int32) (x2 : Int32) : Prop := ((q_X9_of M x1 3) ∧ (((f_X9_of M x1 3) = 1 → ((q_X9_of M x1 4) ∧ (((f_X9_of M x1 4) = x2 → ((50 ≤ (tgi M 250 3) → True) ∧ (¬ 50 ≤ (tgi M 250 3) → ((q_X9_locked M x2) ∧ (((f_X9_locked M x2) = 0 → ((q_X9_of M x1 3) ∧ ((2 ≤ (f_X9_of M x1 3) → True) ∧ (¬ 2 ≤ (f_X9_of M x1 3) → True)))) ∧ (¬ (f_X9_locked M x2) = 0 → True)))))) ∧ (¬ (f_X9_of M x1 4) = x2 → ((50 ≤ (tgi M 250 3) → True) ∧ (¬ 50 ≤ (tgi M 250 3) → ((q_X9_locked M x2) ∧ (((f_X9_locked M x2) = 0 → ((q_X9_of M x1 3) ∧ ((2 ≤ (f_X9_of M x1 3) → True) ∧ (¬ 2 ≤ (f_X9_of M x1 3) → True)))) ∧ (¬ (f_X9_locked M x2) = 0 → True))))))))) ∧ (¬ (f_X9_of M x1 3) = 1 → ((50 ≤ (tgi M 250 3) → True) ∧ (¬ 50 ≤ (tgi M 250 3) → ((q_X9_locked M x2) ∧ (((f_X9_locked M x2) = 0 → ((q_X9_of M x1 3) ∧ ((2 ≤ (f_X9_of M x1 3) → True) ∧ (¬ 2 ≤ (f_X9_of M x1 3) → True)))) ∧ (¬ (f_X9_locked M x2) = 0 → True))))))))
theorem m_X9_cannotTurn (G : tvG) (M : tvM) (x1 : Int32) (x2 : Int32) (hq : q_X9_cannotTurn M x1 x2) : tvRun G yX9_cannotTurn cX9_cannotTurn 4 (some .boolean) 3 0 0 tvP0 tvP0 [.ref (G.2.1 + 249), .int x1, .int x2] M (.inl (some (.int (f_X9_cannotTurn M x1 x2)))) M := by
  refine tvRun.of yk_X9_cannotTurn rfl [some (.ref (G.2.1 + 249)), some (.int x1), some (.int x2), none] rfl (Nat.le_of_ble_eq_true rfl) ?_
  intro E hG C hQ; subst hG
  refine tv_aload_n C dk_X9_cannotTurn_0 rfl ?_
  refine tv_iload_n C dk_X9_cannotTurn_1 rfl ?_
  refine tv_iconst (v := 3) C dk_X9_cannotTurn_2 (by decide) ?_
  have q1 := hq.2
  refine tv_cV1 C dk_X9_cannotTurn_3 ml_RX9_55 yk_X9_of yi_X9_of (m_X9_of _ M x1 3 hq.1) (Nat.le_of_ble_eq_true rfl) rfl rfl rfl rfl (Nat.le_of_ble_eq_true rfl) (Nat.le_of_ble_eq_true rfl) (Nat.le_of_ble_eq_true rfl) (Nat.le_of_ble_eq_true rfl) (Nat.le_of_ble_eq_true rfl) ?_
  refine tv_iconst (v := 1) C dk_X9_cannotTurn_6 (by decide) ?_
  refine tv_icmp_ne C dk_X9_cannotTurn_7 (fun h1 => ?_) (fun h1 => ?_)
  · have q2 := q1.2 h1
    refine tv_iconst (v := 0) C dk_X9_cannotTurn_24 (by decide) ?_
    refine tv_istore_n (L' := [_, _, _, _]) (hn := by decide) (hlt := (Nat.le_of_ble_eq_true rfl)) (hno := rfl) C dk_X9_cannotTurn_25 rfl ?_
    refine tv_aload_n C dk_X9_cannotTurn_26 rfl ?_
    refine tv_getR (r := 250) C dk_X9_cannotTurn_27 fl_RX9_9 (Nat.le_of_ble_eq_true rfl) rfl rfl (fun _ _ _ _ => rfl) ?_
    refine tv_iconst (v := 3) C dk_X9_cannotTurn_30 (by decide) ?_
    refine tv_iald (j := 3) rfl C dk_X9_cannotTurn_31 (Nat.le_of_ble_eq_true rfl) rfl (vp_in_nI (n := 3) (by decide) (by decide)) ?_
    refine tv_bipush (v := 50) C dk_X9_cannotTurn_32 (by decide) ?_
    refine tv_icmp_ge C dk_X9_cannotTurn_34 (fun h2 => ?_) (fun h2 => ?_)
    · have q3 := q2.1 h2
      refine tv_iconst (v := 1) C dk_X9_cannotTurn_59 (by decide) ?_
      refine tv_goto C dk_X9_cannotTurn_60 ?_
      exact tv_iret C hQ dk_X9_cannotTurn_64 rfl (by rw [f_X9_cannotTurn, if_neg h1, if_pos h2]) rfl
    have q4 := q2.2 h2
    refine tv_aload_n C dk_X9_cannotTurn_37 rfl ?_
    refine tv_iload_n C dk_X9_cannotTurn_38 rfl ?_
    have q5 := q4.2
    refine tv_cV1 C dk_X9_cannotTurn_39 ml_RX9_110 yk_X9_locked yi_X9_locked (m_X9_locked _ M x2 q4.1) (Nat.le_of_ble_eq_true rfl) rfl rfl rfl rfl (Nat.le_of_ble_eq_true rfl) (Nat.le_of_ble_eq_true rfl) (Nat.le_of_ble_eq_true rfl) (Nat.le_of_ble_eq_true rfl) (Nat.le_of_ble_eq_true rfl) ?_
    refine tv_if_ne C dk_X9_cannotTurn_42 (fun h3 => ?_) (fun h3 => ?_)
    · have q6 := q5.2 h3
      refine tv_iconst (v := 1) C dk_X9_cannotTurn_59 (by decide) ?_
      refine tv_goto C dk_X9_cannotTurn_60 ?_
      exact tv_iret C hQ dk_X9_cannotTurn_64 rfl (by rw [f_X9_cannotTurn, if_neg h1, if_neg h2, if_neg h3]) rfl
    have q7 := q5.1 h3
    refine tv_aload_n C dk_X9_cannotTurn_45 rfl ?_
    refine tv_iload_n C dk_X9_cannotTurn_46 rfl ?_
    refine tv_iconst (v := 3) C dk_X9_cannotTurn_47 (by decide) ?_
    have q8 := q7.2
    refine tv_cV1 C dk_X9_cannotTurn_48 ml_RX9_55 yk_X9_of yi_X9_of (m_X9_of _ M x1 3 q7.1) (Nat.le_of_ble_eq_true rfl) rfl rfl rfl rfl (Nat.le_of_ble_eq_true rfl) (Nat.le_of_ble_eq_true rfl) (Nat.le_of_ble_eq_true rfl) (Nat.le_of_ble_eq_true rfl) (Nat.le_of_ble_eq_true rfl) ?_
    refine tv_iconst (v := 2) C dk_X9_cannotTurn_51 (by decide) ?_
    refine tv_icmp_ge C dk_X9_cannotTurn_52 (fun h4 => ?_) (fun h4 => ?_)
    · have q9 := q8.1 h4
      refine tv_iconst (v := 1) C dk_X9_cannotTurn_59 (by decide) ?_
      refine tv_goto C dk_X9_cannotTurn_60 ?_
      exact tv_iret C hQ dk_X9_cannotTurn_64 rfl (by rw [f_X9_cannotTurn, if_neg h1, if_neg h2, if_pos h3, if_pos h4]) rfl
    have q10 := q8.2 h4
    refine tv_iload_n C dk_X9_cannotTurn_55 rfl ?_
    refine tv_if_eq C dk_X9_cannotTurn_56 (fun _ => ?_) (fun h => absurd h (by decide))
    refine tv_iconst (v := 0) C dk_X9_cannotTurn_63 (by decide) ?_
    exact tv_iret C hQ dk_X9_cannotTurn_64 rfl (by rw [f_X9_cannotTurn, if_neg h1, if_neg h2, if_pos h3, if_neg h4]) rfl
  have q11 := q1.1 h1
  refine tv_aload_n C dk_X9_cannotTurn_10 rfl ?_
  refine tv_iload_n C dk_X9_cannotTurn_11 rfl ?_
  refine tv_iconst (v := 4) C dk_X9_cannotTurn_12 (by decide) ?_
  have q12 := q11.2
  refine tv_cV1 C dk_X9_cannotTurn_13 ml_RX9_55 yk_X9_of yi_X9_of (m_X9_of _ M x1 4 q11.1) (Nat.le_of_ble_eq_true rfl) rfl rfl rfl rfl (Nat.le_of_ble_eq_true rfl) (Nat.le_of_ble_eq_true rfl) (Nat.le_of_ble_eq_true rfl) (Nat.le_of_ble_eq_true rfl) (Nat.le_of_ble_eq_true rfl) ?_
  refine tv_iload_n C dk_X9_cannotTurn_16 rfl ?_
  refine tv_icmp_ne C dk_X9_cannotTurn_17 (fun h5 => ?_) (fun h5 => ?_)
  · have q13 := q12.2 h5
    refine tv_iconst (v := 0) C dk_X9_cannotTurn_24 (by decide) ?_
    refine tv_istore_n (L' := [_, _, _, _]) (hn := by decide) (hlt := (Nat.le_of_ble_eq_true rfl)) (hno := rfl) C dk_X9_cannotTurn_25 rfl ?_
    refine tv_aload_n C dk_X9_cannotTurn_26 rfl ?_
    refine tv_getR (r := 250) C dk_X9_cannotTurn_27 fl_RX9_9 (Nat.le_of_ble_eq_true rfl) rfl rfl (fun _ _ _ _ => rfl) ?_
    refine tv_iconst (v := 3) C dk_X9_cannotTurn_30 (by decide) ?_
    refine tv_iald (j := 3) rfl C dk_X9_cannotTurn_31 (Nat.le_of_ble_eq_true rfl) rfl (vp_in_nI (n := 3) (by decide) (by decide)) ?_
    refine tv_bipush (v := 50) C dk_X9_cannotTurn_32 (by decide) ?_
    refine tv_icmp_ge C dk_X9_cannotTurn_34 (fun h6 => ?_) (fun h6 => ?_)
    · have q14 := q13.1 h6
      refine tv_iconst (v := 1) C dk_X9_cannotTurn_59 (by decide) ?_
      refine tv_goto C dk_X9_cannotTurn_60 ?_
      exact tv_iret C hQ dk_X9_cannotTurn_64 rfl (by rw [f_X9_cannotTurn, if_pos h1, if_neg h5, if_pos h6]) rfl
    have q15 := q13.2 h6
    refine tv_aload_n C dk_X9_cannotTurn_37 rfl ?_
    refine tv_iload_n C dk_X9_cannotTurn_38 rfl ?_
    have q16 := q15.2
    refine tv_cV1 C dk_X9_cannotTurn_39 ml_RX9_110 yk_X9_locked yi_X9_locked (m_X9_locked _ M x2 q15.1) (Nat.le_of_ble_eq_true rfl) rfl rfl rfl rfl (Nat.le_of_ble_eq_true rfl) (Nat.le_of_ble_eq_true rfl) (Nat.le_of_ble_eq_true rfl) (Nat.le_of_ble_eq_true rfl) (Nat.le_of_ble_eq_true rfl) ?_
    refine tv_if_ne C dk_X9_cannotTurn_42 (fun h7 => ?_) (fun h7 => ?_)
    · have q17 := q16.2 h7
      refine tv_iconst (v := 1) C dk_X9_cannotTurn_59 (by decide) ?_
      refine tv_goto C dk_X9_cannotTurn_60 ?_
      exact tv_iret C hQ dk_X9_cannotTurn_64 rfl (by rw [f_X9_cannotTurn, if_pos h1, if_neg h5, if_neg h6, if_neg h7]) rfl
    have q18 := q16.1 h7
    refine tv_aload_n C dk_X9_cannotTurn_45 rfl ?_
    refine tv_iload_n C dk_X9_cannotTurn_46 rfl ?_
    refine tv_iconst (v := 3) C dk_X9_cannotTurn_47 (by decide) ?_
    have q19 := q18.2
    refine tv_cV1 C dk_X9_cannotTurn_48 ml_RX9_55 yk_X9_of yi_X9_of (m_X9_of _ M x1 3 q18.1) (Nat.le_of_ble_eq_true rfl) rfl rfl rfl rfl (Nat.le_of_ble_eq_true rfl) (Nat.le_of_ble_eq_true rfl) (Nat.le_of_ble_eq_true rfl) (Nat.le_of_ble_eq_true rfl) (Nat.le_of_ble_eq_true rfl) ?_
    refine tv_iconst (v := 2) C dk_X9_cannotTurn_51 (by decide) ?_
    refine tv_icmp_ge C dk_X9_cannotTurn_52 (fun h8 => ?_) (fun h8 => ?_)
    · have q20 := q19.1 h8
      refine tv_iconst (v := 1) C dk_X9_cannotTurn_59 (by decide) ?_
      refine tv_goto C dk_X9_cannotTurn_60 ?_
      exact tv_iret C hQ dk_X9_cannotTurn_64 rfl (by rw [f_X9_cannotTurn, if_pos h1, if_neg h5, if_neg h6, if_pos h7, if_pos h8]) rfl
    have q21 := q19.2 h8
    refine tv_iload_n C dk_X9_cannotTurn_55 rfl ?_
    refine tv_if_eq C dk_X9_cannotTurn_56 (fun _ => ?_) (fun h => absurd h (by decide))
    refine tv_iconst (v := 0) C dk_X9_cannotTurn_63 (by decide) ?_
    exact tv_iret C hQ dk_X9_cannotTurn_64 rfl (by rw [f_X9_cannotTurn, if_pos h1, if_neg h5, if_neg h6, if_pos h7, if_neg h8]) rfl
  have q22 := q12.1 h5
  refine tv_iconst (v := 1) C dk_X9_cannotTurn_20 (by decide) ?_
  refine tv_goto C dk_X9_cannotTurn_21 ?_
  refine tv_istore_n (L' := [_, _, _, _]) (hn := by decide) (hlt := (Nat.le_of_ble_eq_true rfl)) (hno := rfl) C dk_X9_cannotTurn_25 rfl ?_
  refine tv_aload_n C dk_X9_cannotTurn_26 rfl ?_
  refine tv_getR (r := 250) C dk_X9_cannotTurn_27 fl_RX9_9 (Nat.le_of_ble_eq_true rfl) rfl rfl (fun _ _ _ _ => rfl) ?_
  refine tv_iconst (v := 3) C dk_X9_cannotTurn_30 (by decide) ?_
  refine tv_iald (j := 3) rfl C dk_X9_cannotTurn_31 (Nat.le_of_ble_eq_true rfl) rfl (vp_in_nI (n := 3) (by decide) (by decide)) ?_
  refine tv_bipush (v := 50) C dk_X9_cannotTurn_32 (by decide) ?_
  refine tv_icmp_ge C dk_X9_cannotTurn_34 (fun h9 => ?_) (fun h9 => ?_)
  · have q23 := q22.1 h9
    refine tv_iconst (v := 1) C dk_X9_cannotTurn_59 (by decide) ?_
    refine tv_goto C dk_X9_cannotTurn_60 ?_
    exact tv_iret C hQ dk_X9_cannotTurn_64 rfl (by rw [f_X9_cannotTurn, if_pos h1, if_pos h5, if_pos h9]) rfl
  have q24 := q22.2 h9
  refine tv_aload_n C dk_X9_cannotTurn_37 rfl ?_
  refine tv_iload_n C dk_X9_cannotTurn_38 rfl ?_
  have q25 := q24.2
  refine tv_cV1 C dk_X9_cannotTurn_39 ml_RX9_110 yk_X9_locked yi_X9_locked (m_X9_locked _ M x2 q24.1) (Nat.le_of_ble_eq_true rfl) rfl rfl rfl rfl (Nat.le_of_ble_eq_true rfl) (Nat.le_of_ble_eq_true rfl) (Nat.le_of_ble_eq_true rfl) (Nat.le_of_ble_eq_true rfl) (Nat.le_of_ble_eq_true rfl) ?_
  refine tv_if_ne C dk_X9_cannotTurn_42 (fun h10 => ?_) (fun h10 => ?_)
  · have q26 := q25.2 h10
    refine tv_iconst (v := 1) C dk_X9_cannotTurn_59 (by decide) ?_
    refine tv_goto C dk_X9_cannotTurn_60 ?_
    exact tv_iret C hQ dk_X9_cannotTurn_64 rfl (by rw [f_X9_cannotTurn, if_pos h1, if_pos h5, if_neg h9, if_neg h10]) rfl
  have q27 := q25.1 h10
  refine tv_aload_n C dk_X9_cannotTurn_45 rfl ?_
  refine tv_iload_n C dk_X9_cannotTurn_46 rfl ?_
  refine tv_iconst (v := 3) C dk_X9_cannotTurn_47 (by decide) ?_
  have q28 := q27.2
  refine tv_cV1 C dk_X9_cannotTurn_48 ml_RX9_55 yk_X9_of yi_X9_of (m_X9_of _ M x1 3 q27.1) (Nat.le_of_ble_eq_true rfl) rfl rfl rfl rfl (Nat.le_of_ble_eq_true rfl) (Nat.le_of_ble_eq_true rfl) (Nat.le_of_ble_eq_true rfl) (Nat.le_of_ble_eq_true rfl) (Nat.le_of_ble_eq_true rfl) ?_
  refine tv_iconst (v := 2) C dk_X9_cannotTurn_51 (by decide) ?_
  refine tv_icmp_ge C dk_X9_cannotTurn_52 (fun h11 => ?_) (fun h11 => ?_)
  · have q29 := q28.1 h11
    refine tv_iconst (v := 1) C dk_X9_cannotTurn_59 (by decide) ?_
    refine tv_goto C dk_X9_cannotTurn_60 ?_
    exact tv_iret C hQ dk_X9_cannotTurn_64 rfl (by rw [f_X9_cannotTurn, if_pos h1, if_pos h5, if_neg h9, if_pos h10, if_pos h11]) rfl
  have q30 := q28.2 h11
  refine tv_iload_n C dk_X9_cannotTurn_55 rfl ?_
  refine tv_if_eq C dk_X9_cannotTurn_56 (fun h => absurd h (by decide)) (fun _ => ?_)
  refine tv_iconst (v := 1) C dk_X9_cannotTurn_59 (by decide) ?_
  refine tv_goto C dk_X9_cannotTurn_60 ?_
  exact tv_iret C hQ dk_X9_cannotTurn_64 rfl (by rw [f_X9_cannotTurn, if_pos h1, if_pos h5, if_neg h9, if_pos h10, if_neg h11]) rfl
theorem fz_X9_cannotTurn {M : tvM} {x1 : Int32} {x2 : Int32} : narrow .boolean (.int (f_X9_cannotTurn M x1 x2)) = .int (f_X9_cannotTurn M x1 x2) := by
  unfold f_X9_cannotTurn; repeat' split
  all_goals first | rfl
