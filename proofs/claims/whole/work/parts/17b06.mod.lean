/-- TideVaultModel.ofEvent(II)I -/
def f_X9_ofEvent (M : tvM) (x1 : Int32) (x2 : Int32) : Int32 × tvM := (if (f_X9_isIn M x1 0 ((tgi M 250 11) - 1)) = 0 then (0, (f_X9_isThrown M 1 1).2) else ((tgi ((f_X9_isThrown M 0 1).2) 250 ((166 + (3 * x1)) + x2).toNatClampNeg), (f_X9_isThrown M 0 1).2))
def q_X9_ofEvent (M : tvM) (x1 : Int32) (x2 : Int32) : Prop := (((f_X9_isIn M x1 0 ((tgi M 250 11) - 1)) = 0 → True) ∧ (¬ (f_X9_isIn M x1 0 ((tgi M 250 11) - 1)) = 0 → (vp_in ((166 + (3 * x1)) + x2) 202 ∧ True)))
theorem m_X9_ofEvent (G : tvG) (M : tvM) (x1 : Int32) (x2 : Int32) (hq : q_X9_ofEvent M x1 x2) : tvRun G yX9_ofEvent cX9_ofEvent 3 (some .int) 2 0 0 tvP0 tvP0 [.ref (G.2.1 + 249), .int x1, .int x2] M (.inl (some (.int (f_X9_ofEvent M x1 x2).1))) ((f_X9_ofEvent M x1 x2).2) := by
  refine tvRun.of yk_X9_ofEvent rfl [some (.ref (G.2.1 + 249)), some (.int x1), some (.int x2)] rfl (Nat.le_of_ble_eq_true rfl) ?_
  intro E hG C hQ; subst hG
  refine tv_aload_n C dk_X9_ofEvent_0 rfl ?_
  refine tv_iload_n C dk_X9_ofEvent_1 rfl ?_
  refine tv_iconst (v := 0) C dk_X9_ofEvent_2 (by decide) ?_
  refine tv_aload_n C dk_X9_ofEvent_3 rfl ?_
  refine tv_getR (r := 250) C dk_X9_ofEvent_4 fl_RX9_9 (Nat.le_of_ble_eq_true rfl) rfl rfl (fun _ _ _ _ => rfl) ?_
  refine tv_bipush (v := 11) C dk_X9_ofEvent_7 (by decide) ?_
  refine tv_iald (j := 11) rfl C dk_X9_ofEvent_9 (Nat.le_of_ble_eq_true rfl) rfl (vp_in_nI (n := 11) (by decide) (by decide)) ?_
  refine tv_iconst (v := 1) C dk_X9_ofEvent_10 (by decide) ?_
  refine tv_isub C dk_X9_ofEvent_11 ?_
  refine tv_cS1 C dk_X9_ofEvent_12 ml_RX9_51 yk_X9_isIn yi_X9_isIn (m_X9_isIn _ M x1 0 ((tgi M 250 11) - 1)) rfl rfl (Nat.le_of_ble_eq_true rfl) (Nat.le_of_ble_eq_true rfl) (Nat.le_of_ble_eq_true rfl) (Nat.le_of_ble_eq_true rfl) (Nat.le_of_ble_eq_true rfl) ?_
  refine tv_if_ne C dk_X9_ofEvent_15 (fun h1 => ?_) (fun h1 => ?_)
  · have q1 := hq.2 h1
    refine tv_iconst (v := 0) C dk_X9_ofEvent_22 (by decide) ?_
    refine tv_iconst (v := 1) C dk_X9_ofEvent_23 (by decide) ?_
    refine tv_cV1 C dk_X9_ofEvent_24 ml_RX9_62 yk_X9_isThrown yi_X9_isThrown (m_X9_isThrown _ M 0 1 (tv_qt0 _ _)) (Nat.le_of_ble_eq_true rfl) rfl rfl rfl rfl (Nat.le_of_ble_eq_true rfl) (Nat.le_of_ble_eq_true rfl) (Nat.le_of_ble_eq_true rfl) (Nat.le_of_ble_eq_true rfl) (Nat.le_of_ble_eq_true rfl) ?_
    refine tv_ti (v := 0) rfl ?_
    refine tv_if_eq C dk_X9_ofEvent_27 (fun _ => ?_) (fun h => absurd h (by decide))
    refine tv_aload_n C dk_X9_ofEvent_34 rfl ?_
    refine tv_getR (r := 250) C dk_X9_ofEvent_35 fl_RX9_9 (Nat.le_of_ble_eq_true rfl) rfl rfl (fun _ _ _ _ => rfl) ?_
    refine tv_sipush (v := 166) C dk_X9_ofEvent_38 (by decide) ?_
    refine tv_iconst (v := 3) C dk_X9_ofEvent_41 (by decide) ?_
    refine tv_iload_n C dk_X9_ofEvent_42 rfl ?_
    refine tv_imul C dk_X9_ofEvent_43 ?_
    refine tv_iadd C dk_X9_ofEvent_44 ?_
    refine tv_iload_n C dk_X9_ofEvent_45 rfl ?_
    refine tv_iadd C dk_X9_ofEvent_46 ?_
    have q2 := q1.2
    refine tv_iald (j := ((166 + (3 * x1)) + x2).toNatClampNeg) rfl C dk_X9_ofEvent_47 (Nat.le_of_ble_eq_true rfl) rfl q1.1 ?_
    exact tv_iret C hQ dk_X9_ofEvent_48 rfl (by rw [f_X9_ofEvent, if_neg h1]) (by rw [f_X9_ofEvent, if_neg h1])
  have q3 := hq.1 h1
  refine tv_iconst (v := 1) C dk_X9_ofEvent_18 (by decide) ?_
  refine tv_goto C dk_X9_ofEvent_19 ?_
  refine tv_iconst (v := 1) C dk_X9_ofEvent_23 (by decide) ?_
  refine tv_cV1 C dk_X9_ofEvent_24 ml_RX9_62 yk_X9_isThrown yi_X9_isThrown (m_X9_isThrown _ M 1 1 (tv_qt1 _ _)) (Nat.le_of_ble_eq_true rfl) rfl rfl rfl rfl (Nat.le_of_ble_eq_true rfl) (Nat.le_of_ble_eq_true rfl) (Nat.le_of_ble_eq_true rfl) (Nat.le_of_ble_eq_true rfl) (Nat.le_of_ble_eq_true rfl) ?_
  refine tv_ti (v := 1) rfl ?_
  refine tv_if_eq C dk_X9_ofEvent_27 (fun h => absurd h (by decide)) (fun _ => ?_)
  refine tv_iconst (v := 0) C dk_X9_ofEvent_30 (by decide) ?_
  refine tv_goto C dk_X9_ofEvent_31 ?_
  exact tv_iret C hQ dk_X9_ofEvent_48 rfl (by rw [f_X9_ofEvent, if_pos h1]) (by rw [f_X9_ofEvent, if_pos h1])
/-- TideVaultModel.eventKind(I)C -/
def f_X9_eventKind (M : tvM) (x1 : Int32) : Int32 × tvM := ((((f_X9_ofEvent M x1 0).1).toUInt32 % 65536).toInt32, (f_X9_ofEvent M x1 0).2)
def q_X9_eventKind (M : tvM) (x1 : Int32) : Prop := ((q_X9_ofEvent M x1 0) ∧ True)
theorem m_X9_eventKind (G : tvG) (M : tvM) (x1 : Int32) (hq : q_X9_eventKind M x1) : tvRun G yX9_eventKind cX9_eventKind 2 (some .char) 3 0 0 tvP0 tvP0 [.ref (G.2.1 + 249), .int x1] M (.inl (some (.int (f_X9_eventKind M x1).1))) ((f_X9_eventKind M x1).2) := by
  refine tvRun.of yk_X9_eventKind rfl [some (.ref (G.2.1 + 249)), some (.int x1)] rfl (Nat.le_of_ble_eq_true rfl) ?_
  intro E hG C hQ; subst hG
  refine tv_aload_n C dk_X9_eventKind_0 rfl ?_
  refine tv_iload_n C dk_X9_eventKind_1 rfl ?_
  refine tv_iconst (v := 0) C dk_X9_eventKind_2 (by decide) ?_
  have q1 := hq.2
  refine tv_cV1 C dk_X9_eventKind_3 ml_RX9_177 yk_X9_ofEvent yi_X9_ofEvent (m_X9_ofEvent _ M x1 0 hq.1) (Nat.le_of_ble_eq_true rfl) rfl rfl rfl rfl (Nat.le_of_ble_eq_true rfl) (Nat.le_of_ble_eq_true rfl) (Nat.le_of_ble_eq_true rfl) (Nat.le_of_ble_eq_true rfl) (Nat.le_of_ble_eq_true rfl) ?_
  refine tv_i2c C dk_X9_eventKind_6 ?_
  exact tv_iret C hQ dk_X9_eventKind_7 (pk_nc _) (by rw [f_X9_eventKind]) (by rw [f_X9_eventKind])
theorem fz_X9_eventKind {M : tvM} {x1 : Int32} : narrow .char (.int (f_X9_eventKind M x1).1) = .int ((f_X9_eventKind M x1).1) := by
  unfold f_X9_eventKind; repeat' split
  all_goals try dsimp only
  all_goals first | rfl | exact (pk_nc _)
/-- TideVaultModel.eventTime(I)I -/
def f_X9_eventTime (M : tvM) (x1 : Int32) : Int32 × tvM := ((f_X9_ofEvent M x1 1).1, (f_X9_ofEvent M x1 1).2)
def q_X9_eventTime (M : tvM) (x1 : Int32) : Prop := ((q_X9_ofEvent M x1 1) ∧ True)
theorem m_X9_eventTime (G : tvG) (M : tvM) (x1 : Int32) (hq : q_X9_eventTime M x1) : tvRun G yX9_eventTime cX9_eventTime 2 (some .int) 3 0 0 tvP0 tvP0 [.ref (G.2.1 + 249), .int x1] M (.inl (some (.int (f_X9_eventTime M x1).1))) ((f_X9_eventTime M x1).2) := by
  refine tvRun.of yk_X9_eventTime rfl [some (.ref (G.2.1 + 249)), some (.int x1)] rfl (Nat.le_of_ble_eq_true rfl) ?_
  intro E hG C hQ; subst hG
  refine tv_aload_n C dk_X9_eventTime_0 rfl ?_
  refine tv_iload_n C dk_X9_eventTime_1 rfl ?_
  refine tv_iconst (v := 1) C dk_X9_eventTime_2 (by decide) ?_
  have q1 := hq.2
  refine tv_cV1 C dk_X9_eventTime_3 ml_RX9_177 yk_X9_ofEvent yi_X9_ofEvent (m_X9_ofEvent _ M x1 1 hq.1) (Nat.le_of_ble_eq_true rfl) rfl rfl rfl rfl (Nat.le_of_ble_eq_true rfl) (Nat.le_of_ble_eq_true rfl) (Nat.le_of_ble_eq_true rfl) (Nat.le_of_ble_eq_true rfl) (Nat.le_of_ble_eq_true rfl) ?_
  exact tv_iret C hQ dk_X9_eventTime_6 rfl (by rw [f_X9_eventTime]) (by rw [f_X9_eventTime])
/-- TideVaultModel.eventNumber(I)I -/
def f_X9_eventNumber (M : tvM) (x1 : Int32) : Int32 × tvM := ((f_X9_ofEvent M x1 2).1, (f_X9_ofEvent M x1 2).2)
def q_X9_eventNumber (M : tvM) (x1 : Int32) : Prop := ((q_X9_ofEvent M x1 2) ∧ True)
theorem m_X9_eventNumber (G : tvG) (M : tvM) (x1 : Int32) (hq : q_X9_eventNumber M x1) : tvRun G yX9_eventNumber cX9_eventNumber 2 (some .int) 3 0 0 tvP0 tvP0 [.ref (G.2.1 + 249), .int x1] M (.inl (some (.int (f_X9_eventNumber M x1).1))) ((f_X9_eventNumber M x1).2) := by
  refine tvRun.of yk_X9_eventNumber rfl [some (.ref (G.2.1 + 249)), some (.int x1)] rfl (Nat.le_of_ble_eq_true rfl) ?_
  intro E hG C hQ; subst hG
  refine tv_aload_n C dk_X9_eventNumber_0 rfl ?_
  refine tv_iload_n C dk_X9_eventNumber_1 rfl ?_
  refine tv_iconst (v := 2) C dk_X9_eventNumber_2 (by decide) ?_
  have q1 := hq.2
  refine tv_cV1 C dk_X9_eventNumber_3 ml_RX9_177 yk_X9_ofEvent yi_X9_ofEvent (m_X9_ofEvent _ M x1 2 hq.1) (Nat.le_of_ble_eq_true rfl) rfl rfl rfl rfl (Nat.le_of_ble_eq_true rfl) (Nat.le_of_ble_eq_true rfl) (Nat.le_of_ble_eq_true rfl) (Nat.le_of_ble_eq_true rfl) (Nat.le_of_ble_eq_true rfl) ?_
  exact tv_iret C hQ dk_X9_eventNumber_6 rfl (by rw [f_X9_eventNumber]) (by rw [f_X9_eventNumber])
/-- TideVaultModel.puts(I)V -/
def f_X9_puts (M : tvM) (x1 : Int32) : tvM := (tpi (tpi M 254 (tgi M 249 12).toNatClampNeg x1) 249 12 ((tgi (tpi M 254 (tgi M 249 12).toNatClampNeg x1) 249 12) + 1))
def q_X9_puts (M : tvM) (x1 : Int32) : Prop := (vp_in (tgi M 249 12) 60 ∧ True)
theorem m_X9_puts (G : tvG) (M : tvM) (x1 : Int32) (hq : q_X9_puts M x1) : tvRun G yX9_puts cX9_puts 2 none 1 0 0 tvP0 tvP0 [.ref (G.2.1 + 249), .int x1] M (.inl none) (f_X9_puts M x1) := by
  refine tvRun.of yk_X9_puts rfl [some (.ref (G.2.1 + 249)), some (.int x1)] rfl (Nat.le_of_ble_eq_true rfl) ?_
  intro E hG C hQ; subst hG
  refine tv_aload_n C dk_X9_puts_0 rfl ?_
  refine tv_getR (r := 254) C dk_X9_puts_1 fl_RX9_29 (Nat.le_of_ble_eq_true rfl) rfl rfl (fun _ _ _ _ => rfl) ?_
  refine tv_aload_n C dk_X9_puts_4 rfl ?_
  refine tv_getI C dk_X9_puts_5 fl_RX9_187 (Nat.le_of_ble_eq_true rfl) rfl (fun _ _ _ _ => rfl) ?_
  refine tv_iload_n C dk_X9_puts_8 rfl ?_
  have q1 := hq.2
  refine tv_iast (j := (tgi M 249 12).toNatClampNeg) rfl C tvP0_ex dk_X9_puts_9 (Nat.le_of_ble_eq_true rfl) rfl hq.1 ?_
  refine tv_aload_n C dk_X9_puts_10 rfl ?_
  refine tv_dup C dk_X9_puts_11 rfl ?_
  refine tv_getI C dk_X9_puts_12 fl_RX9_187 (Nat.le_of_ble_eq_true rfl) rfl (fun _ _ _ _ => rfl) ?_
  refine tv_iconst (v := 1) C dk_X9_puts_15 (by decide) ?_
  refine tv_iadd C dk_X9_puts_16 ?_
  refine tv_putI C tvP0_ex dk_X9_puts_17 fl_RX9_187 fw_9_12 (Nat.le_of_ble_eq_true rfl) rfl rfl (fun _ _ _ _ _ => rfl) rfl rfl ?_
  exact tv_vret C hQ dk_X9_puts_20 rfl (by rw [f_X9_puts])
/-- TideVaultModel.charAt(I)C -/
def f_X9_charAt (M : tvM) (x1 : Int32) : Int32 × tvM := (if (f_X9_isIn M x1 0 ((tgi M 249 12) - 1)) = 0 then (0, (f_X9_isThrown M 1 1).2) else (((tgi ((f_X9_isThrown M 0 1).2) 254 x1.toNatClampNeg).toUInt32 % 65536).toInt32, (f_X9_isThrown M 0 1).2))
def q_X9_charAt (M : tvM) (x1 : Int32) : Prop := (((f_X9_isIn M x1 0 ((tgi M 249 12) - 1)) = 0 → True) ∧ (¬ (f_X9_isIn M x1 0 ((tgi M 249 12) - 1)) = 0 → (vp_in x1 60 ∧ True)))
theorem m_X9_charAt (G : tvG) (M : tvM) (x1 : Int32) (hq : q_X9_charAt M x1) : tvRun G yX9_charAt cX9_charAt 2 (some .char) 2 0 0 tvP0 tvP0 [.ref (G.2.1 + 249), .int x1] M (.inl (some (.int (f_X9_charAt M x1).1))) ((f_X9_charAt M x1).2) := by
  refine tvRun.of yk_X9_charAt rfl [some (.ref (G.2.1 + 249)), some (.int x1)] rfl (Nat.le_of_ble_eq_true rfl) ?_
  intro E hG C hQ; subst hG
  refine tv_aload_n C dk_X9_charAt_0 rfl ?_
  refine tv_iload_n C dk_X9_charAt_1 rfl ?_
  refine tv_iconst (v := 0) C dk_X9_charAt_2 (by decide) ?_
  refine tv_aload_n C dk_X9_charAt_3 rfl ?_
  refine tv_getI C dk_X9_charAt_4 fl_RX9_187 (Nat.le_of_ble_eq_true rfl) rfl (fun _ _ _ _ => rfl) ?_
  refine tv_iconst (v := 1) C dk_X9_charAt_7 (by decide) ?_
  refine tv_isub C dk_X9_charAt_8 ?_
  refine tv_cS1 C dk_X9_charAt_9 ml_RX9_51 yk_X9_isIn yi_X9_isIn (m_X9_isIn _ M x1 0 ((tgi M 249 12) - 1)) rfl rfl (Nat.le_of_ble_eq_true rfl) (Nat.le_of_ble_eq_true rfl) (Nat.le_of_ble_eq_true rfl) (Nat.le_of_ble_eq_true rfl) (Nat.le_of_ble_eq_true rfl) ?_
  refine tv_if_ne C dk_X9_charAt_12 (fun h1 => ?_) (fun h1 => ?_)
  · have q1 := hq.2 h1
    refine tv_iconst (v := 0) C dk_X9_charAt_19 (by decide) ?_
    refine tv_iconst (v := 1) C dk_X9_charAt_20 (by decide) ?_
    refine tv_cV1 C dk_X9_charAt_21 ml_RX9_62 yk_X9_isThrown yi_X9_isThrown (m_X9_isThrown _ M 0 1 (tv_qt0 _ _)) (Nat.le_of_ble_eq_true rfl) rfl rfl rfl rfl (Nat.le_of_ble_eq_true rfl) (Nat.le_of_ble_eq_true rfl) (Nat.le_of_ble_eq_true rfl) (Nat.le_of_ble_eq_true rfl) (Nat.le_of_ble_eq_true rfl) ?_
    refine tv_ti (v := 0) rfl ?_
    refine tv_if_eq C dk_X9_charAt_24 (fun _ => ?_) (fun h => absurd h (by decide))
    refine tv_aload_n C dk_X9_charAt_31 rfl ?_
    refine tv_getR (r := 254) C dk_X9_charAt_32 fl_RX9_29 (Nat.le_of_ble_eq_true rfl) rfl rfl (fun _ _ _ _ => rfl) ?_
    refine tv_iload_n C dk_X9_charAt_35 rfl ?_
    have q2 := q1.2
    refine tv_iald (j := x1.toNatClampNeg) rfl C dk_X9_charAt_36 (Nat.le_of_ble_eq_true rfl) rfl q1.1 ?_
    refine tv_i2c C dk_X9_charAt_37 ?_
    exact tv_iret C hQ dk_X9_charAt_38 (pk_nc _) (by rw [f_X9_charAt, if_neg h1]) (by rw [f_X9_charAt, if_neg h1])
  have q3 := hq.1 h1
  refine tv_iconst (v := 1) C dk_X9_charAt_15 (by decide) ?_
  refine tv_goto C dk_X9_charAt_16 ?_
  refine tv_iconst (v := 1) C dk_X9_charAt_20 (by decide) ?_
  refine tv_cV1 C dk_X9_charAt_21 ml_RX9_62 yk_X9_isThrown yi_X9_isThrown (m_X9_isThrown _ M 1 1 (tv_qt1 _ _)) (Nat.le_of_ble_eq_true rfl) rfl rfl rfl rfl (Nat.le_of_ble_eq_true rfl) (Nat.le_of_ble_eq_true rfl) (Nat.le_of_ble_eq_true rfl) (Nat.le_of_ble_eq_true rfl) (Nat.le_of_ble_eq_true rfl) ?_
  refine tv_ti (v := 1) rfl ?_
  refine tv_if_eq C dk_X9_charAt_24 (fun h => absurd h (by decide)) (fun _ => ?_)
  refine tv_iconst (v := 0) C dk_X9_charAt_27 (by decide) ?_
  refine tv_goto C dk_X9_charAt_28 ?_
  exact tv_iret C hQ dk_X9_charAt_38 rfl (by rw [f_X9_charAt, if_pos h1]) (by rw [f_X9_charAt, if_pos h1])
theorem fz_X9_charAt {M : tvM} {x1 : Int32} : narrow .char (.int (f_X9_charAt M x1).1) = .int ((f_X9_charAt M x1).1) := by
  unfold f_X9_charAt; repeat' split
  all_goals try dsimp only
  all_goals first | rfl | exact (pk_nc _)
