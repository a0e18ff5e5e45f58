/-- TideVaultModel.deposit(II)I -/
def f_X9_deposit (M : tvM) (x1 : Int32) (x2 : Int32) : Int32 × tvM := ((f_X9_ends ((f_X9_deposits (f_X9_keeps M) x1 x2).2) ((f_X9_deposits (f_X9_keeps M) x1 x2).1)).1, (f_X9_ends ((f_X9_deposits (f_X9_keeps M) x1 x2).2) ((f_X9_deposits (f_X9_keeps M) x1 x2).1)).2)
def q_X9_deposit (M : tvM) (x1 : Int32) (x2 : Int32) : Prop := ((q_X9_deposits (f_X9_keeps M) x1 x2) ∧ ((q_X9_ends ((f_X9_deposits (f_X9_keeps M) x1 x2).2) ((f_X9_deposits (f_X9_keeps M) x1 x2).1)) ∧ True))
theorem m_X9_deposit (G : tvG) (M : tvM) (x1 : Int32) (x2 : Int32) (hq : q_X9_deposit M x1 x2) : tvRun G yX9_deposit cX9_deposit 3 (some .int) 4 0 0 tvP0 tvP0 [.ref (G.2.1 + 249), .int x1, .int x2] M (.inl (some (.int (f_X9_deposit M x1 x2).1))) ((f_X9_deposit M x1 x2).2) := by
  refine tvRun.of yk_X9_deposit rfl [some (.ref (G.2.1 + 249)), some (.int x1), some (.int x2)] rfl (Nat.le_of_ble_eq_true rfl) ?_
  intro E hG C hQ; subst hG
  refine tv_aload_n C dk_X9_deposit_0 rfl ?_
  refine tv_cV0 C dk_X9_deposit_1 ml_RX9_70 yk_X9_keeps yi_X9_keeps (m_X9_keeps _ M) (Nat.le_of_ble_eq_true rfl) rfl rfl rfl rfl (Nat.le_of_ble_eq_true rfl) (Nat.le_of_ble_eq_true rfl) (Nat.le_of_ble_eq_true rfl) (Nat.le_of_ble_eq_true rfl) (Nat.le_of_ble_eq_true rfl) ?_
  refine tv_aload_n C dk_X9_deposit_4 rfl ?_
  refine tv_aload_n C dk_X9_deposit_5 rfl ?_
  refine tv_iload_n C dk_X9_deposit_6 rfl ?_
  refine tv_iload_n C dk_X9_deposit_7 rfl ?_
  have q1 := hq.2
  refine tv_cV1 C dk_X9_deposit_8 ml_RX9_144 yk_X9_deposits yi_X9_deposits (m_X9_deposits _ (f_X9_keeps M) x1 x2 hq.1) (Nat.le_of_ble_eq_true rfl) rfl rfl rfl rfl (Nat.le_of_ble_eq_true rfl) (Nat.le_of_ble_eq_true rfl) (Nat.le_of_ble_eq_true rfl) (Nat.le_of_ble_eq_true rfl) (Nat.le_of_ble_eq_true rfl) ?_
  have q2 := q1.2
  refine tv_cV1 C dk_X9_deposit_11 ml_RX9_77 yk_X9_ends yi_X9_ends (m_X9_ends _ ((f_X9_deposits (f_X9_keeps M) x1 x2).2) ((f_X9_deposits (f_X9_keeps M) x1 x2).1) q1.1) (Nat.le_of_ble_eq_true rfl) rfl rfl rfl rfl (Nat.le_of_ble_eq_true rfl) (Nat.le_of_ble_eq_true rfl) (Nat.le_of_ble_eq_true rfl) (Nat.le_of_ble_eq_true rfl) (Nat.le_of_ble_eq_true rfl) ?_
  exact tv_iret C hQ dk_X9_deposit_14 rfl (by rw [f_X9_deposit]) (by rw [f_X9_deposit])
/-- TideVaultModel.withdraw(I)I -/
def f_X9_withdraw (M : tvM) (x1 : Int32) : Int32 × tvM := ((f_X9_ends ((f_X9_withdraws (f_X9_keeps M) x1).2) ((f_X9_withdraws (f_X9_keeps M) x1).1)).1, (f_X9_ends ((f_X9_withdraws (f_X9_keeps M) x1).2) ((f_X9_withdraws (f_X9_keeps M) x1).1)).2)
def q_X9_withdraw (M : tvM) (x1 : Int32) : Prop := ((q_X9_withdraws (f_X9_keeps M) x1) ∧ ((q_X9_ends ((f_X9_withdraws (f_X9_keeps M) x1).2) ((f_X9_withdraws (f_X9_keeps M) x1).1)) ∧ True))
theorem m_X9_withdraw (G : tvG) (M : tvM) (x1 : Int32) (hq : q_X9_withdraw M x1) : tvRun G yX9_withdraw cX9_withdraw 2 (some .int) 4 0 0 tvP0 tvP0 [.ref (G.2.1 + 249), .int x1] M (.inl (some (.int (f_X9_withdraw M x1).1))) ((f_X9_withdraw M x1).2) := by
  refine tvRun.of yk_X9_withdraw rfl [some (.ref (G.2.1 + 249)), some (.int x1)] rfl (Nat.le_of_ble_eq_true rfl) ?_
  intro E hG C hQ; subst hG
  refine tv_aload_n C dk_X9_withdraw_0 rfl ?_
  refine tv_cV0 C dk_X9_withdraw_1 ml_RX9_70 yk_X9_keeps yi_X9_keeps (m_X9_keeps _ M) (Nat.le_of_ble_eq_true rfl) rfl rfl rfl rfl (Nat.le_of_ble_eq_true rfl) (Nat.le_of_ble_eq_true rfl) (Nat.le_of_ble_eq_true rfl) (Nat.le_of_ble_eq_true rfl) (Nat.le_of_ble_eq_true rfl) ?_
  refine tv_aload_n C dk_X9_withdraw_4 rfl ?_
  refine tv_aload_n C dk_X9_withdraw_5 rfl ?_
  refine tv_iload_n C dk_X9_withdraw_6 rfl ?_
  have q1 := hq.2
  refine tv_cV1 C dk_X9_withdraw_7 ml_RX9_147 yk_X9_withdraws yi_X9_withdraws (n_X9_withdraws _ (f_X9_keeps M) x1 hq.1) (Nat.le_of_ble_eq_true rfl) rfl rfl rfl rfl (Nat.le_of_ble_eq_true rfl) (Nat.le_of_ble_eq_true rfl) (Nat.le_of_ble_eq_true rfl) (Nat.le_of_ble_eq_true rfl) (Nat.le_of_ble_eq_true rfl) ?_
  have q2 := q1.2
  refine tv_cV1 C dk_X9_withdraw_10 ml_RX9_77 yk_X9_ends yi_X9_ends (m_X9_ends _ ((f_X9_withdraws (f_X9_keeps M) x1).2) ((f_X9_withdraws (f_X9_keeps M) x1).1) q1.1) (Nat.le_of_ble_eq_true rfl) rfl rfl rfl rfl (Nat.le_of_ble_eq_true rfl) (Nat.le_of_ble_eq_true rfl) (Nat.le_of_ble_eq_true rfl) (Nat.le_of_ble_eq_true rfl) (Nat.le_of_ble_eq_true rfl) ?_
  exact tv_iret C hQ dk_X9_withdraw_13 rfl (by rw [f_X9_withdraw]) (by rw [f_X9_withdraw])
/-- TideVaultModel.close(I)I -/
def f_X9_close (M : tvM) (x1 : Int32) : Int32 × tvM := ((f_X9_ends ((f_X9_closes (f_X9_keeps M) x1).2) ((f_X9_closes (f_X9_keeps M) x1).1)).1, (f_X9_ends ((f_X9_closes (f_X9_keeps M) x1).2) ((f_X9_closes (f_X9_keeps M) x1).1)).2)
def q_X9_close (M : tvM) (x1 : Int32) : Prop := ((q_X9_closes (f_X9_keeps M) x1) ∧ ((q_X9_ends ((f_X9_closes (f_X9_keeps M) x1).2) ((f_X9_closes (f_X9_keeps M) x1).1)) ∧ True))
theorem m_X9_close (G : tvG) (M : tvM) (x1 : Int32) (hq : q_X9_close M x1) : tvRun G yX9_close cX9_close 2 (some .int) 4 0 0 tvP0 tvP0 [.ref (G.2.1 + 249), .int x1] M (.inl (some (.int (f_X9_close M x1).1))) ((f_X9_close M x1).2) := by
  refine tvRun.of yk_X9_close rfl [some (.ref (G.2.1 + 249)), some (.int x1)] rfl (Nat.le_of_ble_eq_true rfl) ?_
  intro E hG C hQ; subst hG
  refine tv_aload_n C dk_X9_close_0 rfl ?_
  refine tv_cV0 C dk_X9_close_1 ml_RX9_70 yk_X9_keeps yi_X9_keeps (m_X9_keeps _ M) (Nat.le_of_ble_eq_true rfl) rfl rfl rfl rfl (Nat.le_of_ble_eq_true rfl) (Nat.le_of_ble_eq_true rfl) (Nat.le_of_ble_eq_true rfl) (Nat.le_of_ble_eq_true rfl) (Nat.le_of_ble_eq_true rfl) ?_
  refine tv_aload_n C dk_X9_close_4 rfl ?_
  refine tv_aload_n C dk_X9_close_5 rfl ?_
  refine tv_iload_n C dk_X9_close_6 rfl ?_
  have q1 := hq.2
  refine tv_cV1 C dk_X9_close_7 ml_RX9_153 yk_X9_closes yi_X9_closes (m_X9_closes _ (f_X9_keeps M) x1 hq.1) (Nat.le_of_ble_eq_true rfl) rfl rfl rfl rfl (Nat.le_of_ble_eq_true rfl) (Nat.le_of_ble_eq_true rfl) (Nat.le_of_ble_eq_true rfl) (Nat.le_of_ble_eq_true rfl) (Nat.le_of_ble_eq_true rfl) ?_
  have q2 := q1.2
  refine tv_cV1 C dk_X9_close_10 ml_RX9_77 yk_X9_ends yi_X9_ends (m_X9_ends _ ((f_X9_closes (f_X9_keeps M) x1).2) ((f_X9_closes (f_X9_keeps M) x1).1) q1.1) (Nat.le_of_ble_eq_true rfl) rfl rfl rfl rfl (Nat.le_of_ble_eq_true rfl) (Nat.le_of_ble_eq_true rfl) (Nat.le_of_ble_eq_true rfl) (Nat.le_of_ble_eq_true rfl) (Nat.le_of_ble_eq_true rfl) ?_
  exact tv_iret C hQ dk_X9_close_13 rfl (by rw [f_X9_close]) (by rw [f_X9_close])
/-- TideVaultModel.pass(I)I -/
def f_X9_pass (M : tvM) (x1 : Int32) : Int32 × tvM := ((f_X9_ends ((f_X9_waits (f_X9_keeps M) x1).2) ((f_X9_waits (f_X9_keeps M) x1).1)).1, (f_X9_ends ((f_X9_waits (f_X9_keeps M) x1).2) ((f_X9_waits (f_X9_keeps M) x1).1)).2)
def q_X9_pass (M : tvM) (x1 : Int32) : Prop := ((q_X9_waits (f_X9_keeps M) x1) ∧ ((q_X9_ends ((f_X9_waits (f_X9_keeps M) x1).2) ((f_X9_waits (f_X9_keeps M) x1).1)) ∧ True))
theorem m_X9_pass (G : tvG) (M : tvM) (x1 : Int32) (hq : q_X9_pass M x1) : tvRun G yX9_pass cX9_pass 2 (some .int) 5 0 0 tvP0 tvP0 [.ref (G.2.1 + 249), .int x1] M (.inl (some (.int (f_X9_pass M x1).1))) ((f_X9_pass M x1).2) := by
  refine tvRun.of yk_X9_pass rfl [some (.ref (G.2.1 + 249)), some (.int x1)] rfl (Nat.le_of_ble_eq_true rfl) ?_
  intro E hG C hQ; subst hG
  refine tv_aload_n C dk_X9_pass_0 rfl ?_
  refine tv_cV0 C dk_X9_pass_1 ml_RX9_70 yk_X9_keeps yi_X9_keeps (m_X9_keeps _ M) (Nat.le_of_ble_eq_true rfl) rfl rfl rfl rfl (Nat.le_of_ble_eq_true rfl) (Nat.le_of_ble_eq_true rfl) (Nat.le_of_ble_eq_true rfl) (Nat.le_of_ble_eq_true rfl) (Nat.le_of_ble_eq_true rfl) ?_
  refine tv_aload_n C dk_X9_pass_4 rfl ?_
  refine tv_aload_n C dk_X9_pass_5 rfl ?_
  refine tv_iload_n C dk_X9_pass_6 rfl ?_
  have q1 := hq.2
  refine tv_cV1 C dk_X9_pass_7 ml_RX9_162 yk_X9_waits yi_X9_waits (n_X9_waits _ (f_X9_keeps M) x1 hq.1) (Nat.le_of_ble_eq_true rfl) rfl rfl rfl rfl (Nat.le_of_ble_eq_true rfl) (Nat.le_of_ble_eq_true rfl) (Nat.le_of_ble_eq_true rfl) (Nat.le_of_ble_eq_true rfl) (Nat.le_of_ble_eq_true rfl) ?_
  have q2 := q1.2
  refine tv_cV1 C dk_X9_pass_10 ml_RX9_77 yk_X9_ends yi_X9_ends (m_X9_ends _ ((f_X9_waits (f_X9_keeps M) x1).2) ((f_X9_waits (f_X9_keeps M) x1).1) q1.1) (Nat.le_of_ble_eq_true rfl) rfl rfl rfl rfl (Nat.le_of_ble_eq_true rfl) (Nat.le_of_ble_eq_true rfl) (Nat.le_of_ble_eq_true rfl) (Nat.le_of_ble_eq_true rfl) (Nat.le_of_ble_eq_true rfl) ?_
  exact tv_iret C hQ dk_X9_pass_13 rfl (by rw [f_X9_pass]) (by rw [f_X9_pass])
