/-- TideVault.changeCode(III)I -/
def f_X8_changeCode (M : tvM) (x1 : Int32) (x2 : Int32) (x3 : Int32) : Option String × Int32 × tvM := (if (f_X8_hearCode M (f_X6_refusalOfCode M 1 x1 x2 x3) x1).1 = none then (none, (f_X6_recode ((f_X8_hearCode M (f_X6_refusalOfCode M 1 x1 x2 x3) x1).2) 1 x1 x3).1, (f_X6_recode ((f_X8_hearCode M (f_X6_refusalOfCode M 1 x1 x2 x3) x1).2) 1 x1 x3).2) else ((f_X8_hearCode M (f_X6_refusalOfCode M 1 x1 x2 x3) x1).1, 0, (f_X8_hearCode M (f_X6_refusalOfCode M 1 x1 x2 x3) x1).2))
theorem m_X8_changeCode (G : tvG) (M : tvM) (x1 : Int32) (x2 : Int32) (x3 : Int32) : tvRun G yX8_changeCode cX8_changeCode 4 (some .int) 8 1 6 tvP0 tvP0 [.ref (G.2.1 + 0), .int x1, .int x2, .int x3] M (tvOx (some (.int (f_X8_changeCode M x1 x2 x3).2.1)) (f_X8_changeCode M x1 x2 x3).1) ((f_X8_changeCode M x1 x2 x3).2.2) := by
  refine tvRun.of yk_X8_changeCode rfl [some (.ref (G.2.1 + 0)), some (.int x1), some (.int x2), some (.int x3)] rfl (Nat.le_of_ble_eq_true rfl) ?_
  intro E hG C hQ; subst hG
  refine tv_aload_n C dk_X8_changeCode_0 rfl ?_
  refine tv_aload_n C dk_X8_changeCode_1 rfl ?_
  refine tv_getR (r := 1) C dk_X8_changeCode_2 fl_RX8_12 (Nat.le_of_ble_eq_true rfl) rfl rfl (fun _ _ _ _ => rfl) ?_
  refine tv_iload_n C dk_X8_changeCode_5 rfl ?_
  refine tv_iload_n C dk_X8_changeCode_6 rfl ?_
  refine tv_iload_n C dk_X8_changeCode_7 rfl ?_
  refine tv_cV1 C dk_X8_changeCode_8 ml_RX8_107 yk_X6_refusalOfCode yi_X6_refusalOfCode (m_X6_refusalOfCode _ M tvSBn_1 x1 x2 x3) (tvSB_sh tvSBn_1 0 (by decide)).2 (tvSB_sh tvSBn_1 0 (by decide)).1 rfl rfl rfl (Nat.le_of_ble_eq_true rfl) (Nat.le_of_ble_eq_true rfl) (Nat.le_of_ble_eq_true rfl) (Nat.le_of_ble_eq_true rfl) (Nat.le_of_ble_eq_true rfl) ?_
  refine tv_iload_n C dk_X8_changeCode_11 rfl ?_
  refine tv_cVx C dk_X8_changeCode_12 ml_RX8_99 yk_X8_hearCode yi_X8_hearCode (m_X8_hearCode _ M (f_X6_refusalOfCode M 1 x1 x2 x3) x1) (Nat.le_of_ble_eq_true rfl) rfl rfl rfl rfl (Nat.le_of_ble_eq_true rfl) (Nat.le_of_ble_eq_true rfl) (Nat.le_of_ble_eq_true rfl) (Nat.le_of_ble_eq_true rfl) (Nat.le_of_ble_eq_true rfl) rfl rfl rfl (fun _ h1e => tv_out C hQ (by rw [f_X8_changeCode, if_neg (tv_sn h1e)]; rw [h1e]; rfl) (by rw [f_X8_changeCode, if_neg (tv_sn h1e)])) (fun h1 => ?_)
  refine tv_aload_n C dk_X8_changeCode_15 rfl ?_
  refine tv_getR (r := 1) C dk_X8_changeCode_16 fl_RX8_12 (Nat.le_of_ble_eq_true rfl) rfl rfl (fun _ _ _ _ => rfl) ?_
  refine tv_iload_n C dk_X8_changeCode_19 rfl ?_
  refine tv_iload_n C dk_X8_changeCode_20 rfl ?_
  refine tv_cV1 C dk_X8_changeCode_21 ml_RX8_110 yk_X6_recode yi_X6_recode (m_X6_recode _ ((f_X8_hearCode M (f_X6_refusalOfCode M 1 x1 x2 x3) x1).2) tvSBn_1 x1 x3) (tvSB_sh tvSBn_1 0 (by decide)).2 (tvSB_sh tvSBn_1 0 (by decide)).1 rfl rfl rfl (Nat.le_of_ble_eq_true rfl) (Nat.le_of_ble_eq_true rfl) (Nat.le_of_ble_eq_true rfl) (Nat.le_of_ble_eq_true rfl) (Nat.le_of_ble_eq_true rfl) ?_
  exact tv_iret C hQ dk_X8_changeCode_24 rfl (by rw [f_X8_changeCode, if_pos h1]; rfl) (by rw [f_X8_changeCode, if_pos h1])
/-- TideVault.deposit(II)I -/
def f_X8_deposit (M : tvM) (x1 : Int32) (x2 : Int32) : Option String × Int32 × tvM := (if (f_X8_refuse M (f_X6_refusalOfPut M 1 x1 x2)).1 = none then (none, (f_X6_put (f_X1_keep M) 1 x1 x2).1, (f_X6_put (f_X1_keep M) 1 x1 x2).2) else ((f_X8_refuse M (f_X6_refusalOfPut M 1 x1 x2)).1, 0, M))
theorem m_X8_deposit (G : tvG) (M : tvM) (x1 : Int32) (x2 : Int32) : tvRun G yX8_deposit cX8_deposit 3 (some .int) 7 1 6 tvP0 tvP0 [.ref (G.2.1 + 0), .int x1, .int x2] M (tvOx (some (.int (f_X8_deposit M x1 x2).2.1)) (f_X8_deposit M x1 x2).1) ((f_X8_deposit M x1 x2).2.2) := by
  refine tvRun.of yk_X8_deposit rfl [some (.ref (G.2.1 + 0)), some (.int x1), some (.int x2)] rfl (Nat.le_of_ble_eq_true rfl) ?_
  intro E hG C hQ; subst hG
  refine tv_aload_n C dk_X8_deposit_0 rfl ?_
  refine tv_getR (r := 1) C dk_X8_deposit_1 fl_RX8_12 (Nat.le_of_ble_eq_true rfl) rfl rfl (fun _ _ _ _ => rfl) ?_
  refine tv_iload_n C dk_X8_deposit_4 rfl ?_
  refine tv_iload_n C dk_X8_deposit_5 rfl ?_
  refine tv_cV1 C dk_X8_deposit_6 ml_RX8_113 yk_X6_refusalOfPut yi_X6_refusalOfPut (m_X6_refusalOfPut _ M tvSBn_1 x1 x2) (tvSB_sh tvSBn_1 0 (by decide)).2 (tvSB_sh tvSBn_1 0 (by decide)).1 rfl rfl rfl (Nat.le_of_ble_eq_true rfl) (Nat.le_of_ble_eq_true rfl) (Nat.le_of_ble_eq_true rfl) (Nat.le_of_ble_eq_true rfl) (Nat.le_of_ble_eq_true rfl) ?_
  refine tv_cSx C dk_X8_deposit_9 ml_RX8_54 yk_X8_refuse yi_X8_refuse (n_X8_refuse _ M (f_X6_refusalOfPut M 1 x1 x2)) rfl rfl (Nat.le_of_ble_eq_true rfl) (Nat.le_of_ble_eq_true rfl) (Nat.le_of_ble_eq_true rfl) (Nat.le_of_ble_eq_true rfl) (Nat.le_of_ble_eq_true rfl) rfl rfl rfl (fun _ h1e => tv_out C hQ (by rw [f_X8_deposit, if_neg (tv_sn h1e)]; rw [h1e]; rfl) (by rw [f_X8_deposit, if_neg (tv_sn h1e)])) (fun h1 => ?_)
  refine tv_aload_n C dk_X8_deposit_12 rfl ?_
  refine tv_getR (r := 61) C dk_X8_deposit_13 fl_RX8_25 (Nat.le_of_ble_eq_true rfl) rfl rfl (fun _ _ _ _ => rfl) ?_
  refine tv_aload_n C dk_X8_deposit_16 rfl ?_
  refine tv_getR (r := 1) C dk_X8_deposit_17 fl_RX8_12 (Nat.le_of_ble_eq_true rfl) rfl rfl (fun _ _ _ _ => rfl) ?_
  refine tv_cV0 C dk_X8_deposit_20 ml_RX8_58 yk_X1_keep yi_X1_keep (m_X1_keep _ M) (Nat.le_of_ble_eq_true rfl) rfl rfl rfl rfl (Nat.le_of_ble_eq_true rfl) (Nat.le_of_ble_eq_true rfl) (Nat.le_of_ble_eq_true rfl) (Nat.le_of_ble_eq_true rfl) (Nat.le_of_ble_eq_true rfl) ?_
  refine tv_aload_n C dk_X8_deposit_23 rfl ?_
  refine tv_getR (r := 1) C dk_X8_deposit_24 fl_RX8_12 (Nat.le_of_ble_eq_true rfl) rfl rfl (fun _ _ _ _ => rfl) ?_
  refine tv_iload_n C dk_X8_deposit_27 rfl ?_
  refine tv_iload_n C dk_X8_deposit_28 rfl ?_
  refine tv_cV1 C dk_X8_deposit_29 ml_RX8_116 yk_X6_put yi_X6_put (m_X6_put _ (f_X1_keep M) tvSBn_1 x1 x2) (tvSB_sh tvSBn_1 0 (by decide)).2 (tvSB_sh tvSBn_1 0 (by decide)).1 rfl rfl rfl (Nat.le_of_ble_eq_true rfl) (Nat.le_of_ble_eq_true rfl) (Nat.le_of_ble_eq_true rfl) (Nat.le_of_ble_eq_true rfl) (Nat.le_of_ble_eq_true rfl) ?_
  exact tv_iret C hQ dk_X8_deposit_32 rfl (by rw [f_X8_deposit, if_pos h1]; rfl) (by rw [f_X8_deposit, if_pos h1])
/-- TideVault.withdraw(I)I -/
def f_X8_withdraw (M : tvM) (x1 : Int32) : Option String × Int32 × tvM := (if (f_X8_refuse M (f_X6_refusalOfTake M 1 x1)).1 = none then (none, (f_X6_take (f_X1_keep M) 1 x1).1, (f_X6_take (f_X1_keep M) 1 x1).2) else ((f_X8_refuse M (f_X6_refusalOfTake M 1 x1)).1, 0, M))
theorem m_X8_withdraw (G : tvG) (M : tvM) (x1 : Int32) : tvRun G yX8_withdraw cX8_withdraw 2 (some .int) 7 1 6 tvP0 tvP0 [.ref (G.2.1 + 0), .int x1] M (tvOx (some (.int (f_X8_withdraw M x1).2.1)) (f_X8_withdraw M x1).1) ((f_X8_withdraw M x1).2.2) := by
  refine tvRun.of yk_X8_withdraw rfl [some (.ref (G.2.1 + 0)), some (.int x1)] rfl (Nat.le_of_ble_eq_true rfl) ?_
  intro E hG C hQ; subst hG
  refine tv_aload_n C dk_X8_withdraw_0 rfl ?_
  refine tv_getR (r := 1) C dk_X8_withdraw_1 fl_RX8_12 (Nat.le_of_ble_eq_true rfl) rfl rfl (fun _ _ _ _ => rfl) ?_
  refine tv_iload_n C dk_X8_withdraw_4 rfl ?_
  refine tv_cV1 C dk_X8_withdraw_5 ml_RX8_119 yk_X6_refusalOfTake yi_X6_refusalOfTake (m_X6_refusalOfTake _ M tvSBn_1 x1) (tvSB_sh tvSBn_1 0 (by decide)).2 (tvSB_sh tvSBn_1 0 (by decide)).1 rfl rfl rfl (Nat.le_of_ble_eq_true rfl) (Nat.le_of_ble_eq_true rfl) (Nat.le_of_ble_eq_true rfl) (Nat.le_of_ble_eq_true rfl) (Nat.le_of_ble_eq_true rfl) ?_
  refine tv_cSx C dk_X8_withdraw_8 ml_RX8_54 yk_X8_refuse yi_X8_refuse (n_X8_refuse _ M (f_X6_refusalOfTake M 1 x1)) rfl rfl (Nat.le_of_ble_eq_true rfl) (Nat.le_of_ble_eq_true rfl) (Nat.le_of_ble_eq_true rfl) (Nat.le_of_ble_eq_true rfl) (Nat.le_of_ble_eq_true rfl) rfl rfl rfl (fun _ h1e => tv_out C hQ (by rw [f_X8_withdraw, if_neg (tv_sn h1e)]; rw [h1e]; rfl) (by rw [f_X8_withdraw, if_neg (tv_sn h1e)])) (fun h1 => ?_)
  refine tv_aload_n C dk_X8_withdraw_11 rfl ?_
  refine tv_getR (r := 61) C dk_X8_withdraw_12 fl_RX8_25 (Nat.le_of_ble_eq_true rfl) rfl rfl (fun _ _ _ _ => rfl) ?_
  refine tv_aload_n C dk_X8_withdraw_15 rfl ?_
  refine tv_getR (r := 1) C dk_X8_withdraw_16 fl_RX8_12 (Nat.le_of_ble_eq_true rfl) rfl rfl (fun _ _ _ _ => rfl) ?_
  refine tv_cV0 C dk_X8_withdraw_19 ml_RX8_58 yk_X1_keep yi_X1_keep (m_X1_keep _ M) (Nat.le_of_ble_eq_true rfl) rfl rfl rfl rfl (Nat.le_of_ble_eq_true rfl) (Nat.le_of_ble_eq_true rfl) (Nat.le_of_ble_eq_true rfl) (Nat.le_of_ble_eq_true rfl) (Nat.le_of_ble_eq_true rfl) ?_
  refine tv_aload_n C dk_X8_withdraw_22 rfl ?_
  refine tv_getR (r := 1) C dk_X8_withdraw_23 fl_RX8_12 (Nat.le_of_ble_eq_true rfl) rfl rfl (fun _ _ _ _ => rfl) ?_
  refine tv_iload_n C dk_X8_withdraw_26 rfl ?_
  refine tv_cV1 C dk_X8_withdraw_27 ml_RX8_122 yk_X6_take yi_X6_take (m_X6_take _ (f_X1_keep M) tvSBn_1 x1) (tvSB_sh tvSBn_1 0 (by decide)).2 (tvSB_sh tvSBn_1 0 (by decide)).1 rfl rfl rfl (Nat.le_of_ble_eq_true rfl) (Nat.le_of_ble_eq_true rfl) (Nat.le_of_ble_eq_true rfl) (Nat.le_of_ble_eq_true rfl) (Nat.le_of_ble_eq_true rfl) ?_
  exact tv_iret C hQ dk_X8_withdraw_30 rfl (by rw [f_X8_withdraw, if_pos h1]; rfl) (by rw [f_X8_withdraw, if_pos h1])
/-- TideVault.close(I)I -/
def f_X8_close (M : tvM) (x1 : Int32) : Option String × Int32 × tvM := (if (f_X8_refuse M (f_X6_refusalOfClose M 1 x1)).1 = none then (none, (f_X6_shut (f_X1_keep M) 1 x1).1, (f_X6_shut (f_X1_keep M) 1 x1).2) else ((f_X8_refuse M (f_X6_refusalOfClose M 1 x1)).1, 0, M))
theorem m_X8_close (G : tvG) (M : tvM) (x1 : Int32) : tvRun G yX8_close cX8_close 2 (some .int) 7 1 6 tvP0 tvP0 [.ref (G.2.1 + 0), .int x1] M (tvOx (some (.int (f_X8_close M x1).2.1)) (f_X8_close M x1).1) ((f_X8_close M x1).2.2) := by
  refine tvRun.of yk_X8_close rfl [some (.ref (G.2.1 + 0)), some (.int x1)] rfl (Nat.le_of_ble_eq_true rfl) ?_
  intro E hG C hQ; subst hG
  refine tv_aload_n C dk_X8_close_0 rfl ?_
  refine tv_getR (r := 1) C dk_X8_close_1 fl_RX8_12 (Nat.le_of_ble_eq_true rfl) rfl rfl (fun _ _ _ _ => rfl) ?_
  refine tv_iload_n C dk_X8_close_4 rfl ?_
  refine tv_cV1 C dk_X8_close_5 ml_RX8_125 yk_X6_refusalOfClose yi_X6_refusalOfClose (m_X6_refusalOfClose _ M tvSBn_1 x1) (tvSB_sh tvSBn_1 0 (by decide)).2 (tvSB_sh tvSBn_1 0 (by decide)).1 rfl rfl rfl (Nat.le_of_ble_eq_true rfl) (Nat.le_of_ble_eq_true rfl) (Nat.le_of_ble_eq_true rfl) (Nat.le_of_ble_eq_true rfl) (Nat.le_of_ble_eq_true rfl) ?_
  refine tv_cSx C dk_X8_close_8 ml_RX8_54 yk_X8_refuse yi_X8_refuse (n_X8_refuse _ M (f_X6_refusalOfClose M 1 x1)) rfl rfl (Nat.le_of_ble_eq_true rfl) (Nat.le_of_ble_eq_true rfl) (Nat.le_of_ble_eq_true rfl) (Nat.le_of_ble_eq_true rfl) (Nat.le_of_ble_eq_true rfl) rfl rfl rfl (fun _ h1e => tv_out C hQ (by rw [f_X8_close, if_neg (tv_sn h1e)]; rw [h1e]; rfl) (by rw [f_X8_close, if_neg (tv_sn h1e)])) (fun h1 => ?_)
  refine tv_aload_n C dk_X8_close_11 rfl ?_
  refine tv_getR (r := 61) C dk_X8_close_12 fl_RX8_25 (Nat.le_of_ble_eq_true rfl) rfl rfl (fun _ _ _ _ => rfl) ?_
  refine tv_aload_n C dk_X8_close_15 rfl ?_
  refine tv_getR (r := 1) C dk_X8_close_16 fl_RX8_12 (Nat.le_of_ble_eq_true rfl) rfl rfl (fun _ _ _ _ => rfl) ?_
  refine tv_cV0 C dk_X8_close_19 ml_RX8_58 yk_X1_keep yi_X1_keep (m_X1_keep _ M) (Nat.le_of_ble_eq_true rfl) rfl rfl rfl rfl (Nat.le_of_ble_eq_true rfl) (Nat.le_of_ble_eq_true rfl) (Nat.le_of_ble_eq_true rfl) (Nat.le_of_ble_eq_true rfl) (Nat.le_of_ble_eq_true rfl) ?_
  refine tv_aload_n C dk_X8_close_22 rfl ?_
  refine tv_getR (r := 1) C dk_X8_close_23 fl_RX8_12 (Nat.le_of_ble_eq_true rfl) rfl rfl (fun _ _ _ _ => rfl) ?_
  refine tv_iload_n C dk_X8_close_26 rfl ?_
  refine tv_cV1 C dk_X8_close_27 ml_RX8_128 yk_X6_shut yi_X6_shut (m_X6_shut _ (f_X1_keep M) tvSBn_1 x1) (tvSB_sh tvSBn_1 0 (by decide)).2 (tvSB_sh tvSBn_1 0 (by decide)).1 rfl rfl rfl (Nat.le_of_ble_eq_true rfl) (Nat.le_of_ble_eq_true rfl) (Nat.le_of_ble_eq_true rfl) (Nat.le_of_ble_eq_true rfl) (Nat.le_of_ble_eq_true rfl) ?_
  exact tv_iret C hQ dk_X8_close_30 rfl (by rw [f_X8_close, if_pos h1]; rfl) (by rw [f_X8_close, if_pos h1])
