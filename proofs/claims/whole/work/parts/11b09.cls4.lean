/-- TideVault.withdraw(I)I -/
def f_X8_withdraw (M : tvM) (x1 : Int32) : Option String × Int32 × tvM := (if (f_X8_refuse M (f_X6_refusalOfTake M 1 x1)).1 = none then (none, (f_X6_take (f_X1_keep M) 1 x1).1, (f_X6_take (f_X1_keep M) 1 x1).2) else ((f_X8_refuse M (f_X6_refusalOfTake M 1 x1)).1, 0, M))
theorem m_X8_withdraw (G : tvG) (M : tvM) (x1 : Int32) : tvRun G yX8_withdraw cX8_withdraw 2 (some .int) 7 1 6 tvP0 tvP0 [.ref (G.2.1 + 0), .int x1] M (tvOx (some (.int (f_X8_withdraw M x1).2.1)) (f_X8_withdraw M x1).1) ((f_X8_withdraw M x1).2.2) := by
  refine tvRun.of yk_X8_withdraw rfl [some (.ref (G.2.1 + 0)), some (.int x1)] rfl (Nat.le_of_ble_eq_true rfl) ?_
  intro E hG C hQ; subst hG
  refine tv_aload_n C dk_X8_withdraw_0 rfl ?_
  refine tv_getR (r := 1) C dk_X8_withdraw_1 fl_RX8_12 (Nat.le_of_ble_eq_true rfl) rfl rfl (fun _ _ _ _ => rfl) ?_
  refine tv_iload_n C dk_X8_withdraw_4 rfl ?_
  refine tv_cV1 C dk_X8_withdraw_5 ml_RX8_119 yk_X6_refusalOfTake yi_X6_refusalOfTake (m_X6_refusalOfTake _ M tvSBn_1 x1) (tvSB_sh tvSBn_1 0 (by decide)).2 (tvSB_sh tvSBn_1 0 (by decide)).1 rfl rfl rfl (Nat.le_of_ble_eq_true rfl) (Nat.le_of_ble_eq_true rfl) (Nat.le_of_ble_eq_true rfl) (Nat.le_of_ble_eq_true rfl) (Nat.le_of_ble_eq_true rfl) ?_
  refine tv_cSx C dk_X8_withdraw_8 ml_RX8_54 yk_X8_refuse yi_X8_refuse (n_X8_refuse _ M (f_X6_refusalOfTake M 1 x1)) rfl rfl (Nat.le_of_ble_eq_true rfl) (Nat.le_of_ble_eq_true rfl) (Nat.le_of_ble_eq_true rfl) (Nat.le_of_ble_eq_true rfl) (Nat.le_of_ble_eq_true rfl) rfl rfl rfl (fun _ h1e => tv_out C hQ (by rw [f_X8_withdraw, if_neg (tv_sn h1e)]; rw [h1e]; rfl) (by rw [f_X8_withdraw, if_neg (tv_sn h1e)])) (fun h1 => ?_)
  refine tv_aload_n C dk_X8_withdraw_11 rfl ?_
  refine tv_getR (r := 61) C dk_X8_withdraw_12 fl_RX8_25 (Nat.le_of_ble_eq_true rfl) rfl rfl (fun _ _ _ _ => rfl) ?_
  refine tv_aload_n C dk_X8_withdraw_15 rfl ?_
  refine tv_getR (r := 1) C dk_X8_withdraw_16 fl_RX8_12 (Nat.le_of_ble_eq_true rfl) rfl rfl (fun _ _ _ _ => rfl) ?_
  refine tv_cV0 C dk_X8_withdraw_19 ml_RX8_58 yk_X1_keep yi_X1_keep (m_X1_keep _ M) (Nat.le_of_ble_eq_true rfl) rfl rfl rfl rfl (Nat.le_of_ble_eq_true rfl) (Nat.le_of_ble_eq_true rfl) (Nat.le_of_ble_eq_true rfl) (Nat.le_of_ble_eq_true rfl) (Nat.le_of_ble_eq_true rfl) ?_
  refine tv_aload_n C dk_X8_withdraw_22 rfl ?_
  refine tv_getR (r := 1) C dk_X8_withdraw_23 fl_RX8_12 (Nat.le_of_ble_eq_true rfl) rfl rfl (fun _ _ _ _ => rfl) ?_
  refine tv_iload_n C dk_X8_withdraw_26 rfl ?_
  refine tv_cV1 C dk_X8_withdraw_27 ml_RX8_122 yk_X6_take yi_X6_take (m_X6_take _ (f_X1_keep M) tvSBn_1 x1) (tvSB_sh tvSBn_1 0 (by decide)).2 (tvSB_sh tvSBn_1 0 (by decide)).1 rfl rfl rfl (Nat.le_of_ble_eq_true rfl) (Nat.le_of_ble_eq_true rfl) (Nat.le_of_ble_eq_true rfl) (Nat.le_of_ble_eq_true rfl) (Nat.le_of_ble_eq_true rfl) ?_
  exact tv_iret C hQ dk_X8_withdraw_30 rfl (by rw [f_X8_withdraw, if_pos h1]; rfl) (by rw [f_X8_withdraw, if_pos h1])
/-- TideVault.close(I)I -/
def f_X8_close (M : tvM) (x1 : Int32) : Option String × Int32 × tvM := (if (f_X8_refuse M (f_X6_refusalOfClose M 1 x1)).1 = none then (none, (f_X6_shut (f_X1_keep M) 1 x1).1, (f_X6_shut (f_X1_keep M) 1 x1).2) else ((f_X8_refuse M (f_X6_refusalOfClose M 1 x1)).1, 0, M))
theorem m_X8_close (G : tvG) (M : tvM) (x1 : Int32) : tvRun G yX8_close cX8_close 2 (some .int) 7 1 6 tvP0 tvP0 [.ref (G.2.1 + 0), .int x1] M (tvOx (some (.int (f_X8_close M x1).2.1)) (f_X8_close M x1).1) ((f_X8_close M x1).2.2) := by
  refine tvRun.of yk_X8_close rfl [some (.ref (G.2.1 + 0)), some (.int x1)] rfl (Nat.le_of_ble_eq_true rfl) ?_
  intro E hG C hQ; subst hG
  refine tv_aload_n C dk_X8_close_0 rfl ?_
  refine tv_getR (r := 1) C dk_X8_close_1 fl_RX8_12 (Nat.le_of_ble_eq_true rfl) rfl rfl (fun _ _ _ _ => rfl) ?_
  refine tv_iload_n C dk_X8_close_4 rfl ?_
  refine tv_cV1 C dk_X8_close_5 ml_RX8_125 yk_X6_refusalOfClose yi_X6_refusalOfClose (m_X6_refusalOfClose _ M tvSBn_1 x1) (tvSB_sh tvSBn_1 0 (by decide)).2 (tvSB_sh tvSBn_1 0 (by decide)).1 rfl rfl rfl (Nat.le_of_ble_eq_true rfl) (Nat.le_of_ble_eq_true rfl) (Nat.le_of_ble_eq_true rfl) (Nat.le_of_ble_eq_true rfl) (Nat.le_of_ble_eq_true rfl) ?_
  refine tv_cSx C dk_X8_close_8 ml_RX8_54 yk_X8_refuse yi_X8_refuse (n_X8_refuse _ M (f_X6_refusalOfClose M 1 x1)) rfl rfl (Nat.le_of_ble_eq_true rfl) (Nat.le_of_ble_eq_true rfl) (Nat.le_of_ble_eq_true rfl) (Nat.le_of_ble_eq_true rfl) (Nat.le_of_ble_eq_true rfl) rfl rfl rfl (fun _ h1e => tv_out C hQ (by rw [f_X8_close, if_neg (tv_sn h1e)]; rw [h1e]; rfl) (by rw [f_X8_close, if_neg (tv_sn h1e)])) (fun h1 => ?_)
  refine tv_aload_n C dk_X8_close_11 rfl ?_
  refine tv_getR (r := 61) C dk_X8_close_12 fl_RX8_25 (Nat.le_of_ble_eq_true rfl) rfl rfl (fun _ _ _ _ => rfl) ?_
  refine tv_aload_n C dk_X8_close_15 rfl ?_
  refine tv_getR (r := 1) C dk_X8_close_16 fl_RX8_12 (Nat.le_of_ble_eq_true rfl) rfl rfl (fun _ _ _ _ => rfl) ?_
  refine tv_cV0 C dk_X8_close_19 ml_RX8_58 yk_X1_keep yi_X1_keep (m_X1_keep _ M) (Nat.le_of_ble_eq_true rfl) rfl rfl rfl rfl (Nat.le_of_ble_eq_true rfl) (Nat.le_of_ble_eq_true rfl) (Nat.le_of_ble_eq_true rfl) (Nat.le_of_ble_eq_true rfl) (Nat.le_of_ble_eq_true rfl) ?_
  refine tv_aload_n C dk_X8_close_22 rfl ?_
  refine tv_getR (r := 1) C dk_X8_close_23 fl_RX8_12 (Nat.le_of_ble_eq_true rfl) rfl rfl (fun _ _ _ _ => rfl) ?_
  refine tv_iload_n C dk_X8_close_26 rfl ?_
  refine tv_cV1 C dk_X8_close_27 ml_RX8_128 yk_X6_shut yi_X6_shut (m_X6_shut _ (f_X1_keep M) tvSBn_1 x1) (tvSB_sh tvSBn_1 0 (by decide)).2 (tvSB_sh tvSBn_1 0 (by decide)).1 rfl rfl rfl (Nat.le_of_ble_eq_true rfl) (Nat.le_of_ble_eq_true rfl) (Nat.le_of_ble_eq_true rfl) (Nat.le_of_ble_eq_true rfl) (Nat.le_of_ble_eq_true rfl) ?_
  exact tv_iret C hQ dk_X8_close_30 rfl (by rw [f_X8_close, if_pos h1]; rfl) (by rw [f_X8_close, if_pos h1])
/-- TideVault.pass(I)I -/
def f_X8_pass (M : tvM) (x1 : Int32) : Option String × Int32 × tvM := (if (f_X8_refuse M (f_X6_refusalOfWait M 1 x1)).1 = none then (none, (f_X6_letPass (f_X1_keep M) 1 x1).1, (f_X6_letPass (f_X1_keep M) 1 x1).2) else ((f_X8_refuse M (f_X6_refusalOfWait M 1 x1)).1, 0, M))
theorem m_X8_pass (G : tvG) (M : tvM) (x1 : Int32) : tvRun G yX8_pass cX8_pass 2 (some .int) 7 1 6 tvP0 tvP0 [.ref (G.2.1 + 0), .int x1] M (tvOx (some (.int (f_X8_pass M x1).2.1)) (f_X8_pass M x1).1) ((f_X8_pass M x1).2.2) := by
  refine tvRun.of yk_X8_pass rfl [some (.ref (G.2.1 + 0)), some (.int x1)] rfl (Nat.le_of_ble_eq_true rfl) ?_
  intro E hG C hQ; subst hG
  refine tv_aload_n C dk_X8_pass_0 rfl ?_
  refine tv_getR (r := 1) C dk_X8_pass_1 fl_RX8_12 (Nat.le_of_ble_eq_true rfl) rfl rfl (fun _ _ _ _ => rfl) ?_
  refine tv_iload_n C dk_X8_pass_4 rfl ?_
  refine tv_cV1 C dk_X8_pass_5 ml_RX8_131 yk_X6_refusalOfWait yi_X6_refusalOfWait (m_X6_refusalOfWait _ M tvSBn_1 x1) (tvSB_sh tvSBn_1 0 (by decide)).2 (tvSB_sh tvSBn_1 0 (by decide)).1 rfl rfl rfl (Nat.le_of_ble_eq_true rfl) (Nat.le_of_ble_eq_true rfl) (Nat.le_of_ble_eq_true rfl) (Nat.le_of_ble_eq_true rfl) (Nat.le_of_ble_eq_true rfl) ?_
  refine tv_cSx C dk_X8_pass_8 ml_RX8_54 yk_X8_refuse yi_X8_refuse (n_X8_refuse _ M (f_X6_refusalOfWait M 1 x1)) rfl rfl (Nat.le_of_ble_eq_true rfl) (Nat.le_of_ble_eq_true rfl) (Nat.le_of_ble_eq_true rfl) (Nat.le_of_ble_eq_true rfl) (Nat.le_of_ble_eq_true rfl) rfl rfl rfl (fun _ h1e => tv_out C hQ (by rw [f_X8_pass, if_neg (tv_sn h1e)]; rw [h1e]; rfl) (by rw [f_X8_pass, if_neg (tv_sn h1e)])) (fun h1 => ?_)
  refine tv_aload_n C dk_X8_pass_11 rfl ?_
  refine tv_getR (r := 61) C dk_X8_pass_12 fl_RX8_25 (Nat.le_of_ble_eq_true rfl) rfl rfl (fun _ _ _ _ => rfl) ?_
  refine tv_aload_n C dk_X8_pass_15 rfl ?_
  refine tv_getR (r := 1) C dk_X8_pass_16 fl_RX8_12 (Nat.le_of_ble_eq_true rfl) rfl rfl (fun _ _ _ _ => rfl) ?_
  refine tv_cV0 C dk_X8_pass_19 ml_RX8_58 yk_X1_keep yi_X1_keep (m_X1_keep _ M) (Nat.le_of_ble_eq_true rfl) rfl rfl rfl rfl (Nat.le_of_ble_eq_true rfl) (Nat.le_of_ble_eq_true rfl) (Nat.le_of_ble_eq_true rfl) (Nat.le_of_ble_eq_true rfl) (Nat.le_of_ble_eq_true rfl) ?_
  refine tv_aload_n C dk_X8_pass_22 rfl ?_
  refine tv_getR (r := 1) C dk_X8_pass_23 fl_RX8_12 (Nat.le_of_ble_eq_true rfl) rfl rfl (fun _ _ _ _ => rfl) ?_
  refine tv_iload_n C dk_X8_pass_26 rfl ?_
  refine tv_cV1 C dk_X8_pass_27 ml_RX8_134 yk_X6_letPass yi_X6_letPass (n_X6_letPass _ (f_X1_keep M) tvSBn_1 x1) (tvSB_sh tvSBn_1 0 (by decide)).2 (tvSB_sh tvSBn_1 0 (by decide)).1 rfl rfl rfl (Nat.le_of_ble_eq_true rfl) (Nat.le_of_ble_eq_true rfl) (Nat.le_of_ble_eq_true rfl) (Nat.le_of_ble_eq_true rfl) (Nat.le_of_ble_eq_true rfl) ?_
  exact tv_iret C hQ dk_X8_pass_30 rfl (by rw [f_X8_pass, if_pos h1]; rfl) (by rw [f_X8_pass, if_pos h1])
/-- TideVault.time()I -/
def f_X8_time (M : tvM) : Int32 := (tgi M 1 4)
theorem m_X8_time (G : tvG) (M : tvM) : tvRun G yX8_time cX8_time 1 (some .int) 1 0 0 tvP0 tvP0 [.ref (G.2.1 + 0)] M (.inl (some (.int (f_X8_time M)))) M := by
  refine tvRun.of yk_X8_time rfl [some (.ref (G.2.1 + 0))] rfl (Nat.le_of_ble_eq_true rfl) ?_
  intro E hG C hQ; subst hG
  refine tv_aload_n C dk_X8_time_0 rfl ?_
  refine tv_getR (r := 1) C dk_X8_time_1 fl_RX8_12 (Nat.le_of_ble_eq_true rfl) rfl rfl (fun _ _ _ _ => rfl) ?_
  refine tv_getI C dk_X8_time_4 fl_RX8_137 (tvSB_sh tvSBn_1 0 (by decide)).2 (tvSB_sh tvSBn_1 0 (by decide)).1 (fun _ _ _ _ => rfl) ?_
  exact tv_iret C hQ dk_X8_time_7 rfl (by rw [f_X8_time]) rfl
