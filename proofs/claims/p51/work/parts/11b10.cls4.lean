/-- TideVault.lowMinutesByCounting(I)I -/
def f_X8_lowMinutesByCounting (M : tvM) (x1 : Int32) : Option String × Int32 × tvM := (if (f_X8_refuse M (f_X8_refusalOfLowMinutes M x1)).1 = none then (none, (f_X7_lowByCounting M 1 (tgi M 1 4) x1), M) else ((f_X8_refuse M (f_X8_refusalOfLowMinutes M x1)).1, 0, M))
theorem m_X8_lowMinutesByCounting (G : tvG) (M : tvM) (x1 : Int32) : tvRun G yX8_lowMinutesByCounting cX8_lowMinutesByCounting 2 (some .int) 7 1 6 tvP0 tvP0 [.ref (G.2.1 + 0), .int x1] M (tvOx (some (.int (f_X8_lowMinutesByCounting M x1).2.1)) (f_X8_lowMinutesByCounting M x1).1) M := by
  refine tvRun.of yk_X8_lowMinutesByCounting rfl [some (.ref (G.2.1 + 0)), some (.int x1)] rfl (Nat.le_of_ble_eq_true rfl) ?_
  intro E hG C hQ; subst hG
  refine tv_aload_n C dk_X8_lowMinutesByCounting_0 rfl ?_
  refine tv_iload_n C dk_X8_lowMinutesByCounting_1 rfl ?_
  refine tv_cV1 C dk_X8_lowMinutesByCounting_2 ml_RX8_144 yk_X8_refusalOfLowMinutes yi_X8_refusalOfLowMinutes (m_X8_refusalOfLowMinutes _ M x1) (Nat.le_of_ble_eq_true rfl) rfl rfl rfl rfl (Nat.le_of_ble_eq_true rfl) (Nat.le_of_ble_eq_true rfl) (Nat.le_of_ble_eq_true rfl) (Nat.le_of_ble_eq_true rfl) (Nat.le_of_ble_eq_true rfl) ?_
  refine tv_cSx C dk_X8_lowMinutesByCounting_5 ml_RX8_54 yk_X8_refuse yi_X8_refuse (n_X8_refuse _ M (f_X8_refusalOfLowMinutes M x1)) rfl rfl (Nat.le_of_ble_eq_true rfl) (Nat.le_of_ble_eq_true rfl) (Nat.le_of_ble_eq_true rfl) (Nat.le_of_ble_eq_true rfl) (Nat.le_of_ble_eq_true rfl) rfl rfl rfl (fun _ h1e => tv_out C hQ (by rw [f_X8_lowMinutesByCounting, if_neg (tv_sn h1e)]; rw [h1e]; rfl) (rfl)) (fun h1 => ?_)
  refine tv_aload_n C dk_X8_lowMinutesByCounting_8 rfl ?_
  refine tv_getR (r := 1) C dk_X8_lowMinutesByCounting_9 fl_RX8_12 (Nat.le_of_ble_eq_true rfl) rfl rfl (fun _ _ _ _ => rfl) ?_
  refine tv_getR (r := (1 + 1)) C dk_X8_lowMinutesByCounting_12 fl_RX8_87 (tvSB_sh tvSBn_1 0 (by decide)).2 (tvSB_sh tvSBn_1 0 (by decide)).1 (tvSB_rho tvSBn_1 (0, 0, 1) (by decide)) (fun _ _ _ _ => rfl) ?_
  refine tv_aload_n C dk_X8_lowMinutesByCounting_15 rfl ?_
  refine tv_getR (r := 1) C dk_X8_lowMinutesByCounting_16 fl_RX8_12 (Nat.le_of_ble_eq_true rfl) rfl rfl (fun _ _ _ _ => rfl) ?_
  refine tv_getI C dk_X8_lowMinutesByCounting_19 fl_RX8_137 (tvSB_sh tvSBn_1 0 (by decide)).2 (tvSB_sh tvSBn_1 0 (by decide)).1 (fun _ _ _ _ => rfl) ?_
  refine tv_iload_n C dk_X8_lowMinutesByCounting_22 rfl ?_
  refine tv_cV1 C dk_X8_lowMinutesByCounting_23 ml_RX8_150 yk_X7_lowByCounting yi_X7_lowByCounting (n_X7_lowByCounting _ M tvSBn_1 (tgi M 1 4) x1) (tvSB_sh tvSBn_1 1 (by decide)).2 (tvSB_sh tvSBn_1 1 (by decide)).1 rfl rfl rfl (Nat.le_of_ble_eq_true rfl) (Nat.le_of_ble_eq_true rfl) (Nat.le_of_ble_eq_true rfl) (Nat.le_of_ble_eq_true rfl) (Nat.le_of_ble_eq_true rfl) ?_
  exact tv_iret C hQ dk_X8_lowMinutesByCounting_26 rfl (by rw [f_X8_lowMinutesByCounting, if_pos h1]; rfl) rfl
/-- TideVault.alarm()I -/
def f_X8_alarm (M : tvM) : Int32 := (tgi M 1 5)
theorem m_X8_alarm (G : tvG) (M : tvM) : tvRun G yX8_alarm cX8_alarm 1 (some .int) 1 0 0 tvP0 tvP0 [.ref (G.2.1 + 0)] M (.inl (some (.int (f_X8_alarm M)))) M := by
  refine tvRun.of yk_X8_alarm rfl [some (.ref (G.2.1 + 0))] rfl (Nat.le_of_ble_eq_true rfl) ?_
  intro E hG C hQ; subst hG
  refine tv_aload_n C dk_X8_alarm_0 rfl ?_
  refine tv_getR (r := 1) C dk_X8_alarm_1 fl_RX8_12 (Nat.le_of_ble_eq_true rfl) rfl rfl (fun _ _ _ _ => rfl) ?_
  refine tv_getI C dk_X8_alarm_4 fl_RX8_153 (tvSB_sh tvSBn_1 0 (by decide)).2 (tvSB_sh tvSBn_1 0 (by decide)).1 (fun _ _ _ _ => rfl) ?_
  exact tv_iret C hQ dk_X8_alarm_7 rfl (by rw [f_X8_alarm]) rfl
/-- TideVault.holders()I -/
def f_X8_holders (M : tvM) : Int32 := (tgi M (1 + 2) 0)
theorem m_X8_holders (G : tvG) (M : tvM) : tvRun G yX8_holders cX8_holders 1 (some .int) 1 0 0 tvP0 tvP0 [.ref (G.2.1 + 0)] M (.inl (some (.int (f_X8_holders M)))) M := by
  refine tvRun.of yk_X8_holders rfl [some (.ref (G.2.1 + 0))] rfl (Nat.le_of_ble_eq_true rfl) ?_
  intro E hG C hQ; subst hG
  refine tv_aload_n C dk_X8_holders_0 rfl ?_
  refine tv_getR (r := 1) C dk_X8_holders_1 fl_RX8_12 (Nat.le_of_ble_eq_true rfl) rfl rfl (fun _ _ _ _ => rfl) ?_
  refine tv_getR (r := (1 + 2)) C dk_X8_holders_4 fl_RX8_62 (tvSB_sh tvSBn_1 0 (by decide)).2 (tvSB_sh tvSBn_1 0 (by decide)).1 (tvSB_rho tvSBn_1 (0, 1, 2) (by decide)) (fun _ _ _ _ => rfl) ?_
  refine tv_getI C dk_X8_holders_7 fl_RX8_156 (tvSB_sh tvSBn_1 2 (by decide)).2 (tvSB_sh tvSBn_1 2 (by decide)).1 (fun _ _ _ _ => rfl) ?_
  exact tv_iret C hQ dk_X8_holders_10 rfl (by rw [f_X8_holders]) rfl
/-- TideVault.attempts(I)I -/
def f_X8_attempts (M : tvM) (x1 : Int32) : Option String × Int32 × tvM := (if (f_X8_refuse M (f_X8_refusalOfHolderNumber M x1)).1 = none then (none, (f_X2_attemptsOf M 1 x1), M) else ((f_X8_refuse M (f_X8_refusalOfHolderNumber M x1)).1, 0, M))
theorem m_X8_attempts (G : tvG) (M : tvM) (x1 : Int32) : tvRun G yX8_attempts cX8_attempts 2 (some .int) 7 1 6 tvP0 tvP0 [.ref (G.2.1 + 0), .int x1] M (tvOx (some (.int (f_X8_attempts M x1).2.1)) (f_X8_attempts M x1).1) M := by
  refine tvRun.of yk_X8_attempts rfl [some (.ref (G.2.1 + 0)), some (.int x1)] rfl (Nat.le_of_ble_eq_true rfl) ?_
  intro E hG C hQ; subst hG
  refine tv_aload_n C dk_X8_attempts_0 rfl ?_
  refine tv_iload_n C dk_X8_attempts_1 rfl ?_
  refine tv_cV1 C dk_X8_attempts_2 ml_RX8_159 yk_X8_refusalOfHolderNumber yi_X8_refusalOfHolderNumber (m_X8_refusalOfHolderNumber _ M x1) (Nat.le_of_ble_eq_true rfl) rfl rfl rfl rfl (Nat.le_of_ble_eq_true rfl) (Nat.le_of_ble_eq_true rfl) (Nat.le_of_ble_eq_true rfl) (Nat.le_of_ble_eq_true rfl) (Nat.le_of_ble_eq_true rfl) ?_
  refine tv_cSx C dk_X8_attempts_5 ml_RX8_54 yk_X8_refuse yi_X8_refuse (n_X8_refuse _ M (f_X8_refusalOfHolderNumber M x1)) rfl rfl (Nat.le_of_ble_eq_true rfl) (Nat.le_of_ble_eq_true rfl) (Nat.le_of_ble_eq_true rfl) (Nat.le_of_ble_eq_true rfl) (Nat.le_of_ble_eq_true rfl) rfl rfl rfl (fun _ h1e => tv_out C hQ (by rw [f_X8_attempts, if_neg (tv_sn h1e)]; rw [h1e]; rfl) (rfl)) (fun h1 => ?_)
  refine tv_aload_n C dk_X8_attempts_8 rfl ?_
  refine tv_getR (r := 1) C dk_X8_attempts_9 fl_RX8_12 (Nat.le_of_ble_eq_true rfl) rfl rfl (fun _ _ _ _ => rfl) ?_
  refine tv_getR (r := (1 + 2)) C dk_X8_attempts_12 fl_RX8_62 (tvSB_sh tvSBn_1 0 (by decide)).2 (tvSB_sh tvSBn_1 0 (by decide)).1 (tvSB_rho tvSBn_1 (0, 1, 2) (by decide)) (fun _ _ _ _ => rfl) ?_
  refine tv_iload_n C dk_X8_attempts_15 rfl ?_
  refine tv_cV1 C dk_X8_attempts_16 ml_RX8_162 yk_X2_attemptsOf yi_X2_attemptsOf (m_X2_attemptsOf _ M tvSBn_1 x1) (tvSB_sh tvSBn_1 2 (by decide)).2 (tvSB_sh tvSBn_1 2 (by decide)).1 rfl rfl rfl (Nat.le_of_ble_eq_true rfl) (Nat.le_of_ble_eq_true rfl) (Nat.le_of_ble_eq_true rfl) (Nat.le_of_ble_eq_true rfl) (Nat.le_of_ble_eq_true rfl) ?_
  exact tv_iret C hQ dk_X8_attempts_19 rfl (by rw [f_X8_attempts, if_pos h1]; rfl) rfl
