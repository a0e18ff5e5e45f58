/-- TideVault.status(I)C -/
def f_X8_status (M : tvM) (x1 : Int32) : Option String × Int32 × tvM := (if (f_X8_refuse M (f_X8_refusalOfBoxNumber M x1)).1 = none then (none, (f_X0_statusOf M 1 x1), M) else ((f_X8_refuse M (f_X8_refusalOfBoxNumber M x1)).1, 0, M))
theorem m_X8_status (G : tvG) (M : tvM) (x1 : Int32) : tvRun G yX8_status cX8_status 2 (some .char) 7 1 6 tvP0 tvP0 [.ref (G.2.1 + 0), .int x1] M (tvOx (some (.int (f_X8_status M x1).2.1)) (f_X8_status M x1).1) M := by
  refine tvRun.of yk_X8_status rfl [some (.ref (G.2.1 + 0)), some (.int x1)] rfl (Nat.le_of_ble_eq_true rfl) ?_
  intro E hG C hQ; subst hG
  refine tv_aload_n C dk_X8_status_0 rfl ?_
  refine tv_iload_n C dk_X8_status_1 rfl ?_
  refine tv_cV1 C dk_X8_status_2 ml_RX8_172 yk_X8_refusalOfBoxNumber yi_X8_refusalOfBoxNumber (m_X8_refusalOfBoxNumber _ M x1) (Nat.le_of_ble_eq_true rfl) rfl rfl rfl rfl (Nat.le_of_ble_eq_true rfl) (Nat.le_of_ble_eq_true rfl) (Nat.le_of_ble_eq_true rfl) (Nat.le_of_ble_eq_true rfl) (Nat.le_of_ble_eq_true rfl) ?_
  refine tv_cSx C dk_X8_status_5 ml_RX8_54 yk_X8_refuse yi_X8_refuse (n_X8_refuse _ M (f_X8_refusalOfBoxNumber M x1)) rfl rfl (Nat.le_of_ble_eq_true rfl) (Nat.le_of_ble_eq_true rfl) (Nat.le_of_ble_eq_true rfl) (Nat.le_of_ble_eq_true rfl) (Nat.le_of_ble_eq_true rfl) rfl rfl rfl (fun _ h1e => tv_out C hQ (by rw [f_X8_status, if_neg (tv_sn h1e)]; rw [h1e]; rfl) (rfl)) (fun h1 => ?_)
  refine tv_aload_n C dk_X8_status_8 rfl ?_
  refine tv_getR (r := 1) C dk_X8_status_9 fl_RX8_12 (Nat.le_of_ble_eq_true rfl) rfl rfl (fun _ _ _ _ => rfl) ?_
  refine tv_getR (r := (1 + 6)) C dk_X8_status_12 fl_RX8_75 (tvSB_sh tvSBn_1 0 (by decide)).2 (tvSB_sh tvSBn_1 0 (by decide)).1 (tvSB_rho tvSBn_1 (0, 2, 6) (by decide)) (fun _ _ _ _ => rfl) ?_
  refine tv_iload_n C dk_X8_status_15 rfl ?_
  refine tv_cV1 C dk_X8_status_16 ml_RX8_189 yk_X0_statusOf yi_X0_statusOf (m_X0_statusOf _ M tvSBn_1 x1) (tvSB_sh tvSBn_1 6 (by decide)).2 (tvSB_sh tvSBn_1 6 (by decide)).1 rfl rfl rfl (Nat.le_of_ble_eq_true rfl) (Nat.le_of_ble_eq_true rfl) (Nat.le_of_ble_eq_true rfl) (Nat.le_of_ble_eq_true rfl) (Nat.le_of_ble_eq_true rfl) ?_
  exact tv_iret C hQ dk_X8_status_19 (fz_X0_statusOf) (by rw [f_X8_status, if_pos h1]; rfl) rfl
/-- TideVault.firstHolder(I)I -/
def f_X8_firstHolder (M : tvM) (x1 : Int32) : Option String × Int32 × tvM := (if (f_X8_refuse M (f_X8_refusalUnless M 104 x1)).1 = none then (none, (f_X0_firstOf M 1 x1), M) else ((f_X8_refuse M (f_X8_refusalUnless M 104 x1)).1, 0, M))
theorem m_X8_firstHolder (G : tvG) (M : tvM) (x1 : Int32) : tvRun G yX8_firstHolder cX8_firstHolder 2 (some .int) 7 1 6 tvP0 tvP0 [.ref (G.2.1 + 0), .int x1] M (tvOx (some (.int (f_X8_firstHolder M x1).2.1)) (f_X8_firstHolder M x1).1) M := by
  refine tvRun.of yk_X8_firstHolder rfl [some (.ref (G.2.1 + 0)), some (.int x1)] rfl (Nat.le_of_ble_eq_true rfl) ?_
  intro E hG C hQ; subst hG
  refine tv_aload_n C dk_X8_firstHolder_0 rfl ?_
  refine tv_bipush (v := 104) C dk_X8_firstHolder_1 (by decide) ?_
  refine tv_iload_n C dk_X8_firstHolder_3 rfl ?_
  refine tv_cV1 C dk_X8_firstHolder_4 ml_RX8_193 yk_X8_refusalUnless yi_X8_refusalUnless (m_X8_refusalUnless _ M 104 x1) (Nat.le_of_ble_eq_true rfl) rfl rfl rfl rfl (Nat.le_of_ble_eq_true rfl) (Nat.le_of_ble_eq_true rfl) (Nat.le_of_ble_eq_true rfl) (Nat.le_of_ble_eq_true rfl) (Nat.le_of_ble_eq_true rfl) ?_
  refine tv_cSx C dk_X8_firstHolder_7 ml_RX8_54 yk_X8_refuse yi_X8_refuse (n_X8_refuse _ M (f_X8_refusalUnless M 104 x1)) rfl rfl (Nat.le_of_ble_eq_true rfl) (Nat.le_of_ble_eq_true rfl) (Nat.le_of_ble_eq_true rfl) (Nat.le_of_ble_eq_true rfl) (Nat.le_of_ble_eq_true rfl) rfl rfl rfl (fun _ h1e => tv_out C hQ (by rw [f_X8_firstHolder, if_neg (tv_sn h1e)]; rw [h1e]; rfl) (rfl)) (fun h1 => ?_)
  refine tv_aload_n C dk_X8_firstHolder_10 rfl ?_
  refine tv_getR (r := 1) C dk_X8_firstHolder_11 fl_RX8_12 (Nat.le_of_ble_eq_true rfl) rfl rfl (fun _ _ _ _ => rfl) ?_
  refine tv_getR (r := (1 + 6)) C dk_X8_firstHolder_14 fl_RX8_75 (tvSB_sh tvSBn_1 0 (by decide)).2 (tvSB_sh tvSBn_1 0 (by decide)).1 (tvSB_rho tvSBn_1 (0, 2, 6) (by decide)) (fun _ _ _ _ => rfl) ?_
  refine tv_iload_n C dk_X8_firstHolder_17 rfl ?_
  refine tv_cV1 C dk_X8_firstHolder_18 ml_RX8_197 yk_X0_firstOf yi_X0_firstOf (m_X0_firstOf _ M tvSBn_1 x1) (tvSB_sh tvSBn_1 6 (by decide)).2 (tvSB_sh tvSBn_1 6 (by decide)).1 rfl rfl rfl (Nat.le_of_ble_eq_true rfl) (Nat.le_of_ble_eq_true rfl) (Nat.le_of_ble_eq_true rfl) (Nat.le_of_ble_eq_true rfl) (Nat.le_of_ble_eq_true rfl) ?_
  exact tv_iret C hQ dk_X8_firstHolder_21 rfl (by rw [f_X8_firstHolder, if_pos h1]; rfl) rfl
/-- TideVault.remainingDelay(I)I -/
def f_X8_remainingDelay (M : tvM) (x1 : Int32) : Option String × Int32 × tvM := (if (f_X8_refuse M (f_X8_refusalUnless M 112 x1)).1 = none then (none, (f_X0_remainingOf M 1 x1), M) else ((f_X8_refuse M (f_X8_refusalUnless M 112 x1)).1, 0, M))
theorem m_X8_remainingDelay (G : tvG) (M : tvM) (x1 : Int32) : tvRun G yX8_remainingDelay cX8_remainingDelay 2 (some .int) 7 1 6 tvP0 tvP0 [.ref (G.2.1 + 0), .int x1] M (tvOx (some (.int (f_X8_remainingDelay M x1).2.1)) (f_X8_remainingDelay M x1).1) M := by
  refine tvRun.of yk_X8_remainingDelay rfl [some (.ref (G.2.1 + 0)), some (.int x1)] rfl (Nat.le_of_ble_eq_true rfl) ?_
  intro E hG C hQ; subst hG
  refine tv_aload_n C dk_X8_remainingDelay_0 rfl ?_
  refine tv_bipush (v := 112) C dk_X8_remainingDelay_1 (by decide) ?_
  refine tv_iload_n C dk_X8_remainingDelay_3 rfl ?_
  refine tv_cV1 C dk_X8_remainingDelay_4 ml_RX8_193 yk_X8_refusalUnless yi_X8_refusalUnless (m_X8_refusalUnless _ M 112 x1) (Nat.le_of_ble_eq_true rfl) rfl rfl rfl rfl (Nat.le_of_ble_eq_true rfl) (Nat.le_of_ble_eq_true rfl) (Nat.le_of_ble_eq_true rfl) (Nat.le_of_ble_eq_true rfl) (Nat.le_of_ble_eq_true rfl) ?_
  refine tv_cSx C dk_X8_remainingDelay_7 ml_RX8_54 yk_X8_refuse yi_X8_refuse (n_X8_refuse _ M (f_X8_refusalUnless M 112 x1)) rfl rfl (Nat.le_of_ble_eq_true rfl) (Nat.le_of_ble_eq_true rfl) (Nat.le_of_ble_eq_true rfl) (Nat.le_of_ble_eq_true rfl) (Nat.le_of_ble_eq_true rfl) rfl rfl rfl (fun _ h1e => tv_out C hQ (by rw [f_X8_remainingDelay, if_neg (tv_sn h1e)]; rw [h1e]; rfl) (rfl)) (fun h1 => ?_)
  refine tv_aload_n C dk_X8_remainingDelay_10 rfl ?_
  refine tv_getR (r := 1) C dk_X8_remainingDelay_11 fl_RX8_12 (Nat.le_of_ble_eq_true rfl) rfl rfl (fun _ _ _ _ => rfl) ?_
  refine tv_getR (r := (1 + 6)) C dk_X8_remainingDelay_14 fl_RX8_75 (tvSB_sh tvSBn_1 0 (by decide)).2 (tvSB_sh tvSBn_1 0 (by decide)).1 (tvSB_rho tvSBn_1 (0, 2, 6) (by decide)) (fun _ _ _ _ => rfl) ?_
  refine tv_iload_n C dk_X8_remainingDelay_17 rfl ?_
  refine tv_cV1 C dk_X8_remainingDelay_18 ml_RX8_200 yk_X0_remainingOf yi_X0_remainingOf (m_X0_remainingOf _ M tvSBn_1 x1) (tvSB_sh tvSBn_1 6 (by decide)).2 (tvSB_sh tvSBn_1 6 (by decide)).1 rfl rfl rfl (Nat.le_of_ble_eq_true rfl) (Nat.le_of_ble_eq_true rfl) (Nat.le_of_ble_eq_true rfl) (Nat.le_of_ble_eq_true rfl) (Nat.le_of_ble_eq_true rfl) ?_
  exact tv_iret C hQ dk_X8_remainingDelay_21 rfl (by rw [f_X8_remainingDelay, if_pos h1]; rfl) rfl
/-- TideVault.minutesUntilOpen(I)I -/
def f_X8_minutesUntilOpen (M : tvM) (x1 : Int32) : Option String × Int32 × tvM := (if (f_X8_refuse M (f_X8_refusalUnless M 112 x1)).1 = none then (none, (f_X6_searchOpening M 1 x1), M) else ((f_X8_refuse M (f_X8_refusalUnless M 112 x1)).1, 0, M))
theorem m_X8_minutesUntilOpen (G : tvG) (M : tvM) (x1 : Int32) : tvRun G yX8_minutesUntilOpen cX8_minutesUntilOpen 2 (some .int) 7 1 6 tvP0 tvP0 [.ref (G.2.1 + 0), .int x1] M (tvOx (some (.int (f_X8_minutesUntilOpen M x1).2.1)) (f_X8_minutesUntilOpen M x1).1) M := by
  refine tvRun.of yk_X8_minutesUntilOpen rfl [some (.ref (G.2.1 + 0)), some (.int x1)] rfl (Nat.le_of_ble_eq_true rfl) ?_
  intro E hG C hQ; subst hG
  refine tv_aload_n C dk_X8_minutesUntilOpen_0 rfl ?_
  refine tv_bipush (v := 112) C dk_X8_minutesUntilOpen_1 (by decide) ?_
  refine tv_iload_n C dk_X8_minutesUntilOpen_3 rfl ?_
  refine tv_cV1 C dk_X8_minutesUntilOpen_4 ml_RX8_193 yk_X8_refusalUnless yi_X8_refusalUnless (m_X8_refusalUnless _ M 112 x1) (Nat.le_of_ble_eq_true rfl) rfl rfl rfl rfl (Nat.le_of_ble_eq_true rfl) (Nat.le_of_ble_eq_true rfl) (Nat.le_of_ble_eq_true rfl) (Nat.le_of_ble_eq_true rfl) (Nat.le_of_ble_eq_true rfl) ?_
  refine tv_cSx C dk_X8_minutesUntilOpen_7 ml_RX8_54 yk_X8_refuse yi_X8_refuse (n_X8_refuse _ M (f_X8_refusalUnless M 112 x1)) rfl rfl (Nat.le_of_ble_eq_true rfl) (Nat.le_of_ble_eq_true rfl) (Nat.le_of_ble_eq_true rfl) (Nat.le_of_ble_eq_true rfl) (Nat.le_of_ble_eq_true rfl) rfl rfl rfl (fun _ h1e => tv_out C hQ (by rw [f_X8_minutesUntilOpen, if_neg (tv_sn h1e)]; rw [h1e]; rfl) (rfl)) (fun h1 => ?_)
  refine tv_aload_n C dk_X8_minutesUntilOpen_10 rfl ?_
  refine tv_getR (r := 1) C dk_X8_minutesUntilOpen_11 fl_RX8_12 (Nat.le_of_ble_eq_true rfl) rfl rfl (fun _ _ _ _ => rfl) ?_
  refine tv_iload_n C dk_X8_minutesUntilOpen_14 rfl ?_
  refine tv_cV1 C dk_X8_minutesUntilOpen_15 ml_RX8_203 yk_X6_searchOpening yi_X6_searchOpening (n_X6_searchOpening _ M tvSBn_1 x1) (tvSB_sh tvSBn_1 0 (by decide)).2 (tvSB_sh tvSBn_1 0 (by decide)).1 rfl rfl rfl (Nat.le_of_ble_eq_true rfl) (Nat.le_of_ble_eq_true rfl) (Nat.le_of_ble_eq_true rfl) (Nat.le_of_ble_eq_true rfl) (Nat.le_of_ble_eq_true rfl) ?_
  exact tv_iret C hQ dk_X8_minutesUntilOpen_18 rfl (by rw [f_X8_minutesUntilOpen, if_pos h1]; rfl) rfl
