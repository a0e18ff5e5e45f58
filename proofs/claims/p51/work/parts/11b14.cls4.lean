/-- TideVault.totalValue()J -/
def f_X8_totalValue (M : tvM) : Int64 := (f_X0_sumOfAll M 1)
theorem m_X8_totalValue (G : tvG) (M : tvM) : tvRun G yX8_totalValue cX8_totalValue 1 (some .long) 5 0 0 tvP0 tvP0 [.ref (G.2.1 + 0)] M (.inl (some (.long (f_X8_totalValue M)))) M := by
  refine tvRun.of yk_X8_totalValue rfl [some (.ref (G.2.1 + 0))] rfl (Nat.le_of_ble_eq_true rfl) ?_
  intro E hG C hQ; subst hG
  refine tv_aload_n C dk_X8_totalValue_0 rfl ?_
  refine tv_getR (r := 1) C dk_X8_totalValue_1 fl_RX8_12 (Nat.le_of_ble_eq_true rfl) rfl rfl (fun _ _ _ _ => rfl) ?_
  refine tv_getR (r := (1 + 6)) C dk_X8_totalValue_4 fl_RX8_75 (tvSB_sh tvSBn_1 0 (by decide)).2 (tvSB_sh tvSBn_1 0 (by decide)).1 (tvSB_rho tvSBn_1 (0, 2, 6) (by decide)) (fun _ _ _ _ => rfl) ?_
  refine tv_cV1 C dk_X8_totalValue_7 ml_RX8_232 yk_X0_sumOfAll yi_X0_sumOfAll (n_X0_sumOfAll _ M tvSBn_1) (tvSB_sh tvSBn_1 6 (by decide)).2 (tvSB_sh tvSBn_1 6 (by decide)).1 rfl rfl rfl (Nat.le_of_ble_eq_true rfl) (Nat.le_of_ble_eq_true rfl) (Nat.le_of_ble_eq_true rfl) (Nat.le_of_ble_eq_true rfl) (Nat.le_of_ble_eq_true rfl) ?_
  exact tv_lret C hQ dk_X8_totalValue_10 (by rw [f_X8_totalValue]) rfl
/-- TideVault.totalValueByLedger()J -/
def f_X8_totalValueByLedger (M : tvM) : Int64 := (tgl M 1 8)
theorem m_X8_totalValueByLedger (G : tvG) (M : tvM) : tvRun G yX8_totalValueByLedger cX8_totalValueByLedger 1 (some .long) 1 0 0 tvP0 tvP0 [.ref (G.2.1 + 0)] M (.inl (some (.long (f_X8_totalValueByLedger M)))) M := by
  refine tvRun.of yk_X8_totalValueByLedger rfl [some (.ref (G.2.1 + 0))] rfl (Nat.le_of_ble_eq_true rfl) ?_
  intro E hG C hQ; subst hG
  refine tv_aload_n C dk_X8_totalValueByLedger_0 rfl ?_
  refine tv_getR (r := 1) C dk_X8_totalValueByLedger_1 fl_RX8_12 (Nat.le_of_ble_eq_true rfl) rfl rfl (fun _ _ _ _ => rfl) ?_
  refine tv_getL C dk_X8_totalValueByLedger_4 fl_RX8_236 (tvSB_sh tvSBn_1 0 (by decide)).2 (tvSB_sh tvSBn_1 0 (by decide)).1 (fun _ _ _ _ => rfl) ?_
  exact tv_lret C hQ dk_X8_totalValueByLedger_7 (by rw [f_X8_totalValueByLedger]) rfl
/-- TideVault.events()I -/
def f_X8_events (M : tvM) : Int32 := (tgi M (1 + 16) 1)
theorem m_X8_events (G : tvG) (M : tvM) : tvRun G yX8_events cX8_events 1 (some .int) 1 0 0 tvP0 tvP0 [.ref (G.2.1 + 0)] M (.inl (some (.int (f_X8_events M)))) M := by
  refine tvRun.of yk_X8_events rfl [some (.ref (G.2.1 + 0))] rfl (Nat.le_of_ble_eq_true rfl) ?_
  intro E hG C hQ; subst hG
  refine tv_aload_n C dk_X8_events_0 rfl ?_
  refine tv_getR (r := 1) C dk_X8_events_1 fl_RX8_12 (Nat.le_of_ble_eq_true rfl) rfl rfl (fun _ _ _ _ => rfl) ?_
  refine tv_getR (r := (1 + 16)) C dk_X8_events_4 fl_RX8_257 (tvSB_sh tvSBn_1 0 (by decide)).2 (tvSB_sh tvSBn_1 0 (by decide)).1 (tvSB_rho tvSBn_1 (0, 3, 16) (by decide)) (fun _ _ _ _ => rfl) ?_
  refine tv_getI C dk_X8_events_7 fl_RX8_261 (tvSB_sh tvSBn_1 16 (by decide)).2 (tvSB_sh tvSBn_1 16 (by decide)).1 (fun _ _ _ _ => rfl) ?_
  exact tv_iret C hQ dk_X8_events_10 rfl (by rw [f_X8_events]) rfl
/-- TideVault.eventKind(I)C -/
def f_X8_eventKind (M : tvM) (x1 : Int32) : Option String × Int32 × tvM := (if (f_X8_refuse M (f_X8_refusalOfEvent M x1)).1 = none then (none, (f_X4_kindOf M 1 x1), M) else ((f_X8_refuse M (f_X8_refusalOfEvent M x1)).1, 0, M))
theorem m_X8_eventKind (G : tvG) (M : tvM) (x1 : Int32) : tvRun G yX8_eventKind cX8_eventKind 2 (some .char) 7 1 6 tvP0 tvP0 [.ref (G.2.1 + 0), .int x1] M (tvOx (some (.int (f_X8_eventKind M x1).2.1)) (f_X8_eventKind M x1).1) M := by
  refine tvRun.of yk_X8_eventKind rfl [some (.ref (G.2.1 + 0)), some (.int x1)] rfl (Nat.le_of_ble_eq_true rfl) ?_
  intro E hG C hQ; subst hG
  refine tv_aload_n C dk_X8_eventKind_0 rfl ?_
  refine tv_iload_n C dk_X8_eventKind_1 rfl ?_
  refine tv_cV1 C dk_X8_eventKind_2 ml_RX8_264 yk_X8_refusalOfEvent yi_X8_refusalOfEvent (m_X8_refusalOfEvent _ M x1) (Nat.le_of_ble_eq_true rfl) rfl rfl rfl rfl (Nat.le_of_ble_eq_true rfl) (Nat.le_of_ble_eq_true rfl) (Nat.le_of_ble_eq_true rfl) (Nat.le_of_ble_eq_true rfl) (Nat.le_of_ble_eq_true rfl) ?_
  refine tv_cSx C dk_X8_eventKind_5 ml_RX8_54 yk_X8_refuse yi_X8_refuse (n_X8_refuse _ M (f_X8_refusalOfEvent M x1)) rfl rfl (Nat.le_of_ble_eq_true rfl) (Nat.le_of_ble_eq_true rfl) (Nat.le_of_ble_eq_true rfl) (Nat.le_of_ble_eq_true rfl) (Nat.le_of_ble_eq_true rfl) rfl rfl rfl (fun _ h1e => tv_out C hQ (by rw [f_X8_eventKind, if_neg (tv_sn h1e)]; rw [h1e]; rfl) (rfl)) (fun h1 => ?_)
  refine tv_aload_n C dk_X8_eventKind_8 rfl ?_
  refine tv_getR (r := 1) C dk_X8_eventKind_9 fl_RX8_12 (Nat.le_of_ble_eq_true rfl) rfl rfl (fun _ _ _ _ => rfl) ?_
  refine tv_getR (r := (1 + 16)) C dk_X8_eventKind_12 fl_RX8_257 (tvSB_sh tvSBn_1 0 (by decide)).2 (tvSB_sh tvSBn_1 0 (by decide)).1 (tvSB_rho tvSBn_1 (0, 3, 16) (by decide)) (fun _ _ _ _ => rfl) ?_
  refine tv_iload_n C dk_X8_eventKind_15 rfl ?_
  refine tv_cV1 C dk_X8_eventKind_16 ml_RX8_267 yk_X4_kindOf yi_X4_kindOf (m_X4_kindOf _ M tvSBn_1 x1) (tvSB_sh tvSBn_1 16 (by decide)).2 (tvSB_sh tvSBn_1 16 (by decide)).1 rfl rfl rfl (Nat.le_of_ble_eq_true rfl) (Nat.le_of_ble_eq_true rfl) (Nat.le_of_ble_eq_true rfl) (Nat.le_of_ble_eq_true rfl) (Nat.le_of_ble_eq_true rfl) ?_
  exact tv_iret C hQ dk_X8_eventKind_19 (fz_X4_kindOf) (by rw [f_X8_eventKind, if_pos h1]; rfl) rfl
