/-- TideVault.eventTime(I)I -/
def f_X8_eventTime (M : tvM) (x1 : Int32) : Option String × Int32 × tvM := (if (f_X8_refuse M (f_X8_refusalOfEvent M x1)).1 = none then (none, (f_X4_timeOf M 1 x1), M) else ((f_X8_refuse M (f_X8_refusalOfEvent M x1)).1, 0, M))
theorem m_X8_eventTime (G : tvG) (M : tvM) (x1 : Int32) : tvRun G yX8_eventTime cX8_eventTime 2 (some .int) 7 1 6 tvP0 tvP0 [.ref (G.2.1 + 0), .int x1] M (tvOx (some (.int (f_X8_eventTime M x1).2.1)) (f_X8_eventTime M x1).1) M := by
  refine tvRun.of yk_X8_eventTime rfl [some (.ref (G.2.1 + 0)), some (.int x1)] rfl (Nat.le_of_ble_eq_true rfl) ?_
  intro E hG C hQ; subst hG
  refine tv_aload_n C dk_X8_eventTime_0 rfl ?_
  refine tv_iload_n C dk_X8_eventTime_1 rfl ?_
  refine tv_cV1 C dk_X8_eventTime_2 ml_RX8_264 yk_X8_refusalOfEvent yi_X8_refusalOfEvent (m_X8_refusalOfEvent _ M x1) (Nat.le_of_ble_eq_true rfl) rfl rfl rfl rfl (Nat.le_of_ble_eq_true rfl) (Nat.le_of_ble_eq_true rfl) (Nat.le_of_ble_eq_true rfl) (Nat.le_of_ble_eq_true rfl) (Nat.le_of_ble_eq_true rfl) ?_
  refine tv_cSx C dk_X8_eventTime_5 ml_RX8_54 yk_X8_refuse yi_X8_refuse (n_X8_refuse _ M (f_X8_refusalOfEvent M x1)) rfl rfl (Nat.le_of_ble_eq_true rfl) (Nat.le_of_ble_eq_true rfl) (Nat.le_of_ble_eq_true rfl) (Nat.le_of_ble_eq_true rfl) (Nat.le_of_ble_eq_true rfl) rfl rfl rfl (fun _ h1e => tv_out C hQ (by rw [f_X8_eventTime, if_neg (tv_sn h1e)]; rw [h1e]; rfl) (rfl)) (fun h1 => ?_)
  refine tv_aload_n C dk_X8_eventTime_8 rfl ?_
  refine tv_getR (r := 1) C dk_X8_eventTime_9 fl_RX8_12 (Nat.le_of_ble_eq_true rfl) rfl rfl (fun _ _ _ _ => rfl) ?_
  refine tv_getR (r := (1 + 16)) C dk_X8_eventTime_12 fl_RX8_257 (tvSB_sh tvSBn_1 0 (by decide)).2 (tvSB_sh tvSBn_1 0 (by decide)).1 (tvSB_rho tvSBn_1 (0, 3, 16) (by decide)) (fun _ _ _ _ => rfl) ?_
  refine tv_iload_n C dk_X8_eventTime_15 rfl ?_
  refine tv_cV1 C dk_X8_eventTime_16 ml_RX8_270 yk_X4_timeOf yi_X4_timeOf (m_X4_timeOf _ M tvSBn_1 x1) (tvSB_sh tvSBn_1 16 (by decide)).2 (tvSB_sh tvSBn_1 16 (by decide)).1 rfl rfl rfl (Nat.le_of_ble_eq_true rfl) (Nat.le_of_ble_eq_true rfl) (Nat.le_of_ble_eq_true rfl) (Nat.le_of_ble_eq_true rfl) (Nat.le_of_ble_eq_true rfl) ?_
  exact tv_iret C hQ dk_X8_eventTime_19 rfl (by rw [f_X8_eventTime, if_pos h1]; rfl) rfl
/-- TideVault.eventNumber(I)I -/
def f_X8_eventNumber (M : tvM) (x1 : Int32) : Option String × Int32 × tvM := (if (f_X8_refuse M (f_X8_refusalOfEvent M x1)).1 = none then (none, (f_X4_numberOf M 1 x1), M) else ((f_X8_refuse M (f_X8_refusalOfEvent M x1)).1, 0, M))
theorem m_X8_eventNumber (G : tvG) (M : tvM) (x1 : Int32) : tvRun G yX8_eventNumber cX8_eventNumber 2 (some .int) 7 1 6 tvP0 tvP0 [.ref (G.2.1 + 0), .int x1] M (tvOx (some (.int (f_X8_eventNumber M x1).2.1)) (f_X8_eventNumber M x1).1) M := by
  refine tvRun.of yk_X8_eventNumber rfl [some (.ref (G.2.1 + 0)), some (.int x1)] rfl (Nat.le_of_ble_eq_true rfl) ?_
  intro E hG C hQ; subst hG
  refine tv_aload_n C dk_X8_eventNumber_0 rfl ?_
  refine tv_iload_n C dk_X8_eventNumber_1 rfl ?_
  refine tv_cV1 C dk_X8_eventNumber_2 ml_RX8_264 yk_X8_refusalOfEvent yi_X8_refusalOfEvent (m_X8_refusalOfEvent _ M x1) (Nat.le_of_ble_eq_true rfl) rfl rfl rfl rfl (Nat.le_of_ble_eq_true rfl) (Nat.le_of_ble_eq_true rfl) (Nat.le_of_ble_eq_true rfl) (Nat.le_of_ble_eq_true rfl) (Nat.le_of_ble_eq_true rfl) ?_
  refine tv_cSx C dk_X8_eventNumber_5 ml_RX8_54 yk_X8_refuse yi_X8_refuse (n_X8_refuse _ M (f_X8_refusalOfEvent M x1)) rfl rfl (Nat.le_of_ble_eq_true rfl) (Nat.le_of_ble_eq_true rfl) (Nat.le_of_ble_eq_true rfl) (Nat.le_of_ble_eq_true rfl) (Nat.le_of_ble_eq_true rfl) rfl rfl rfl (fun _ h1e => tv_out C hQ (by rw [f_X8_eventNumber, if_neg (tv_sn h1e)]; rw [h1e]; rfl) (rfl)) (fun h1 => ?_)
  refine tv_aload_n C dk_X8_eventNumber_8 rfl ?_
  refine tv_getR (r := 1) C dk_X8_eventNumber_9 fl_RX8_12 (Nat.le_of_ble_eq_true rfl) rfl rfl (fun _ _ _ _ => rfl) ?_
  refine tv_getR (r := (1 + 16)) C dk_X8_eventNumber_12 fl_RX8_257 (tvSB_sh tvSBn_1 0 (by decide)).2 (tvSB_sh tvSBn_1 0 (by decide)).1 (tvSB_rho tvSBn_1 (0, 3, 16) (by decide)) (fun _ _ _ _ => rfl) ?_
  refine tv_iload_n C dk_X8_eventNumber_15 rfl ?_
  refine tv_cV1 C dk_X8_eventNumber_16 ml_RX8_273 yk_X4_numberOf yi_X4_numberOf (m_X4_numberOf _ M tvSBn_1 x1) (tvSB_sh tvSBn_1 16 (by decide)).2 (tvSB_sh tvSBn_1 16 (by decide)).1 rfl rfl rfl (Nat.le_of_ble_eq_true rfl) (Nat.le_of_ble_eq_true rfl) (Nat.le_of_ble_eq_true rfl) (Nat.le_of_ble_eq_true rfl) (Nat.le_of_ble_eq_true rfl) ?_
  exact tv_iret C hQ dk_X8_eventNumber_19 rfl (by rw [f_X8_eventNumber, if_pos h1]; rfl) rfl
/-- TideVault.type(C)I -/
def f_X8_type (M : tvM) (x1 : Int32) : Option String × Int32 × tvM := (if (f_X5_isFull M) = 0 then (none, (f_X5_append M x1).1, (f_X5_append M x1).2) else ((some "java/lang/IllegalStateException"), 0, M))
theorem m_X8_type (G : tvG) (M : tvM) (x1 : Int32) : tvRun G yX8_type cX8_type 2 (some .int) 6 1 6 tvP0 tvP0 [.ref (G.2.1 + 0), .int x1] M (tvOx (some (.int (f_X8_type M x1).2.1)) (f_X8_type M x1).1) ((f_X8_type M x1).2.2) := by
  refine tvRun.of yk_X8_type rfl [some (.ref (G.2.1 + 0)), some (.int x1)] rfl (Nat.le_of_ble_eq_true rfl) ?_
  intro E hG C hQ; subst hG
  refine tv_aload_n C dk_X8_type_0 rfl ?_
  refine tv_getR (r := 243) C dk_X8_type_1 fl_RX8_32 (Nat.le_of_ble_eq_true rfl) rfl rfl (fun _ _ _ _ => rfl) ?_
  refine tv_cV1 C dk_X8_type_4 ml_RX8_302 yk_X5_isFull yi_X5_isFull (m_X5_isFull _ M) (Nat.le_of_ble_eq_true rfl) rfl rfl rfl rfl (Nat.le_of_ble_eq_true rfl) (Nat.le_of_ble_eq_true rfl) (Nat.le_of_ble_eq_true rfl) (Nat.le_of_ble_eq_true rfl) (Nat.le_of_ble_eq_true rfl) ?_
  refine tv_if_eq C dk_X8_type_7 (fun h1 => ?_) (fun h1 => ?_)
  · refine tv_aload_n C dk_X8_type_21 rfl ?_
    refine tv_getR (r := 243) C dk_X8_type_22 fl_RX8_32 (Nat.le_of_ble_eq_true rfl) rfl rfl (fun _ _ _ _ => rfl) ?_
    refine tv_iload_n C dk_X8_type_25 rfl ?_
    refine tv_cV1 C dk_X8_type_26 ml_RX8_310 yk_X5_append yi_X5_append (m_X5_append _ M x1) (Nat.le_of_ble_eq_true rfl) rfl rfl rfl rfl (Nat.le_of_ble_eq_true rfl) (Nat.le_of_ble_eq_true rfl) (Nat.le_of_ble_eq_true rfl) (Nat.le_of_ble_eq_true rfl) (Nat.le_of_ble_eq_true rfl) ?_
    exact tv_iret C hQ dk_X8_type_29 rfl (by rw [f_X8_type, if_pos h1]; rfl) (by rw [f_X8_type, if_pos h1])
  exact tv_throwW C tvP0_ex hQ th_RX8_305_307 dk_X8_type_10 dk_X8_type_13 dk_X8_type_14 dk_X8_type_17 dk_X8_type_20 (Nat.le_of_ble_eq_true rfl) (Nat.le_of_ble_eq_true rfl) (by rw [f_X8_type, if_neg h1]; rfl) (by rw [f_X8_type, if_neg h1])
/-- TideVault.undo()I -/
def f_X8_undo (M : tvM) : Option String × Int32 × tvM := (if (tgi M 61 2) = 0 then ((some "java/lang/IllegalStateException"), 0, M) else (none, (f_X1_stepBack M).1, (f_X1_stepBack M).2))
theorem m_X8_undo (G : tvG) (M : tvM) : tvRun G yX8_undo cX8_undo 1 (some .int) 6 1 6 tvP0 tvP0 [.ref (G.2.1 + 0)] M (tvOx (some (.int (f_X8_undo M).2.1)) (f_X8_undo M).1) ((f_X8_undo M).2.2) := by
  refine tvRun.of yk_X8_undo rfl [some (.ref (G.2.1 + 0))] rfl (Nat.le_of_ble_eq_true rfl) ?_
  intro E hG C hQ; subst hG
  refine tv_aload_n C dk_X8_undo_0 rfl ?_
  refine tv_getR (r := 61) C dk_X8_undo_1 fl_RX8_25 (Nat.le_of_ble_eq_true rfl) rfl rfl (fun _ _ _ _ => rfl) ?_
  refine tv_getI C dk_X8_undo_4 fl_RX8_358 (Nat.le_of_ble_eq_true rfl) rfl (fun _ _ _ _ => rfl) ?_
  refine tv_if_ne C dk_X8_undo_7 (fun h1 => ?_) (fun h1 => ?_)
  · refine tv_aload_n C dk_X8_undo_21 rfl ?_
    refine tv_getR (r := 61) C dk_X8_undo_22 fl_RX8_25 (Nat.le_of_ble_eq_true rfl) rfl rfl (fun _ _ _ _ => rfl) ?_
    refine tv_aload_n C dk_X8_undo_25 rfl ?_
    refine tv_getR (r := 1) C dk_X8_undo_26 fl_RX8_12 (Nat.le_of_ble_eq_true rfl) rfl rfl (fun _ _ _ _ => rfl) ?_
    refine tv_cV1 C dk_X8_undo_29 ml_RX8_361 yk_X1_stepBack yi_X1_stepBack (m_X1_stepBack _ M) (Nat.le_of_ble_eq_true rfl) rfl rfl rfl rfl (Nat.le_of_ble_eq_true rfl) (Nat.le_of_ble_eq_true rfl) (Nat.le_of_ble_eq_true rfl) (Nat.le_of_ble_eq_true rfl) (Nat.le_of_ble_eq_true rfl) ?_
    exact tv_iret C hQ dk_X8_undo_32 rfl (by rw [f_X8_undo, if_neg h1]; rfl) (by rw [f_X8_undo, if_neg h1])
  exact tv_throwW C tvP0_ex hQ th_RX8_305_359 dk_X8_undo_10 dk_X8_undo_13 dk_X8_undo_14 dk_X8_undo_17 dk_X8_undo_20 (Nat.le_of_ble_eq_true rfl) (Nat.le_of_ble_eq_true rfl) (by rw [f_X8_undo, if_pos h1]; rfl) (by rw [f_X8_undo, if_pos h1])
