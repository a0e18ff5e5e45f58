/-- TideVault.charAt(I)C -/
def f_X8_charAt (M : tvM) (x1 : Int32) : Option String × Int32 × tvM := (if x1 < 0 then ((some "java/lang/IndexOutOfBoundsException"), 0, M) else (if x1 < (tgi M 247 1) then (none, (f_X3_at M x1), M) else ((some "java/lang/IndexOutOfBoundsException"), 0, M)))
theorem m_X8_charAt (G : tvG) (M : tvM) (x1 : Int32) : tvRun G yX8_charAt cX8_charAt 2 (some .char) 6 1 6 tvP0 tvP0 [.ref (G.2.1 + 0), .int x1] M (tvOx (some (.int (f_X8_charAt M x1).2.1)) (f_X8_charAt M x1).1) M := by
  refine tvRun.of yk_X8_charAt rfl [some (.ref (G.2.1 + 0)), some (.int x1)] rfl (Nat.le_of_ble_eq_true rfl) ?_
  intro E hG C hQ; subst hG
  refine tv_iload_n C dk_X8_charAt_0 rfl ?_
  refine tv_if_lt C dk_X8_charAt_1 (fun h1 => ?_) (fun h1 => ?_)
  · exact tv_throwW C tvP0_ex hQ th_RX8_294_296 dk_X8_charAt_15 dk_X8_charAt_18 dk_X8_charAt_19 dk_X8_charAt_22 dk_X8_charAt_25 (Nat.le_of_ble_eq_true rfl) (Nat.le_of_ble_eq_true rfl) (by rw [f_X8_charAt, if_pos h1]; rfl) (rfl)
  refine tv_iload_n C dk_X8_charAt_4 rfl ?_
  refine tv_aload_n C dk_X8_charAt_5 rfl ?_
  refine tv_getR (r := 247) C dk_X8_charAt_6 fl_RX8_39 (Nat.le_of_ble_eq_true rfl) rfl rfl (fun _ _ _ _ => rfl) ?_
  refine tv_getI C dk_X8_charAt_9 fl_RX8_291 (Nat.le_of_ble_eq_true rfl) rfl (fun _ _ _ _ => rfl) ?_
  refine tv_icmp_lt C dk_X8_charAt_12 (fun h2 => ?_) (fun h2 => ?_)
  · refine tv_aload_n C dk_X8_charAt_26 rfl ?_
    refine tv_getR (r := 247) C dk_X8_charAt_27 fl_RX8_39 (Nat.le_of_ble_eq_true rfl) rfl rfl (fun _ _ _ _ => rfl) ?_
    refine tv_iload_n C dk_X8_charAt_30 rfl ?_
    refine tv_cV1 C dk_X8_charAt_31 ml_RX8_299 yk_X3_at yi_X3_at (m_X3_at _ M x1) (Nat.le_of_ble_eq_true rfl) rfl rfl rfl rfl (Nat.le_of_ble_eq_true rfl) (Nat.le_of_ble_eq_true rfl) (Nat.le_of_ble_eq_true rfl) (Nat.le_of_ble_eq_true rfl) (Nat.le_of_ble_eq_true rfl) ?_
    exact tv_iret C hQ dk_X8_charAt_34 (fz_X3_at) (by rw [f_X8_charAt, if_neg h1, if_pos h2]; rfl) rfl
  exact tv_throwW C tvP0_ex hQ th_RX8_294_296 dk_X8_charAt_15 dk_X8_charAt_18 dk_X8_charAt_19 dk_X8_charAt_22 dk_X8_charAt_25 (Nat.le_of_ble_eq_true rfl) (Nat.le_of_ble_eq_true rfl) (by rw [f_X8_charAt, if_neg h1, if_neg h2]; rfl) (rfl)
/-- TideVault.type(C)I -/
def f_X8_type (M : tvM) (x1 : Int32) : Option String × Int32 × tvM := (if (f_X5_isFull M) = 0 then (none, (f_X5_append M x1).1, (f_X5_append M x1).2) else ((some "java/lang/IllegalStateException"), 0, M))
theorem m_X8_type (G : tvG) (M : tvM) (x1 : Int32) : tvRun G yX8_type cX8_type 2 (some .int) 6 1 6 tvP0 tvP0 [.ref (G.2.1 + 0), .int x1] M (tvOx (some (.int (f_X8_type M x1).2.1)) (f_X8_type M x1).1) ((f_X8_type M x1).2.2) := by
  refine tvRun.of yk_X8_type rfl [some (.ref (G.2.1 + 0)), some (.int x1)] rfl (Nat.le_of_ble_eq_true rfl) ?_
  intro E hG C hQ; subst hG
  refine tv_aload_n C dk_X8_type_0 rfl ?_
  refine tv_getR (r := 243) C dk_X8_type_1 fl_RX8_32 (Nat.le_of_ble_eq_true rfl) rfl rfl (fun _ _ _ _ => rfl) ?_
  refine tv_cV1 C dk_X8_type_4 ml_RX8_302 yk_X5_isFull yi_X5_isFull (m_X5_isFull _ M) (Nat.le_of_ble_eq_true rfl) rfl rfl rfl rfl (Nat.le_of_ble_eq_true rfl) (Nat.le_of_ble_eq_true rfl) (Nat.le_of_ble_eq_true rfl) (Nat.le_of_ble_eq_true rfl) (Nat.le_of_ble_eq_true rfl) ?_
  refine tv_if_eq C dk_X8_type_7 (fun h1 => ?_) (fun h1 => ?_)
  · refine tv_aload_n C dk_X8_type_21 rfl ?_
    refine tv_getR (r := 243) C dk_X8_type_22 fl_RX8_32 (Nat.le_of_ble_eq_true rfl) rfl rfl (fun _ _ _ _ => rfl) ?_
    refine tv_iload_n C dk_X8_type_25 rfl ?_
    refine tv_cV1 C dk_X8_type_26 ml_RX8_310 yk_X5_append yi_X5_append (m_X5_append _ M x1) (Nat.le_of_ble_eq_true rfl) rfl rfl rfl rfl (Nat.le_of_ble_eq_true rfl) (Nat.le_of_ble_eq_true rfl) (Nat.le_of_ble_eq_true rfl) (Nat.le_of_ble_eq_true rfl) (Nat.le_of_ble_eq_true rfl) ?_
    exact tv_iret C hQ dk_X8_type_29 rfl (by rw [f_X8_type, if_pos h1]; rfl) (by rw [f_X8_type, if_pos h1])
  exact tv_throwW C tvP0_ex hQ th_RX8_305_307 dk_X8_type_10 dk_X8_type_13 dk_X8_type_14 dk_X8_type_17 dk_X8_type_20 (Nat.le_of_ble_eq_true rfl) (Nat.le_of_ble_eq_true rfl) (by rw [f_X8_type, if_neg h1]; rfl) (by rw [f_X8_type, if_neg h1])
/-- TideVault.errorPosition()I -/
def f_X8_errorPosition (M : tvM) : Option String × Int32 × tvM := (if (tgi M 0 7) = (-1) then ((some "java/util/NoSuchElementException"), 0, M) else (none, (tgi M 0 7), M))
theorem m_X8_errorPosition (G : tvG) (M : tvM) : tvRun G yX8_errorPosition cX8_errorPosition 1 (some .int) 6 1 6 tvP0 tvP0 [.ref (G.2.1 + 0)] M (tvOx (some (.int (f_X8_errorPosition M).2.1)) (f_X8_errorPosition M).1) M := by
  refine tvRun.of yk_X8_errorPosition rfl [some (.ref (G.2.1 + 0))] rfl (Nat.le_of_ble_eq_true rfl) ?_
  intro E hG C hQ; subst hG
  refine tv_aload_n C dk_X8_errorPosition_0 rfl ?_
  refine tv_getI C dk_X8_errorPosition_1 fl_RX8_43 (Nat.le_of_ble_eq_true rfl) rfl (fun _ _ _ _ => rfl) ?_
  refine tv_iconst (v := (-1)) C dk_X8_errorPosition_4 (by decide) ?_
  refine tv_icmp_ne C dk_X8_errorPosition_5 (fun h1 => ?_) (fun h1 => ?_)
  · refine tv_aload_n C dk_X8_errorPosition_19 rfl ?_
    refine tv_getI C dk_X8_errorPosition_20 fl_RX8_43 (Nat.le_of_ble_eq_true rfl) rfl (fun _ _ _ _ => rfl) ?_
    exact tv_iret C hQ dk_X8_errorPosition_23 rfl (by rw [f_X8_errorPosition, if_neg h1]; rfl) rfl
  exact tv_throwNW C tvP0_ex hQ th_RX8_215_353 dk_X8_errorPosition_8 dk_X8_errorPosition_11 dk_X8_errorPosition_12 dk_X8_errorPosition_15 dk_X8_errorPosition_18 (Nat.le_of_ble_eq_true rfl) (Nat.le_of_ble_eq_true rfl) (by rw [f_X8_errorPosition, if_pos h1]; rfl) (rfl)
/-- TideVault.failedCommand()I -/
def f_X8_failedCommand (M : tvM) : Option String × Int32 × tvM := (if (f_X8_refuse M (f_X8_refusalWithoutFailure M)).1 = none then (none, (tgi M 0 8), M) else ((f_X8_refuse M (f_X8_refusalWithoutFailure M)).1, 0, M))
theorem m_X8_failedCommand (G : tvG) (M : tvM) : tvRun G yX8_failedCommand cX8_failedCommand 1 (some .int) 7 1 6 tvP0 tvP0 [.ref (G.2.1 + 0)] M (tvOx (some (.int (f_X8_failedCommand M).2.1)) (f_X8_failedCommand M).1) M := by
  refine tvRun.of yk_X8_failedCommand rfl [some (.ref (G.2.1 + 0))] rfl (Nat.le_of_ble_eq_true rfl) ?_
  intro E hG C hQ; subst hG
  refine tv_aload_n C dk_X8_failedCommand_0 rfl ?_
  refine tv_cV1 C dk_X8_failedCommand_1 ml_RX8_355 yk_X8_refusalWithoutFailure yi_X8_refusalWithoutFailure (m_X8_refusalWithoutFailure _ M) (Nat.le_of_ble_eq_true rfl) rfl rfl rfl rfl (Nat.le_of_ble_eq_true rfl) (Nat.le_of_ble_eq_true rfl) (Nat.le_of_ble_eq_true rfl) (Nat.le_of_ble_eq_true rfl) (Nat.le_of_ble_eq_true rfl) ?_
  refine tv_cSx C dk_X8_failedCommand_4 ml_RX8_54 yk_X8_refuse yi_X8_refuse (n_X8_refuse _ M (f_X8_refusalWithoutFailure M)) rfl rfl (Nat.le_of_ble_eq_true rfl) (Nat.le_of_ble_eq_true rfl) (Nat.le_of_ble_eq_true rfl) (Nat.le_of_ble_eq_true rfl) (Nat.le_of_ble_eq_true rfl) rfl rfl rfl (fun _ h1e => tv_out C hQ (by rw [f_X8_failedCommand, if_neg (tv_sn h1e)]; rw [h1e]; rfl) (rfl)) (fun h1 => ?_)
  refine tv_aload_n C dk_X8_failedCommand_7 rfl ?_
  refine tv_getI C dk_X8_failedCommand_8 fl_RX8_47 (Nat.le_of_ble_eq_true rfl) rfl (fun _ _ _ _ => rfl) ?_
  exact tv_iret C hQ dk_X8_failedCommand_11 rfl (by rw [f_X8_failedCommand, if_pos h1]; rfl) rfl
