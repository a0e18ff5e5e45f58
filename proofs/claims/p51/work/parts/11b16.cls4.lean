/-- TideVault.save()I -/
def f_X8_save (M : tvM) : Int32 × tvM := ((tgi (tpi (f_X6_copyFrom M 41 1) 0 6 1) (1 + 6) 0), (tpi (f_X6_copyFrom M 41 1) 0 6 1))
theorem m_X8_save (G : tvG) (M : tvM) : tvRun G yX8_save cX8_save 1 (some .int) 3 0 0 tvP0 tvP0 [.ref (G.2.1 + 0)] M (.inl (some (.int (f_X8_save M).1))) ((f_X8_save M).2) := by
  refine tvRun.of yk_X8_save rfl [some (.ref (G.2.1 + 0))] rfl (Nat.le_of_ble_eq_true rfl) ?_
  intro E hG C hQ; subst hG
  refine tv_aload_n C dk_X8_save_0 rfl ?_
  refine tv_getR (r := 41) C dk_X8_save_1 fl_RX8_19 (Nat.le_of_ble_eq_true rfl) rfl rfl (fun _ _ _ _ => rfl) ?_
  refine tv_aload_n C dk_X8_save_4 rfl ?_
  refine tv_getR (r := 1) C dk_X8_save_5 fl_RX8_12 (Nat.le_of_ble_eq_true rfl) rfl rfl (fun _ _ _ _ => rfl) ?_
  refine tv_cV0 C dk_X8_save_8 ml_RX8_206 yk_X6_copyFrom yi_X6_copyFrom (m_X6_copyFrom _ M tvSBn_41 tvSBn_1 (by decide)) (tvSB_sh tvSBn_41 0 (by decide)).2 (tvSB_sh tvSBn_41 0 (by decide)).1 rfl rfl rfl (Nat.le_of_ble_eq_true rfl) (Nat.le_of_ble_eq_true rfl) (Nat.le_of_ble_eq_true rfl) (Nat.le_of_ble_eq_true rfl) (Nat.le_of_ble_eq_true rfl) ?_
  refine tv_aload_n C dk_X8_save_11 rfl ?_
  refine tv_iconst (v := 1) C dk_X8_save_12 (by decide) ?_
  refine tv_putI C tvP0_ex dk_X8_save_13 fl_RX8_365 fw_8_6 (Nat.le_of_ble_eq_true rfl) rfl rfl (fun _ _ _ _ _ => rfl) rfl rfl ?_
  refine tv_aload_n C dk_X8_save_16 rfl ?_
  refine tv_getR (r := 1) C dk_X8_save_17 fl_RX8_12 (Nat.le_of_ble_eq_true rfl) rfl rfl (fun _ _ _ _ => rfl) ?_
  refine tv_getR (r := (1 + 6)) C dk_X8_save_20 fl_RX8_75 (tvSB_sh tvSBn_1 0 (by decide)).2 (tvSB_sh tvSBn_1 0 (by decide)).1 (tvSB_rho tvSBn_1 (0, 2, 6) (by decide)) (fun _ _ _ _ => rfl) ?_
  refine tv_getI C dk_X8_save_23 fl_RX8_171 (tvSB_sh tvSBn_1 6 (by decide)).2 (tvSB_sh tvSBn_1 6 (by decide)).1 (fun _ _ _ _ => rfl) ?_
  exact tv_iret C hQ dk_X8_save_26 rfl (by rw [f_X8_save]) (by rw [f_X8_save])
/-- TideVault.restore()I -/
def f_X8_restore (M : tvM) : Option String × Int32 × tvM := (if (tgi M 0 6) = 0 then ((some "java/lang/IllegalStateException"), 0, M) else (none, (tgi (f_X1_forget (f_X6_copyFrom M 1 41)) (1 + 6) 0), (f_X1_forget (f_X6_copyFrom M 1 41))))
theorem m_X8_restore (G : tvG) (M : tvM) : tvRun G yX8_restore cX8_restore 1 (some .int) 6 1 6 tvP0 tvP0 [.ref (G.2.1 + 0)] M (tvOx (some (.int (f_X8_restore M).2.1)) (f_X8_restore M).1) ((f_X8_restore M).2.2) := by
  refine tvRun.of yk_X8_restore rfl [some (.ref (G.2.1 + 0))] rfl (Nat.le_of_ble_eq_true rfl) ?_
  intro E hG C hQ; subst hG
  refine tv_aload_n C dk_X8_restore_0 rfl ?_
  refine tv_getI C dk_X8_restore_1 fl_RX8_365 (Nat.le_of_ble_eq_true rfl) rfl (fun _ _ _ _ => rfl) ?_
  refine tv_if_ne C dk_X8_restore_4 (fun h1 => ?_) (fun h1 => ?_)
  · refine tv_aload_n C dk_X8_restore_18 rfl ?_
    refine tv_getR (r := 1) C dk_X8_restore_19 fl_RX8_12 (Nat.le_of_ble_eq_true rfl) rfl rfl (fun _ _ _ _ => rfl) ?_
    refine tv_aload_n C dk_X8_restore_22 rfl ?_
    refine tv_getR (r := 41) C dk_X8_restore_23 fl_RX8_19 (Nat.le_of_ble_eq_true rfl) rfl rfl (fun _ _ _ _ => rfl) ?_
    refine tv_cV0 C dk_X8_restore_26 ml_RX8_206 yk_X6_copyFrom yi_X6_copyFrom (m_X6_copyFrom _ M tvSBn_1 tvSBn_41 (by decide)) (tvSB_sh tvSBn_1 0 (by decide)).2 (tvSB_sh tvSBn_1 0 (by decide)).1 rfl rfl rfl (Nat.le_of_ble_eq_true rfl) (Nat.le_of_ble_eq_true rfl) (Nat.le_of_ble_eq_true rfl) (Nat.le_of_ble_eq_true rfl) (Nat.le_of_ble_eq_true rfl) ?_
    refine tv_aload_n C dk_X8_restore_29 rfl ?_
    refine tv_getR (r := 61) C dk_X8_restore_30 fl_RX8_25 (Nat.le_of_ble_eq_true rfl) rfl rfl (fun _ _ _ _ => rfl) ?_
    refine tv_cV0 C dk_X8_restore_33 ml_RX8_370 yk_X1_forget yi_X1_forget (m_X1_forget _ (f_X6_copyFrom M 1 41)) (Nat.le_of_ble_eq_true rfl) rfl rfl rfl rfl (Nat.le_of_ble_eq_true rfl) (Nat.le_of_ble_eq_true rfl) (Nat.le_of_ble_eq_true rfl) (Nat.le_of_ble_eq_true rfl) (Nat.le_of_ble_eq_true rfl) ?_
    refine tv_aload_n C dk_X8_restore_36 rfl ?_
    refine tv_getR (r := 1) C dk_X8_restore_37 fl_RX8_12 (Nat.le_of_ble_eq_true rfl) rfl rfl (fun _ _ _ _ => rfl) ?_
    refine tv_getR (r := (1 + 6)) C dk_X8_restore_40 fl_RX8_75 (tvSB_sh tvSBn_1 0 (by decide)).2 (tvSB_sh tvSBn_1 0 (by decide)).1 (tvSB_rho tvSBn_1 (0, 2, 6) (by decide)) (fun _ _ _ _ => rfl) ?_
    refine tv_getI C dk_X8_restore_43 fl_RX8_171 (tvSB_sh tvSBn_1 6 (by decide)).2 (tvSB_sh tvSBn_1 6 (by decide)).1 (fun _ _ _ _ => rfl) ?_
    exact tv_iret C hQ dk_X8_restore_46 rfl (by rw [f_X8_restore, if_neg h1]; rfl) (by rw [f_X8_restore, if_neg h1])
  exact tv_throwW C tvP0_ex hQ th_RX8_305_368 dk_X8_restore_7 dk_X8_restore_10 dk_X8_restore_11 dk_X8_restore_14 dk_X8_restore_17 (Nat.le_of_ble_eq_true rfl) (Nat.le_of_ble_eq_true rfl) (by rw [f_X8_restore, if_pos h1]; rfl) (by rw [f_X8_restore, if_pos h1])
