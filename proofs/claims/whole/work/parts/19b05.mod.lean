/-- TideVaultModel.save()I -/
def f_X9_save (M : tvM) : Int32 × tvM := ((tgi (tpi (f_X9_copies (tpi M 249 5 0) 250 0 252 0) 249 9 1) 250 10), (tpi (f_X9_copies (tpi M 249 5 0) 250 0 252 0) 249 9 1))
theorem m_X9_save (G : tvG) (M : tvM) : tvRun G yX9_save cX9_save 1 (some .int) 2 0 0 tvP0 tvP0 [.ref (G.2.1 + 249)] M (.inl (some (.int (f_X9_save M).1))) ((f_X9_save M).2) := by
  refine tvRun.of yk_X9_save rfl [some (.ref (G.2.1 + 249))] rfl (Nat.le_of_ble_eq_true rfl) ?_
  intro E hG C hQ; subst hG
  refine tv_aload_n C dk_X9_save_0 rfl ?_
  refine tv_iconst (v := 0) C dk_X9_save_1 (by decide) ?_
  refine tv_putI C tvP0_ex dk_X9_save_2 fl_RX9_38 fw_9_5 (Nat.le_of_ble_eq_true rfl) rfl rfl (fun _ _ _ _ _ => rfl) rfl rfl ?_
  refine tv_aload_n C dk_X9_save_5 rfl ?_
  refine tv_getR (r := 250) C dk_X9_save_6 fl_RX9_9 (Nat.le_of_ble_eq_true rfl) rfl rfl (fun _ _ _ _ => rfl) ?_
  refine tv_iconst (v := 0) C dk_X9_save_9 (by decide) ?_
  refine tv_aload_n C dk_X9_save_10 rfl ?_
  refine tv_getR (r := 252) C dk_X9_save_11 fl_RX9_16 (Nat.le_of_ble_eq_true rfl) rfl rfl (fun _ _ _ _ => rfl) ?_
  refine tv_iconst (v := 0) C dk_X9_save_14 (by decide) ?_
  refine tv_cS0 C dk_X9_save_15 ml_RX9_41 yk_X9_copies yi_X9_copies (m_X9_copies _ (tpi M 249 5 0) (a0 := 250) (a := 252) (n0 := 202) (n := 202) (Nat.le_of_ble_eq_true rfl) rfl (Nat.le_of_ble_eq_true rfl) rfl 0 0 ⟨0, 0, rfl, rfl, (Nat.le_of_ble_eq_true rfl), (Nat.le_of_ble_eq_true rfl), (Nat.le_of_ble_eq_true rfl), (Nat.le_of_ble_eq_true rfl)⟩) rfl rfl (Nat.le_of_ble_eq_true rfl) (Nat.le_of_ble_eq_true rfl) (Nat.le_of_ble_eq_true rfl) (Nat.le_of_ble_eq_true rfl) (Nat.le_of_ble_eq_true rfl) ?_
  refine tv_aload_n C dk_X9_save_18 rfl ?_
  refine tv_iconst (v := 1) C dk_X9_save_19 (by decide) ?_
  refine tv_putI C tvP0_ex dk_X9_save_20 fl_RX9_273 fw_9_9 (Nat.le_of_ble_eq_true rfl) rfl rfl (fun _ _ _ _ _ => rfl) rfl rfl ?_
  refine tv_aload_n C dk_X9_save_23 rfl ?_
  refine tv_getR (r := 250) C dk_X9_save_24 fl_RX9_9 (Nat.le_of_ble_eq_true rfl) rfl rfl (fun _ _ _ _ => rfl) ?_
  refine tv_bipush (v := 10) C dk_X9_save_27 (by decide) ?_
  refine tv_iald (j := 10) rfl C dk_X9_save_29 (Nat.le_of_ble_eq_true rfl) rfl (vp_in_nI (n := 10) (by decide) (by decide)) ?_
  exact tv_iret C hQ dk_X9_save_30 rfl (by rw [f_X9_save]) (by rw [f_X9_save])
/-- TideVaultModel.restore()I -/
def f_X9_restore (M : tvM) : Int32 × tvM := (if (tgi M 249 9) = 0 then (0, (f_X9_isThrown M 1 1).2) else ((tgi (tpi (f_X9_copies ((f_X9_isThrown M 0 1).2) 252 0 250 0) 249 4 0) 250 10), (tpi (f_X9_copies ((f_X9_isThrown M 0 1).2) 252 0 250 0) 249 4 0)))
theorem m_X9_restore (G : tvG) (M : tvM) : tvRun G yX9_restore cX9_restore 1 (some .int) 2 0 0 tvP0 tvP0 [.ref (G.2.1 + 249)] M (.inl (some (.int (f_X9_restore M).1))) ((f_X9_restore M).2) := by
  refine tvRun.of yk_X9_restore rfl [some (.ref (G.2.1 + 249))] rfl (Nat.le_of_ble_eq_true rfl) ?_
  intro E hG C hQ; subst hG
  refine tv_aload_n C dk_X9_restore_0 rfl ?_
  refine tv_aload_n C dk_X9_restore_1 rfl ?_
  refine tv_getI C dk_X9_restore_2 fl_RX9_273 (Nat.le_of_ble_eq_true rfl) rfl (fun _ _ _ _ => rfl) ?_
  refine tv_if_ne C dk_X9_restore_5 (fun h1 => ?_) (fun h1 => ?_)
  · refine tv_iconst (v := 0) C dk_X9_restore_12 (by decide) ?_
    refine tv_iconst (v := 1) C dk_X9_restore_13 (by decide) ?_
    refine tv_cV1 C dk_X9_restore_14 ml_RX9_62 yk_X9_isThrown yi_X9_isThrown (m_X9_isThrown _ M 0 1 (tv_qt0 _ _)) (Nat.le_of_ble_eq_true rfl) rfl rfl rfl rfl (Nat.le_of_ble_eq_true rfl) (Nat.le_of_ble_eq_true rfl) (Nat.le_of_ble_eq_true rfl) (Nat.le_of_ble_eq_true rfl) (Nat.le_of_ble_eq_true rfl) ?_
    refine tv_ti (v := 0) rfl ?_
    refine tv_if_eq C dk_X9_restore_17 (fun _ => ?_) (fun h => absurd h (by decide))
    refine tv_aload_n C dk_X9_restore_22 rfl ?_
    refine tv_getR (r := 252) C dk_X9_restore_23 fl_RX9_16 (Nat.le_of_ble_eq_true rfl) rfl rfl (fun _ _ _ _ => rfl) ?_
    refine tv_iconst (v := 0) C dk_X9_restore_26 (by decide) ?_
    refine tv_aload_n C dk_X9_restore_27 rfl ?_
    refine tv_getR (r := 250) C dk_X9_restore_28 fl_RX9_9 (Nat.le_of_ble_eq_true rfl) rfl rfl (fun _ _ _ _ => rfl) ?_
    refine tv_iconst (v := 0) C dk_X9_restore_31 (by decide) ?_
    refine tv_cS0 C dk_X9_restore_32 ml_RX9_41 yk_X9_copies yi_X9_copies (m_X9_copies _ ((f_X9_isThrown M 0 1).2) (a0 := 252) (a := 250) (n0 := 202) (n := 202) (Nat.le_of_ble_eq_true rfl) rfl (Nat.le_of_ble_eq_true rfl) rfl 0 0 ⟨0, 0, rfl, rfl, (Nat.le_of_ble_eq_true rfl), (Nat.le_of_ble_eq_true rfl), (Nat.le_of_ble_eq_true rfl), (Nat.le_of_ble_eq_true rfl)⟩) rfl rfl (Nat.le_of_ble_eq_true rfl) (Nat.le_of_ble_eq_true rfl) (Nat.le_of_ble_eq_true rfl) (Nat.le_of_ble_eq_true rfl) (Nat.le_of_ble_eq_true rfl) ?_
    refine tv_aload_n C dk_X9_restore_35 rfl ?_
    refine tv_iconst (v := 0) C dk_X9_restore_36 (by decide) ?_
    refine tv_putI C tvP0_ex dk_X9_restore_37 fl_RX9_45 fw_9_4 (Nat.le_of_ble_eq_true rfl) rfl rfl (fun _ _ _ _ _ => rfl) rfl rfl ?_
    refine tv_aload_n C dk_X9_restore_40 rfl ?_
    refine tv_getR (r := 250) C dk_X9_restore_41 fl_RX9_9 (Nat.le_of_ble_eq_true rfl) rfl rfl (fun _ _ _ _ => rfl) ?_
    refine tv_bipush (v := 10) C dk_X9_restore_44 (by decide) ?_
    refine tv_iald (j := 10) rfl C dk_X9_restore_46 (Nat.le_of_ble_eq_true rfl) rfl (vp_in_nI (n := 10) (by decide) (by decide)) ?_
    exact tv_iret C hQ dk_X9_restore_47 rfl (by rw [f_X9_restore, if_neg h1]) (by rw [f_X9_restore, if_neg h1])
  refine tv_iconst (v := 1) C dk_X9_restore_8 (by decide) ?_
  refine tv_goto C dk_X9_restore_9 ?_
  refine tv_iconst (v := 1) C dk_X9_restore_13 (by decide) ?_
  refine tv_cV1 C dk_X9_restore_14 ml_RX9_62 yk_X9_isThrown yi_X9_isThrown (m_X9_isThrown _ M 1 1 (tv_qt1 _ _)) (Nat.le_of_ble_eq_true rfl) rfl rfl rfl rfl (Nat.le_of_ble_eq_true rfl) (Nat.le_of_ble_eq_true rfl) (Nat.le_of_ble_eq_true rfl) (Nat.le_of_ble_eq_true rfl) (Nat.le_of_ble_eq_true rfl) ?_
  refine tv_ti (v := 1) rfl ?_
  refine tv_if_eq C dk_X9_restore_17 (fun h => absurd h (by decide)) (fun _ => ?_)
  refine tv_iconst (v := 0) C dk_X9_restore_20 (by decide) ?_
  exact tv_iret C hQ dk_X9_restore_21 rfl (by rw [f_X9_restore, if_pos h1]) (by rw [f_X9_restore, if_pos h1])
