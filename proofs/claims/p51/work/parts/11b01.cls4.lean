/-- TideVault$History.stepBack(LTideVault$State;)I -/
def f_X1_stepBack (M : tvM) : Int32 × tvM := ((tgi (tpi (f_X1_cancel (tpi M 61 1 (f_J9_floorMod_7cf53 M ((tgi M 61 1) - 1) 9))) 61 2 ((tgi (f_X1_cancel (tpi M 61 1 (f_J9_floorMod_7cf53 M ((tgi M 61 1) - 1) 9))) 61 2) - 1)) 61 2), (tpi (f_X1_cancel (tpi M 61 1 (f_J9_floorMod_7cf53 M ((tgi M 61 1) - 1) 9))) 61 2 ((tgi (f_X1_cancel (tpi M 61 1 (f_J9_floorMod_7cf53 M ((tgi M 61 1) - 1) 9))) 61 2) - 1)))
theorem m_X1_stepBack (G : tvG) (M : tvM) : tvRun G yX1_stepBack cX1_stepBack 2 (some .int) 4 0 0 tvP0 tvP0 [.ref (G.2.1 + 61), .ref (G.2.1 + 1)] M (.inl (some (.int (f_X1_stepBack M).1))) ((f_X1_stepBack M).2) := by
  refine tvRun.of yk_X1_stepBack rfl [some (.ref (G.2.1 + 61)), some (.ref (G.2.1 + 1))] rfl (Nat.le_of_ble_eq_true rfl) ?_
  intro E hG C hQ; subst hG
  refine tv_aload_n C dk_X1_stepBack_0 rfl ?_
  refine tv_aload_n C dk_X1_stepBack_1 rfl ?_
  refine tv_getI C dk_X1_stepBack_2 fl_RX1_25 (Nat.le_of_ble_eq_true rfl) rfl (fun _ _ _ _ => rfl) ?_
  refine tv_iconst (v := 1) C dk_X1_stepBack_5 (by decide) ?_
  refine tv_isub C dk_X1_stepBack_6 ?_
  refine tv_bipush (v := 9) C dk_X1_stepBack_7 (by decide) ?_
  refine tv_cS1 C dk_X1_stepBack_9 ml_RX1_29 yk_J9_floorMod_7cf53 yi_J9_floorMod_7cf53 (m_J9_floorMod_7cf53 _ M ((tgi M 61 1) - 1) 9 (by decide)) rfl rfl (Nat.le_of_ble_eq_true rfl) (Nat.le_of_ble_eq_true rfl) (Nat.le_of_ble_eq_true rfl) (Nat.le_of_ble_eq_true rfl) (Nat.le_of_ble_eq_true rfl) ?_
  refine tv_putI C tvP0_ex dk_X1_stepBack_12 fl_RX1_25 fw_1_1 (Nat.le_of_ble_eq_true rfl) rfl rfl (fun _ _ _ _ _ => rfl) rfl rfl ?_
  refine tv_aload_n C dk_X1_stepBack_15 rfl ?_
  refine tv_aload_n C dk_X1_stepBack_16 rfl ?_
  refine tv_cV0 C dk_X1_stepBack_17 ml_RX1_44 yk_X1_cancel yi_X1_cancel (m_X1_cancel _ (tpi M 61 1 (f_J9_floorMod_7cf53 M ((tgi M 61 1) - 1) 9))) (Nat.le_of_ble_eq_true rfl) rfl rfl rfl rfl (Nat.le_of_ble_eq_true rfl) (Nat.le_of_ble_eq_true rfl) (Nat.le_of_ble_eq_true rfl) (Nat.le_of_ble_eq_true rfl) (Nat.le_of_ble_eq_true rfl) ?_
  refine tv_aload_n C dk_X1_stepBack_20 rfl ?_
  refine tv_dup C dk_X1_stepBack_21 rfl ?_
  refine tv_getI C dk_X1_stepBack_22 fl_RX1_38 (Nat.le_of_ble_eq_true rfl) rfl (fun _ _ _ _ => rfl) ?_
  refine tv_iconst (v := 1) C dk_X1_stepBack_25 (by decide) ?_
  refine tv_isub C dk_X1_stepBack_26 ?_
  refine tv_putI C tvP0_ex dk_X1_stepBack_27 fl_RX1_38 fw_1_2 (Nat.le_of_ble_eq_true rfl) rfl rfl (fun _ _ _ _ _ => rfl) rfl rfl ?_
  refine tv_aload_n C dk_X1_stepBack_30 rfl ?_
  refine tv_getI C dk_X1_stepBack_31 fl_RX1_38 (Nat.le_of_ble_eq_true rfl) rfl (fun _ _ _ _ => rfl) ?_
  exact tv_iret C hQ dk_X1_stepBack_34 rfl (by rw [f_X1_stepBack]) (by rw [f_X1_stepBack])
/-- TideVault$History.forget()V -/
def f_X1_forget (M : tvM) : tvM := (tpi M 61 2 0)
theorem m_X1_forget (G : tvG) (M : tvM) : tvRun G yX1_forget cX1_forget 1 none 1 0 0 tvP0 tvP0 [.ref (G.2.1 + 61)] M (.inl none) (f_X1_forget M) := by
  refine tvRun.of yk_X1_forget rfl [some (.ref (G.2.1 + 61))] rfl (Nat.le_of_ble_eq_true rfl) ?_
  intro E hG C hQ; subst hG
  refine tv_aload_n C dk_X1_forget_0 rfl ?_
  refine tv_iconst (v := 0) C dk_X1_forget_1 (by decide) ?_
  refine tv_putI C tvP0_ex dk_X1_forget_2 fl_RX1_38 fw_1_2 (Nat.le_of_ble_eq_true rfl) rfl rfl (fun _ _ _ _ _ => rfl) rfl rfl ?_
  exact tv_vret C hQ dk_X1_forget_5 rfl (by rw [f_X1_forget])
/-- TideVault$Line.empty()V -/
def f_X3_empty (M : tvM) : tvM := (tpi M 247 1 0)
theorem m_X3_empty (G : tvG) (M : tvM) : tvRun G yX3_empty cX3_empty 1 none 1 0 0 tvP0 tvP0 [.ref (G.2.1 + 247)] M (.inl none) (f_X3_empty M) := by
  refine tvRun.of yk_X3_empty rfl [some (.ref (G.2.1 + 247))] rfl (Nat.le_of_ble_eq_true rfl) ?_
  intro E hG C hQ; subst hG
  refine tv_aload_n C dk_X3_empty_0 rfl ?_
  refine tv_iconst (v := 0) C dk_X3_empty_1 (by decide) ?_
  refine tv_putI C tvP0_ex dk_X3_empty_2 fl_RX3_15 fw_3_1 (Nat.le_of_ble_eq_true rfl) rfl rfl (fun _ _ _ _ _ => rfl) rfl rfl ?_
  exact tv_vret C hQ dk_X3_empty_5 rfl (by rw [f_X3_empty])
/-- TideVault$Line.add(C)V -/
def f_X3_add (M : tvM) (x1 : Int32) : tvM := (if (tgi M 247 1) < 0 then M else (if 36 ≤ (tgi M 247 1) then M else (tpi (tpi M 248 (tgi M 247 1).toNatClampNeg x1) 247 1 ((tgi (tpi M 248 (tgi M 247 1).toNatClampNeg x1) 247 1) + 1))))
theorem m_X3_add (G : tvG) (M : tvM) (x1 : Int32) : tvRun G yX3_add cX3_add 2 none 1 0 0 tvP0 tvP0 [.ref (G.2.1 + 247), .int x1] M (.inl none) (f_X3_add M x1) := by
  refine tvRun.of yk_X3_add rfl [some (.ref (G.2.1 + 247)), some (.int x1)] rfl (Nat.le_of_ble_eq_true rfl) ?_
  intro E hG C hQ; subst hG
  refine tv_aload_n C dk_X3_add_0 rfl ?_
  refine tv_getI C dk_X3_add_1 fl_RX3_15 (Nat.le_of_ble_eq_true rfl) rfl (fun _ _ _ _ => rfl) ?_
  refine tv_if_lt C dk_X3_add_4 (fun h1 => ?_) (fun h1 => ?_)
  · exact tv_vret C hQ dk_X3_add_36 rfl (by rw [f_X3_add, if_pos h1])
  refine tv_aload_n C dk_X3_add_7 rfl ?_
  refine tv_getI C dk_X3_add_8 fl_RX3_15 (Nat.le_of_ble_eq_true rfl) rfl (fun _ _ _ _ => rfl) ?_
  refine tv_bipush (v := 36) C dk_X3_add_11 (by decide) ?_
  refine tv_icmp_ge C dk_X3_add_13 (fun h2 => ?_) (fun h2 => ?_)
  · exact tv_vret C hQ dk_X3_add_36 rfl (by rw [f_X3_add, if_neg h1, if_pos h2])
  refine tv_aload_n C dk_X3_add_16 rfl ?_
  refine tv_getR (r := 248) C dk_X3_add_17 fl_RX3_11 (Nat.le_of_ble_eq_true rfl) rfl rfl (fun _ _ _ _ => rfl) ?_
  refine tv_aload_n C dk_X3_add_20 rfl ?_
  refine tv_getI C dk_X3_add_21 fl_RX3_15 (Nat.le_of_ble_eq_true rfl) rfl (fun _ _ _ _ => rfl) ?_
  refine tv_iload_n C dk_X3_add_24 rfl ?_
  refine tv_cast (j := (tgi M 247 1).toNatClampNeg) rfl C tvP0_ex dk_X3_add_25 (Nat.le_of_ble_eq_true rfl) rfl (tvin_2 (n := 36) h1 h2 rfl (by decide)) ?_
  refine tv_aload_n C dk_X3_add_26 rfl ?_
  refine tv_dup C dk_X3_add_27 rfl ?_
  refine tv_getI C dk_X3_add_28 fl_RX3_15 (Nat.le_of_ble_eq_true rfl) rfl (fun _ _ _ _ => rfl) ?_
  refine tv_iconst (v := 1) C dk_X3_add_31 (by decide) ?_
  refine tv_iadd C dk_X3_add_32 ?_
  refine tv_putI C tvP0_ex dk_X3_add_33 fl_RX3_15 fw_3_1 (Nat.le_of_ble_eq_true rfl) rfl rfl (fun _ _ _ _ _ => rfl) rfl rfl ?_
  exact tv_vret C hQ dk_X3_add_36 rfl (by rw [f_X3_add, if_neg h1, if_neg h2])
