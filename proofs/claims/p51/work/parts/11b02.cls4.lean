/-- TideVault$Line.addNumber(I)V -/
def f_X3_addNumber (M : tvM) (x1 : Int32) : tvM := (if x1 < 10 then (f_X3_add M (((48 + (x1 - x1 / 10 * 10)).toUInt32 % 65536).toInt32)) else (f_X3_add (f_X3_add M (((48 + (x1 / 10)).toUInt32 % 65536).toInt32)) (((48 + (x1 - x1 / 10 * 10)).toUInt32 % 65536).toInt32)))
theorem m_X3_addNumber (G : tvG) (M : tvM) (x1 : Int32) : tvRun G yX3_addNumber cX3_addNumber 2 none 2 0 0 tvP0 tvP0 [.ref (G.2.1 + 247), .int x1] M (.inl none) (f_X3_addNumber M x1) := by
  refine tvRun.of yk_X3_addNumber rfl [some (.ref (G.2.1 + 247)), some (.int x1)] rfl (Nat.le_of_ble_eq_true rfl) ?_
  intro E hG C hQ; subst hG
  refine tv_iload_n C dk_X3_addNumber_0 rfl ?_
  refine tv_bipush (v := 10) C dk_X3_addNumber_1 (by decide) ?_
  refine tv_icmp_lt C dk_X3_addNumber_3 (fun h1 => ?_) (fun h1 => ?_)
  · refine tv_aload_n C dk_X3_addNumber_18 rfl ?_
    refine tv_bipush (v := 48) C dk_X3_addNumber_19 (by decide) ?_
    refine tv_iload_n C dk_X3_addNumber_21 rfl ?_
    refine tv_bipush (v := 10) C dk_X3_addNumber_22 (by decide) ?_
    refine tv_irem C dk_X3_addNumber_24 (by decide) ?_
    refine tv_iadd C dk_X3_addNumber_25 ?_
    refine tv_i2c C dk_X3_addNumber_26 ?_
    refine tv_cV0 C dk_X3_addNumber_27 ml_RX3_19 yk_X3_add yi_X3_add (m_X3_add _ M (((48 + (x1 - x1 / 10 * 10)).toUInt32 % 65536).toInt32)) (Nat.le_of_ble_eq_true rfl) rfl rfl rfl rfl (Nat.le_of_ble_eq_true rfl) (Nat.le_of_ble_eq_true rfl) (Nat.le_of_ble_eq_true rfl) (Nat.le_of_ble_eq_true rfl) (Nat.le_of_ble_eq_true rfl) ?_
    exact tv_vret C hQ dk_X3_addNumber_30 rfl (by rw [f_X3_addNumber, if_pos h1])
  refine tv_aload_n C dk_X3_addNumber_6 rfl ?_
  refine tv_bipush (v := 48) C dk_X3_addNumber_7 (by decide) ?_
  refine tv_iload_n C dk_X3_addNumber_9 rfl ?_
  refine tv_bipush (v := 10) C dk_X3_addNumber_10 (by decide) ?_
  refine tv_idiv C dk_X3_addNumber_12 (by decide) ?_
  refine tv_iadd C dk_X3_addNumber_13 ?_
  refine tv_i2c C dk_X3_addNumber_14 ?_
  refine tv_cV0 C dk_X3_addNumber_15 ml_RX3_19 yk_X3_add yi_X3_add (m_X3_add _ M (((48 + (x1 / 10)).toUInt32 % 65536).toInt32)) (Nat.le_of_ble_eq_true rfl) rfl rfl rfl rfl (Nat.le_of_ble_eq_true rfl) (Nat.le_of_ble_eq_true rfl) (Nat.le_of_ble_eq_true rfl) (Nat.le_of_ble_eq_true rfl) (Nat.le_of_ble_eq_true rfl) ?_
  refine tv_aload_n C dk_X3_addNumber_18 rfl ?_
  refine tv_bipush (v := 48) C dk_X3_addNumber_19 (by decide) ?_
  refine tv_iload_n C dk_X3_addNumber_21 rfl ?_
  refine tv_bipush (v := 10) C dk_X3_addNumber_22 (by decide) ?_
  refine tv_irem C dk_X3_addNumber_24 (by decide) ?_
  refine tv_iadd C dk_X3_addNumber_25 ?_
  refine tv_i2c C dk_X3_addNumber_26 ?_
  refine tv_cV0 C dk_X3_addNumber_27 ml_RX3_19 yk_X3_add yi_X3_add (m_X3_add _ (f_X3_add M (((48 + (x1 / 10)).toUInt32 % 65536).toInt32)) (((48 + (x1 - x1 / 10 * 10)).toUInt32 % 65536).toInt32)) (Nat.le_of_ble_eq_true rfl) rfl rfl rfl rfl (Nat.le_of_ble_eq_true rfl) (Nat.le_of_ble_eq_true rfl) (Nat.le_of_ble_eq_true rfl) (Nat.le_of_ble_eq_true rfl) (Nat.le_of_ble_eq_true rfl) ?_
  exact tv_vret C hQ dk_X3_addNumber_30 rfl (by rw [f_X3_addNumber, if_neg h1])
/-- TideVault$Program.isFull()Z -/
def f_X5_isFull (M : tvM) : Int32 := (if (tgi M 243 1) < 60 then 0 else 1)
theorem m_X5_isFull (G : tvG) (M : tvM) : tvRun G yX5_isFull cX5_isFull 1 (some .boolean) 1 0 0 tvP0 tvP0 [.ref (G.2.1 + 243)] M (.inl (some (.int (f_X5_isFull M)))) M := by
  refine tvRun.of yk_X5_isFull rfl [some (.ref (G.2.1 + 243))] rfl (Nat.le_of_ble_eq_true rfl) ?_
  intro E hG C hQ; subst hG
  refine tv_aload_n C dk_X5_isFull_0 rfl ?_
  refine tv_getI C dk_X5_isFull_1 fl_RX5_22 (Nat.le_of_ble_eq_true rfl) rfl (fun _ _ _ _ => rfl) ?_
  refine tv_bipush (v := 60) C dk_X5_isFull_4 (by decide) ?_
  refine tv_icmp_lt C dk_X5_isFull_6 (fun h1 => ?_) (fun h1 => ?_)
  · refine tv_iconst (v := 0) C dk_X5_isFull_13 (by decide) ?_
    exact tv_iret C hQ dk_X5_isFull_14 rfl (by rw [f_X5_isFull, if_pos h1]) rfl
  refine tv_iconst (v := 1) C dk_X5_isFull_9 (by decide) ?_
  refine tv_goto C dk_X5_isFull_10 ?_
  exact tv_iret C hQ dk_X5_isFull_14 rfl (by rw [f_X5_isFull, if_neg h1]) rfl
theorem fz_X5_isFull {M : tvM} : narrow .boolean (.int (f_X5_isFull M)) = .int (f_X5_isFull M) := by
  unfold f_X5_isFull; repeat' split
  all_goals first | rfl
/-- TideVault$Program.append(C)I -/
def f_X5_append (M : tvM) (x1 : Int32) : Int32 × tvM := (if (tgi M 243 1) < 0 then ((tgi M 243 1), M) else (if 60 ≤ (tgi M 243 1) then ((tgi M 243 1), M) else ((tgi (tpi (tpi M 244 (tgi M 243 1).toNatClampNeg x1) 243 1 ((tgi (tpi M 244 (tgi M 243 1).toNatClampNeg x1) 243 1) + 1)) 243 1), (tpi (tpi M 244 (tgi M 243 1).toNatClampNeg x1) 243 1 ((tgi (tpi M 244 (tgi M 243 1).toNatClampNeg x1) 243 1) + 1)))))
theorem m_X5_append (G : tvG) (M : tvM) (x1 : Int32) : tvRun G yX5_append cX5_append 2 (some .int) 1 0 0 tvP0 tvP0 [.ref (G.2.1 + 243), .int x1] M (.inl (some (.int (f_X5_append M x1).1))) ((f_X5_append M x1).2) := by
  refine tvRun.of yk_X5_append rfl [some (.ref (G.2.1 + 243)), some (.int x1)] rfl (Nat.le_of_ble_eq_true rfl) ?_
  intro E hG C hQ; subst hG
  refine tv_aload_n C dk_X5_append_0 rfl ?_
  refine tv_getI C dk_X5_append_1 fl_RX5_22 (Nat.le_of_ble_eq_true rfl) rfl (fun _ _ _ _ => rfl) ?_
  refine tv_if_lt C dk_X5_append_4 (fun h1 => ?_) (fun h1 => ?_)
  · refine tv_aload_n C dk_X5_append_36 rfl ?_
    refine tv_getI C dk_X5_append_37 fl_RX5_22 (Nat.le_of_ble_eq_true rfl) rfl (fun _ _ _ _ => rfl) ?_
    exact tv_iret C hQ dk_X5_append_40 rfl (by rw [f_X5_append, if_pos h1]) (by rw [f_X5_append, if_pos h1])
  refine tv_aload_n C dk_X5_append_7 rfl ?_
  refine tv_getI C dk_X5_append_8 fl_RX5_22 (Nat.le_of_ble_eq_true rfl) rfl (fun _ _ _ _ => rfl) ?_
  refine tv_bipush (v := 60) C dk_X5_append_11 (by decide) ?_
  refine tv_icmp_ge C dk_X5_append_13 (fun h2 => ?_) (fun h2 => ?_)
  · refine tv_aload_n C dk_X5_append_36 rfl ?_
    refine tv_getI C dk_X5_append_37 fl_RX5_22 (Nat.le_of_ble_eq_true rfl) rfl (fun _ _ _ _ => rfl) ?_
    exact tv_iret C hQ dk_X5_append_40 rfl (by rw [f_X5_append, if_neg h1, if_pos h2]) (by rw [f_X5_append, if_neg h1, if_pos h2])
  refine tv_aload_n C dk_X5_append_16 rfl ?_
  refine tv_getR (r := 244) C dk_X5_append_17 fl_RX5_9 (Nat.le_of_ble_eq_true rfl) rfl rfl (fun _ _ _ _ => rfl) ?_
  refine tv_aload_n C dk_X5_append_20 rfl ?_
  refine tv_getI C dk_X5_append_21 fl_RX5_22 (Nat.le_of_ble_eq_true rfl) rfl (fun _ _ _ _ => rfl) ?_
  refine tv_iload_n C dk_X5_append_24 rfl ?_
  refine tv_cast (j := (tgi M 243 1).toNatClampNeg) rfl C tvP0_ex dk_X5_append_25 (Nat.le_of_ble_eq_true rfl) rfl (tvin_2 (n := 60) h1 h2 rfl (by decide)) ?_
  refine tv_aload_n C dk_X5_append_26 rfl ?_
  refine tv_dup C dk_X5_append_27 rfl ?_
  refine tv_getI C dk_X5_append_28 fl_RX5_22 (Nat.le_of_ble_eq_true rfl) rfl (fun _ _ _ _ => rfl) ?_
  refine tv_iconst (v := 1) C dk_X5_append_31 (by decide) ?_
  refine tv_iadd C dk_X5_append_32 ?_
  refine tv_putI C tvP0_ex dk_X5_append_33 fl_RX5_22 fw_5_1 (Nat.le_of_ble_eq_true rfl) rfl rfl (fun _ _ _ _ _ => rfl) rfl rfl ?_
  refine tv_aload_n C dk_X5_append_36 rfl ?_
  refine tv_getI C dk_X5_append_37 fl_RX5_22 (Nat.le_of_ble_eq_true rfl) rfl (fun _ _ _ _ => rfl) ?_
  exact tv_iret C hQ dk_X5_append_40 rfl (by rw [f_X5_append, if_neg h1, if_neg h2]) (by rw [f_X5_append, if_neg h1, if_neg h2])
/-- TideVault$Program.empty()V -/
def f_X5_empty (M : tvM) : tvM := (tpi M 243 1 0)
theorem m_X5_empty (G : tvG) (M : tvM) : tvRun G yX5_empty cX5_empty 1 none 1 0 0 tvP0 tvP0 [.ref (G.2.1 + 243)] M (.inl none) (f_X5_empty M) := by
  refine tvRun.of yk_X5_empty rfl [some (.ref (G.2.1 + 243))] rfl (Nat.le_of_ble_eq_true rfl) ?_
  intro E hG C hQ; subst hG
  refine tv_aload_n C dk_X5_empty_0 rfl ?_
  refine tv_iconst (v := 0) C dk_X5_empty_1 (by decide) ?_
  refine tv_putI C tvP0_ex dk_X5_empty_2 fl_RX5_22 fw_5_1 (Nat.le_of_ble_eq_true rfl) rfl rfl (fun _ _ _ _ _ => rfl) rfl rfl ?_
  exact tv_vret C hQ dk_X5_empty_5 rfl (by rw [f_X5_empty])
