/-- TideVault.refusalOfHolderNumber(I)I -/
def f_X8_refusalOfHolderNumber (M : tvM) (x1 : Int32) : Int32 := (if (f_X2_has M 1 x1) = 0 then 1 else 0)
theorem m_X8_refusalOfHolderNumber (G : tvG) (M : tvM) (x1 : Int32) : tvRun G yX8_refusalOfHolderNumber cX8_refusalOfHolderNumber 2 (some .int) 2 0 0 tvP0 tvP0 [.ref (G.2.1 + 0), .int x1] M (.inl (some (.int (f_X8_refusalOfHolderNumber M x1)))) M := by
  refine tvRun.of yk_X8_refusalOfHolderNumber rfl [some (.ref (G.2.1 + 0)), some (.int x1)] rfl (Nat.le_of_ble_eq_true rfl) ?_
  intro E hG C hQ; subst hG
  refine tv_aload_n C dk_X8_refusalOfHolderNumber_0 rfl ?_
  refine tv_getR (r := 1) C dk_X8_refusalOfHolderNumber_1 fl_RX8_12 (Nat.le_of_ble_eq_true rfl) rfl rfl (fun _ _ _ _ => rfl) ?_
  refine tv_getR (r := (1 + 2)) C dk_X8_refusalOfHolderNumber_4 fl_RX8_62 (tvSB_sh tvSBn_1 0 (by decide)).2 (tvSB_sh tvSBn_1 0 (by decide)).1 (tvSB_rho tvSBn_1 (0, 1, 2) (by decide)) (fun _ _ _ _ => rfl) ?_
  refine tv_iload_n C dk_X8_refusalOfHolderNumber_7 rfl ?_
  refine tv_cV1 C dk_X8_refusalOfHolderNumber_8 ml_RX8_395 yk_X2_has yi_X2_has (m_X2_has _ M tvSBn_1 x1) (tvSB_sh tvSBn_1 2 (by decide)).2 (tvSB_sh tvSBn_1 2 (by decide)).1 rfl rfl rfl (Nat.le_of_ble_eq_true rfl) (Nat.le_of_ble_eq_true rfl) (Nat.le_of_ble_eq_true rfl) (Nat.le_of_ble_eq_true rfl) (Nat.le_of_ble_eq_true rfl) ?_
  refine tv_if_eq C dk_X8_refusalOfHolderNumber_11 (fun h1 => ?_) (fun h1 => ?_)
  · refine tv_iconst (v := 1) C dk_X8_refusalOfHolderNumber_18 (by decide) ?_
    exact tv_iret C hQ dk_X8_refusalOfHolderNumber_19 rfl (by rw [f_X8_refusalOfHolderNumber, if_pos h1]) rfl
  refine tv_iconst (v := 0) C dk_X8_refusalOfHolderNumber_14 (by decide) ?_
  refine tv_goto C dk_X8_refusalOfHolderNumber_15 ?_
  exact tv_iret C hQ dk_X8_refusalOfHolderNumber_19 rfl (by rw [f_X8_refusalOfHolderNumber, if_neg h1]) rfl
/-- TideVault.refusalOfBoxNumber(I)I -/
def f_X8_refusalOfBoxNumber (M : tvM) (x1 : Int32) : Int32 := (if (f_X0_has M 1 x1) = 0 then 1 else 0)
theorem m_X8_refusalOfBoxNumber (G : tvG) (M : tvM) (x1 : Int32) : tvRun G yX8_refusalOfBoxNumber cX8_refusalOfBoxNumber 2 (some .int) 2 0 0 tvP0 tvP0 [.ref (G.2.1 + 0), .int x1] M (.inl (some (.int (f_X8_refusalOfBoxNumber M x1)))) M := by
  refine tvRun.of yk_X8_refusalOfBoxNumber rfl [some (.ref (G.2.1 + 0)), some (.int x1)] rfl (Nat.le_of_ble_eq_true rfl) ?_
  intro E hG C hQ; subst hG
  refine tv_aload_n C dk_X8_refusalOfBoxNumber_0 rfl ?_
  refine tv_getR (r := 1) C dk_X8_refusalOfBoxNumber_1 fl_RX8_12 (Nat.le_of_ble_eq_true rfl) rfl rfl (fun _ _ _ _ => rfl) ?_
  refine tv_getR (r := (1 + 6)) C dk_X8_refusalOfBoxNumber_4 fl_RX8_75 (tvSB_sh tvSBn_1 0 (by decide)).2 (tvSB_sh tvSBn_1 0 (by decide)).1 (tvSB_rho tvSBn_1 (0, 2, 6) (by decide)) (fun _ _ _ _ => rfl) ?_
  refine tv_iload_n C dk_X8_refusalOfBoxNumber_7 rfl ?_
  refine tv_cV1 C dk_X8_refusalOfBoxNumber_8 ml_RX8_223 yk_X0_has yi_X0_has (m_X0_has _ M tvSBn_1 x1) (tvSB_sh tvSBn_1 6 (by decide)).2 (tvSB_sh tvSBn_1 6 (by decide)).1 rfl rfl rfl (Nat.le_of_ble_eq_true rfl) (Nat.le_of_ble_eq_true rfl) (Nat.le_of_ble_eq_true rfl) (Nat.le_of_ble_eq_true rfl) (Nat.le_of_ble_eq_true rfl) ?_
  refine tv_if_eq C dk_X8_refusalOfBoxNumber_11 (fun h1 => ?_) (fun h1 => ?_)
  · refine tv_iconst (v := 1) C dk_X8_refusalOfBoxNumber_18 (by decide) ?_
    exact tv_iret C hQ dk_X8_refusalOfBoxNumber_19 rfl (by rw [f_X8_refusalOfBoxNumber, if_pos h1]) rfl
  refine tv_iconst (v := 0) C dk_X8_refusalOfBoxNumber_14 (by decide) ?_
  refine tv_goto C dk_X8_refusalOfBoxNumber_15 ?_
  exact tv_iret C hQ dk_X8_refusalOfBoxNumber_19 rfl (by rw [f_X8_refusalOfBoxNumber, if_neg h1]) rfl
/-- TideVault.refusalUnless(CI)I -/
def f_X8_refusalUnless (M : tvM) (x1 : Int32) (x2 : Int32) : Int32 := (if (f_X0_has M 1 x2) = 0 then 1 else (if (f_X0_statusOf M 1 x2) = x1 then 0 else 5))
theorem m_X8_refusalUnless (G : tvG) (M : tvM) (x1 : Int32) (x2 : Int32) : tvRun G yX8_refusalUnless cX8_refusalUnless 3 (some .int) 3 0 0 tvP0 tvP0 [.ref (G.2.1 + 0), .int x1, .int x2] M (.inl (some (.int (f_X8_refusalUnless M x1 x2)))) M := by
  refine tvRun.of yk_X8_refusalUnless rfl [some (.ref (G.2.1 + 0)), some (.int x1), some (.int x2)] rfl (Nat.le_of_ble_eq_true rfl) ?_
  intro E hG C hQ; subst hG
  refine tv_aload_n C dk_X8_refusalUnless_0 rfl ?_
  refine tv_getR (r := 1) C dk_X8_refusalUnless_1 fl_RX8_12 (Nat.le_of_ble_eq_true rfl) rfl rfl (fun _ _ _ _ => rfl) ?_
  refine tv_getR (r := (1 + 6)) C dk_X8_refusalUnless_4 fl_RX8_75 (tvSB_sh tvSBn_1 0 (by decide)).2 (tvSB_sh tvSBn_1 0 (by decide)).1 (tvSB_rho tvSBn_1 (0, 2, 6) (by decide)) (fun _ _ _ _ => rfl) ?_
  refine tv_iload_n C dk_X8_refusalUnless_7 rfl ?_
  refine tv_cV1 C dk_X8_refusalUnless_8 ml_RX8_223 yk_X0_has yi_X0_has (m_X0_has _ M tvSBn_1 x2) (tvSB_sh tvSBn_1 6 (by decide)).2 (tvSB_sh tvSBn_1 6 (by decide)).1 rfl rfl rfl (Nat.le_of_ble_eq_true rfl) (Nat.le_of_ble_eq_true rfl) (Nat.le_of_ble_eq_true rfl) (Nat.le_of_ble_eq_true rfl) (Nat.le_of_ble_eq_true rfl) ?_
  refine tv_if_ne C dk_X8_refusalUnless_11 (fun h1 => ?_) (fun h1 => ?_)
  · refine tv_aload_n C dk_X8_refusalUnless_16 rfl ?_
    refine tv_getR (r := 1) C dk_X8_refusalUnless_17 fl_RX8_12 (Nat.le_of_ble_eq_true rfl) rfl rfl (fun _ _ _ _ => rfl) ?_
    refine tv_getR (r := (1 + 6)) C dk_X8_refusalUnless_20 fl_RX8_75 (tvSB_sh tvSBn_1 0 (by decide)).2 (tvSB_sh tvSBn_1 0 (by decide)).1 (tvSB_rho tvSBn_1 (0, 2, 6) (by decide)) (fun _ _ _ _ => rfl) ?_
    refine tv_iload_n C dk_X8_refusalUnless_23 rfl ?_
    refine tv_cV1 C dk_X8_refusalUnless_24 ml_RX8_189 yk_X0_statusOf yi_X0_statusOf (m_X0_statusOf _ M tvSBn_1 x2) (tvSB_sh tvSBn_1 6 (by decide)).2 (tvSB_sh tvSBn_1 6 (by decide)).1 rfl rfl rfl (Nat.le_of_ble_eq_true rfl) (Nat.le_of_ble_eq_true rfl) (Nat.le_of_ble_eq_true rfl) (Nat.le_of_ble_eq_true rfl) (Nat.le_of_ble_eq_true rfl) ?_
    refine tv_iload_n C dk_X8_refusalUnless_27 rfl ?_
    refine tv_icmp_ne C dk_X8_refusalUnless_28 (fun h2 => ?_) (fun h2 => ?_)
    · refine tv_iconst (v := 5) C dk_X8_refusalUnless_35 (by decide) ?_
      exact tv_iret C hQ dk_X8_refusalUnless_36 rfl (by rw [f_X8_refusalUnless, if_neg h1, if_neg h2]) rfl
    refine tv_iconst (v := 0) C dk_X8_refusalUnless_31 (by decide) ?_
    refine tv_goto C dk_X8_refusalUnless_32 ?_
    exact tv_iret C hQ dk_X8_refusalUnless_36 rfl (by rw [f_X8_refusalUnless, if_neg h1, if_pos h2]) rfl
  refine tv_iconst (v := 1) C dk_X8_refusalUnless_14 (by decide) ?_
  exact tv_iret C hQ dk_X8_refusalUnless_15 rfl (by rw [f_X8_refusalUnless, if_pos h1]) rfl
/-- TideVault.refusalOfEvent(I)I -/
def f_X8_refusalOfEvent (M : tvM) (x1 : Int32) : Int32 := (if (f_X4_has M 1 x1) = 0 then 5 else 0)
theorem m_X8_refusalOfEvent (G : tvG) (M : tvM) (x1 : Int32) : tvRun G yX8_refusalOfEvent cX8_refusalOfEvent 2 (some .int) 2 0 0 tvP0 tvP0 [.ref (G.2.1 + 0), .int x1] M (.inl (some (.int (f_X8_refusalOfEvent M x1)))) M := by
  refine tvRun.of yk_X8_refusalOfEvent rfl [some (.ref (G.2.1 + 0)), some (.int x1)] rfl (Nat.le_of_ble_eq_true rfl) ?_
  intro E hG C hQ; subst hG
  refine tv_aload_n C dk_X8_refusalOfEvent_0 rfl ?_
  refine tv_getR (r := 1) C dk_X8_refusalOfEvent_1 fl_RX8_12 (Nat.le_of_ble_eq_true rfl) rfl rfl (fun _ _ _ _ => rfl) ?_
  refine tv_getR (r := (1 + 16)) C dk_X8_refusalOfEvent_4 fl_RX8_257 (tvSB_sh tvSBn_1 0 (by decide)).2 (tvSB_sh tvSBn_1 0 (by decide)).1 (tvSB_rho tvSBn_1 (0, 3, 16) (by decide)) (fun _ _ _ _ => rfl) ?_
  refine tv_iload_n C dk_X8_refusalOfEvent_7 rfl ?_
  refine tv_cV1 C dk_X8_refusalOfEvent_8 ml_RX8_396 yk_X4_has yi_X4_has (m_X4_has _ M tvSBn_1 x1) (tvSB_sh tvSBn_1 16 (by decide)).2 (tvSB_sh tvSBn_1 16 (by decide)).1 rfl rfl rfl (Nat.le_of_ble_eq_true rfl) (Nat.le_of_ble_eq_true rfl) (Nat.le_of_ble_eq_true rfl) (Nat.le_of_ble_eq_true rfl) (Nat.le_of_ble_eq_true rfl) ?_
  refine tv_if_eq C dk_X8_refusalOfEvent_11 (fun h1 => ?_) (fun h1 => ?_)
  · refine tv_iconst (v := 5) C dk_X8_refusalOfEvent_18 (by decide) ?_
    exact tv_iret C hQ dk_X8_refusalOfEvent_19 rfl (by rw [f_X8_refusalOfEvent, if_pos h1]) rfl
  refine tv_iconst (v := 0) C dk_X8_refusalOfEvent_14 (by decide) ?_
  refine tv_goto C dk_X8_refusalOfEvent_15 ?_
  exact tv_iret C hQ dk_X8_refusalOfEvent_19 rfl (by rw [f_X8_refusalOfEvent, if_neg h1]) rfl
