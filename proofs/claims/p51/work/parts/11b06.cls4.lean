/-- TideVault.refusalOfBoxNumber(I)I -/
def f_X8_refusalOfBoxNumber (M : tvM) (x1 : Int32) : Int32 := (if (f_X0_has M 1 x1) = 0 then 1 else 0)
theorem m_X8_refusalOfBoxNumber (G : tvG) (M : tvM) (x1 : Int32) : tvRun G yX8_refusalOfBoxNumber cX8_refusalOfBoxNumber 2 (some .int) 2 0 0 tvP0 tvP0 [.ref (G.2.1 + 0), .int x1] M (.inl (some (.int (f_X8_refusalOfBoxNumber M x1)))) M := by
  refine tvRun.of yk_X8_refusalOfBoxNumber rfl [some (.ref (G.2.1 + 0)), some (.int x1)] rfl (Nat.le_of_ble_eq_true rfl) ?_
  intro E hG C hQ; subst hG
  refine tv_aload_n C dk_X8_refusalOfBoxNumber_0 rfl ?_
  refine tv_getR (r := 1) C dk_X8_refusalOfBoxNumber_1 fl_RX8_12 (Nat.le_of_ble_eq_true rfl) rfl rfl (fun _ _ _ _ => rfl) ?_
  refine tv_getR (r := (1 + 6)) C dk_X8_refusalOfBoxNumber_4 fl_RX8_75 (tvSB_sh tvSBn_1 0 (by decide)).2 (tvSB_sh tvSBn_1 0 (by decide)).1 (tvSB_rho tvSBn_1 (0, 2, 6) (by decide)) (fun _ _ _ _ => rfl) ?_
  refine tv_iload_n C dk_X8_refusalOfBoxNumber_7 rfl ?_
  refine tv_cV1 C dk_X8_refusalOfBoxNumber_8 ml_RX8_223 yk_X0_has yi_X0_has (m_X0_has _ M tvSBn_1 x1) (tvSB_sh tvSBn_1 6 (by decide)).2 (tvSB_sh tvSBn_1 6 (by decide)).1 rfl rfl rfl (Nat.le_of_ble_eq_true rfl) (Nat.le_of_ble_eq_true rfl) (Nat.le_of_ble_eq_true rfl) (Nat.le_of_ble_eq_true rfl) (Nat.le_of_ble_eq_true rfl) ?_
  refine tv_if_eq C dk_X8_refusalOfBoxNumber_11 (fun h1 => ?_) (fun h1 => ?_)
  · refine tv_iconst (v := 1) C dk_X8_refusalOfBoxNumber_18 (by decide) ?_
    exact tv_iret C hQ dk_X8_refusalOfBoxNumber_19 rfl (by rw [f_X8_refusalOfBoxNumber, if_pos h1]) rfl
  refine tv_iconst (v := 0) C dk_X8_refusalOfBoxNumber_14 (by decide) ?_
  refine tv_goto C dk_X8_refusalOfBoxNumber_15 ?_
  exact tv_iret C hQ dk_X8_refusalOfBoxNumber_19 rfl (by rw [f_X8_refusalOfBoxNumber, if_neg h1]) rfl
/-- TideVault.refusalUnless(CI)I -/
def f_X8_refusalUnless (M : tvM) (x1 : Int32) (x2 : Int32) : Int32 := (if (f_X0_has M 1 x2) = 0 then 1 else (if (f_X0_statusOf M 1 x2) = x1 then 0 else 5))
theorem m_X8_refusalUnless (G : tvG) (M : tvM) (x1 : Int32) (x2 : Int32) : tvRun G yX8_refusalUnless cX8_refusalUnless 3 (some .int) 3 0 0 tvP0 tvP0 [.ref (G.2.1 + 0), .int x1, .int x2] M (.inl (some (.int (f_X8_refusalUnless M x1 x2)))) M := by
  refine tvRun.of yk_X8_refusalUnless rfl [some (.ref (G.2.1 + 0)), some (.int x1), some (.int x2)] rfl (Nat.le_of_ble_eq_true rfl) ?_
  intro E hG C hQ; subst hG
  refine tv_aload_n C dk_X8_refusalUnless_0 rfl ?_
  refine tv_getR (r := 1) C dk_X8_refusalUnless_1 fl_RX8_12 (Nat.le_of_ble_eq_true rfl) rfl rfl (fun _ _ _ _ => rfl) ?_
  refine tv_getR (r := (1 + 6)) C dk_X8_refusalUnless_4 fl_RX8_75 (tvSB_sh tvSBn_1 0 (by decide)).2 (tvSB_sh tvSBn_1 0 (by decide)).1 (tvSB_rho tvSBn_1 (0, 2, 6) (by decide)) (fun _ _ _ _ => rfl) ?_
  refine tv_iload_n C dk_X8_refusalUnless_7 rfl ?_
  refine tv_cV1 C dk_X8_refusalUnless_8 ml_RX8_223 yk_X0_has yi_X0_has (m_X0_has _ M tvSBn_1 x2) (tvSB_sh tvSBn_1 6 (by decide)).2 (tvSB_sh tvSBn_1 6 (by decide)).1 rfl rfl rfl (Nat.le_of_ble_eq_true rfl) (Nat.le_of_ble_eq_true rfl) (Nat.le_of_ble_eq_true rfl) (Nat.le_of_ble_eq_true rfl) (Nat.le_of_ble_eq_true rfl) ?_
  refine tv_if_ne C dk_X8_refusalUnless_11 (fun h1 => ?_) (fun h1 => ?_)
  · refine tv_aload_n C dk_X8_refusalUnless_16 rfl ?_
    refine tv_getR (r := 1) C dk_X8_refusalUnless_17 fl_RX8_12 (Nat.le_of_ble_eq_true rfl) rfl rfl (fun _ _ _ _ => rfl) ?_
    refine tv_getR (r := (1 + 6)) C dk_X8_refusalUnless_20 fl_RX8_75 (tvSB_sh tvSBn_1 0 (by decide)).2 (tvSB_sh tvSBn_1 0 (by decide)).1 (tvSB_rho tvSBn_1 (0, 2, 6) (by decide)) (fun _ _ _ _ => rfl) ?_
    refine tv_iload_n C dk_X8_refusalUnless_23 rfl ?_
    refine tv_cV1 C dk_X8_refusalUnless_24 ml_RX8_189 yk_X0_statusOf yi_X0_statusOf (m_X0_statusOf _ M tvSBn_1 x2) (tvSB_sh tvSBn_1 6 (by decide)).2 (tvSB_sh tvSBn_1 6 (by decide)).1 rfl rfl rfl (Nat.le_of_ble_eq_true rfl) (Nat.le_of_ble_eq_true rfl) (Nat.le_of_ble_eq_true rfl) (Nat.le_of_ble_eq_true rfl) (Nat.le_of_ble_eq_true rfl) ?_
    refine tv_iload_n C dk_X8_refusalUnless_27 rfl ?_
    refine tv_icmp_ne C dk_X8_refusalUnless_28 (fun h2 => ?_) (fun h2 => ?_)
    · refine tv_iconst (v := 5) C dk_X8_refusalUnless_35 (by decide) ?_
      exact tv_iret C hQ dk_X8_refusalUnless_36 rfl (by rw [f_X8_refusalUnless, if_neg h1, if_neg h2]) rfl
    refine tv_iconst (v := 0) C dk_X8_refusalUnless_31 (by decide) ?_
    refine tv_goto C dk_X8_refusalUnless_32 ?_
    exact tv_iret C hQ dk_X8_refusalUnless_36 rfl (by rw [f_X8_refusalUnless, if_neg h1, if_pos h2]) rfl
  refine tv_iconst (v := 1) C dk_X8_refusalUnless_14 (by decide) ?_
  exact tv_iret C hQ dk_X8_refusalUnless_15 rfl (by rw [f_X8_refusalUnless, if_pos h1]) rfl
/-- TideVault.refusalOfEvent(I)I -/
def f_X8_refusalOfEvent (M : tvM) (x1 : Int32) : Int32 := (if (f_X4_has M 1 x1) = 0 then 5 else 0)
theorem m_X8_refusalOfEvent (G : tvG) (M : tvM) (x1 : Int32) : tvRun G yX8_refusalOfEvent cX8_refusalOfEvent 2 (some .int) 2 0 0 tvP0 tvP0 [.ref (G.2.1 + 0), .int x1] M (.inl (some (.int (f_X8_refusalOfEvent M x1)))) M := by
  refine tvRun.of yk_X8_refusalOfEvent rfl [some (.ref (G.2.1 + 0)), some (.int x1)] rfl (Nat.le_of_ble_eq_true rfl) ?_
  intro E hG C hQ; subst hG
  refine tv_aload_n C dk_X8_refusalOfEvent_0 rfl ?_
  refine tv_getR (r := 1) C dk_X8_refusalOfEvent_1 fl_RX8_12 (Nat.le_of_ble_eq_true rfl) rfl rfl (fun _ _ _ _ => rfl) ?_
  refine tv_getR (r := (1 + 16)) C dk_X8_refusalOfEvent_4 fl_RX8_257 (tvSB_sh tvSBn_1 0 (by decide)).2 (tvSB_sh tvSBn_1 0 (by decide)).1 (tvSB_rho tvSBn_1 (0, 3, 16) (by decide)) (fun _ _ _ _ => rfl) ?_
  refine tv_iload_n C dk_X8_refusalOfEvent_7 rfl ?_
  refine tv_cV1 C dk_X8_refusalOfEvent_8 ml_RX8_396 yk_X4_has yi_X4_has (m_X4_has _ M tvSBn_1 x1) (tvSB_sh tvSBn_1 16 (by decide)).2 (tvSB_sh tvSBn_1 16 (by decide)).1 rfl rfl rfl (Nat.le_of_ble_eq_true rfl) (Nat.le_of_ble_eq_true rfl) (Nat.le_of_ble_eq_true rfl) (Nat.le_of_ble_eq_true rfl) (Nat.le_of_ble_eq_true rfl) ?_
  refine tv_if_eq C dk_X8_refusalOfEvent_11 (fun h1 => ?_) (fun h1 => ?_)
  · refine tv_iconst (v := 5) C dk_X8_refusalOfEvent_18 (by decide) ?_
    exact tv_iret C hQ dk_X8_refusalOfEvent_19 rfl (by rw [f_X8_refusalOfEvent, if_pos h1]) rfl
  refine tv_iconst (v := 0) C dk_X8_refusalOfEvent_14 (by decide) ?_
  refine tv_goto C dk_X8_refusalOfEvent_15 ?_
  exact tv_iret C hQ dk_X8_refusalOfEvent_19 rfl (by rw [f_X8_refusalOfEvent, if_neg h1]) rfl
/-- TideVault.hearCode(II)V -/
def f_X8_hearCode (M : tvM) (x1 : Int32) (x2 : Int32) : Option String × tvM := (if x1 = 0 then (if x1 = 4 then (if (f_X8_refuse (f_X6_hearWrongCode (f_X1_keep M) 1 x2) x1).1 = none then (none, (f_X6_hearWrongCode (f_X1_keep M) 1 x2)) else ((f_X8_refuse (f_X6_hearWrongCode (f_X1_keep M) 1 x2) x1).1, (f_X6_hearWrongCode (f_X1_keep M) 1 x2))) else (none, (f_X1_keep M))) else (if x1 = 4 then (if (f_X8_refuse (f_X6_hearWrongCode (f_X1_keep M) 1 x2) x1).1 = none then (none, (f_X6_hearWrongCode (f_X1_keep M) 1 x2)) else ((f_X8_refuse (f_X6_hearWrongCode (f_X1_keep M) 1 x2) x1).1, (f_X6_hearWrongCode (f_X1_keep M) 1 x2))) else (if (f_X8_refuse M x1).1 = none then (none, (f_X1_keep M)) else ((f_X8_refuse M x1).1, M))))
theorem m_X8_hearCode (G : tvG) (M : tvM) (x1 : Int32) (x2 : Int32) : tvRun G yX8_hearCode cX8_hearCode 3 none 7 1 6 tvP0 tvP0 [.ref (G.2.1 + 0), .int x1, .int x2] M (tvOx none (f_X8_hearCode M x1 x2).1) ((f_X8_hearCode M x1 x2).2) := by
  refine tvRun.of yk_X8_hearCode rfl [some (.ref (G.2.1 + 0)), some (.int x1), some (.int x2)] rfl (Nat.le_of_ble_eq_true rfl) ?_
  intro E hG C hQ; subst hG
  refine tv_iload_n C dk_X8_hearCode_0 rfl ?_
  refine tv_if_eq C dk_X8_hearCode_1 (fun h1 => ?_) (fun h1 => ?_)
  · refine tv_aload_n C dk_X8_hearCode_13 rfl ?_
    refine tv_getR (r := 61) C dk_X8_hearCode_14 fl_RX8_25 (Nat.le_of_ble_eq_true rfl) rfl rfl (fun _ _ _ _ => rfl) ?_
    refine tv_aload_n C dk_X8_hearCode_17 rfl ?_
    refine tv_getR (r := 1) C dk_X8_hearCode_18 fl_RX8_12 (Nat.le_of_ble_eq_true rfl) rfl rfl (fun _ _ _ _ => rfl) ?_
    refine tv_cV0 C dk_X8_hearCode_21 ml_RX8_58 yk_X1_keep yi_X1_keep (m_X1_keep _ M) (Nat.le_of_ble_eq_true rfl) rfl rfl rfl rfl (Nat.le_of_ble_eq_true rfl) (Nat.le_of_ble_eq_true rfl) (Nat.le_of_ble_eq_true rfl) (Nat.le_of_ble_eq_true rfl) (Nat.le_of_ble_eq_true rfl) ?_
    refine tv_iload_n C dk_X8_hearCode_24 rfl ?_
    refine tv_iconst (v := 4) C dk_X8_hearCode_25 (by decide) ?_
    refine tv_icmp_ne C dk_X8_hearCode_26 (fun h2 => ?_) (fun h2 => ?_)
    · exact tv_vret C hQ dk_X8_hearCode_41 (by rw [f_X8_hearCode, if_pos h1, if_neg h2]; rfl) (by rw [f_X8_hearCode, if_pos h1, if_neg h2])
    refine tv_aload_n C dk_X8_hearCode_29 rfl ?_
    refine tv_getR (r := 1) C dk_X8_hearCode_30 fl_RX8_12 (Nat.le_of_ble_eq_true rfl) rfl rfl (fun _ _ _ _ => rfl) ?_
    refine tv_iload_n C dk_X8_hearCode_33 rfl ?_
    refine tv_cV0 C dk_X8_hearCode_34 ml_RX8_383 yk_X6_hearWrongCode yi_X6_hearWrongCode (m_X6_hearWrongCode _ (f_X1_keep M) tvSBn_1 x2) (tvSB_sh tvSBn_1 0 (by decide)).2 (tvSB_sh tvSBn_1 0 (by decide)).1 rfl rfl rfl (Nat.le_of_ble_eq_true rfl) (Nat.le_of_ble_eq_true rfl) (Nat.le_of_ble_eq_true rfl) (Nat.le_of_ble_eq_true rfl) (Nat.le_of_ble_eq_true rfl) ?_
    refine tv_iload_n C dk_X8_hearCode_37 rfl ?_
    refine tv_cSx C dk_X8_hearCode_38 ml_RX8_54 yk_X8_refuse yi_X8_refuse (n_X8_refuse _ (f_X6_hearWrongCode (f_X1_keep M) 1 x2) x1) rfl rfl (Nat.le_of_ble_eq_true rfl) (Nat.le_of_ble_eq_true rfl) (Nat.le_of_ble_eq_true rfl) (Nat.le_of_ble_eq_true rfl) (Nat.le_of_ble_eq_true rfl) rfl rfl rfl (fun _ h3e => tv_out C hQ (by rw [f_X8_hearCode, if_pos h1, if_pos h2, if_neg (tv_sn h3e)]; rw [h3e]; rfl) (by rw [f_X8_hearCode, if_pos h1, if_pos h2, if_neg (tv_sn h3e)])) (fun h3 => ?_)
    exact tv_vret C hQ dk_X8_hearCode_41 (by rw [f_X8_hearCode, if_pos h1, if_pos h2, if_pos h3]; rfl) (by rw [f_X8_hearCode, if_pos h1, if_pos h2, if_pos h3])
  refine tv_iload_n C dk_X8_hearCode_4 rfl ?_
  refine tv_iconst (v := 4) C dk_X8_hearCode_5 (by decide) ?_
  refine tv_icmp_eq C dk_X8_hearCode_6 (fun h4 => ?_) (fun h4 => ?_)
  · refine tv_aload_n C dk_X8_hearCode_13 rfl ?_
    refine tv_getR (r := 61) C dk_X8_hearCode_14 fl_RX8_25 (Nat.le_of_ble_eq_true rfl) rfl rfl (fun _ _ _ _ => rfl) ?_
    refine tv_aload_n C dk_X8_hearCode_17 rfl ?_
    refine tv_getR (r := 1) C dk_X8_hearCode_18 fl_RX8_12 (Nat.le_of_ble_eq_true rfl) rfl rfl (fun _ _ _ _ => rfl) ?_
    refine tv_cV0 C dk_X8_hearCode_21 ml_RX8_58 yk_X1_keep yi_X1_keep (m_X1_keep _ M) (Nat.le_of_ble_eq_true rfl) rfl rfl rfl rfl (Nat.le_of_ble_eq_true rfl) (Nat.le_of_ble_eq_true rfl) (Nat.le_of_ble_eq_true rfl) (Nat.le_of_ble_eq_true rfl) (Nat.le_of_ble_eq_true rfl) ?_
    refine tv_iload_n C dk_X8_hearCode_24 rfl ?_
    refine tv_iconst (v := 4) C dk_X8_hearCode_25 (by decide) ?_
    refine tv_icmp_ne C dk_X8_hearCode_26 (fun h => absurd h4 h) (fun _ => ?_)
    refine tv_aload_n C dk_X8_hearCode_29 rfl ?_
    refine tv_getR (r := 1) C dk_X8_hearCode_30 fl_RX8_12 (Nat.le_of_ble_eq_true rfl) rfl rfl (fun _ _ _ _ => rfl) ?_
    refine tv_iload_n C dk_X8_hearCode_33 rfl ?_
    refine tv_cV0 C dk_X8_hearCode_34 ml_RX8_383 yk_X6_hearWrongCode yi_X6_hearWrongCode (m_X6_hearWrongCode _ (f_X1_keep M) tvSBn_1 x2) (tvSB_sh tvSBn_1 0 (by decide)).2 (tvSB_sh tvSBn_1 0 (by decide)).1 rfl rfl rfl (Nat.le_of_ble_eq_true rfl) (Nat.le_of_ble_eq_true rfl) (Nat.le_of_ble_eq_true rfl) (Nat.le_of_ble_eq_true rfl) (Nat.le_of_ble_eq_true rfl) ?_
    refine tv_iload_n C dk_X8_hearCode_37 rfl ?_
    refine tv_cSx C dk_X8_hearCode_38 ml_RX8_54 yk_X8_refuse yi_X8_refuse (n_X8_refuse _ (f_X6_hearWrongCode (f_X1_keep M) 1 x2) x1) rfl rfl (Nat.le_of_ble_eq_true rfl) (Nat.le_of_ble_eq_true rfl) (Nat.le_of_ble_eq_true rfl) (Nat.le_of_ble_eq_true rfl) (Nat.le_of_ble_eq_true rfl) rfl rfl rfl (fun _ h6e => tv_out C hQ (by rw [f_X8_hearCode, if_neg h1, if_pos h4, if_neg (tv_sn h6e)]; rw [h6e]; rfl) (by rw [f_X8_hearCode, if_neg h1, if_pos h4, if_neg (tv_sn h6e)])) (fun h6 => ?_)
    exact tv_vret C hQ dk_X8_hearCode_41 (by rw [f_X8_hearCode, if_neg h1, if_pos h4, if_pos h6]; rfl) (by rw [f_X8_hearCode, if_neg h1, if_pos h4, if_pos h6])
  refine tv_iload_n C dk_X8_hearCode_9 rfl ?_
  refine tv_cSx C dk_X8_hearCode_10 ml_RX8_54 yk_X8_refuse yi_X8_refuse (n_X8_refuse _ M x1) rfl rfl (Nat.le_of_ble_eq_true rfl) (Nat.le_of_ble_eq_true rfl) (Nat.le_of_ble_eq_true rfl) (Nat.le_of_ble_eq_true rfl) (Nat.le_of_ble_eq_true rfl) rfl rfl rfl (fun _ h7e => tv_out C hQ (by rw [f_X8_hearCode, if_neg h1, if_neg h4, if_neg (tv_sn h7e)]; rw [h7e]; rfl) (by rw [f_X8_hearCode, if_neg h1, if_neg h4, if_neg (tv_sn h7e)])) (fun h7 => ?_)
  refine tv_aload_n C dk_X8_hearCode_13 rfl ?_
  refine tv_getR (r := 61) C dk_X8_hearCode_14 fl_RX8_25 (Nat.le_of_ble_eq_true rfl) rfl rfl (fun _ _ _ _ => rfl) ?_
  refine tv_aload_n C dk_X8_hearCode_17 rfl ?_
  refine tv_getR (r := 1) C dk_X8_hearCode_18 fl_RX8_12 (Nat.le_of_ble_eq_true rfl) rfl rfl (fun _ _ _ _ => rfl) ?_
  refine tv_cV0 C dk_X8_hearCode_21 ml_RX8_58 yk_X1_keep yi_X1_keep (m_X1_keep _ M) (Nat.le_of_ble_eq_true rfl) rfl rfl rfl rfl (Nat.le_of_ble_eq_true rfl) (Nat.le_of_ble_eq_true rfl) (Nat.le_of_ble_eq_true rfl) (Nat.le_of_ble_eq_true rfl) (Nat.le_of_ble_eq_true rfl) ?_
  refine tv_iload_n C dk_X8_hearCode_24 rfl ?_
  refine tv_iconst (v := 4) C dk_X8_hearCode_25 (by decide) ?_
  refine tv_icmp_ne C dk_X8_hearCode_26 (fun _ => ?_) (fun h => absurd h h4)
  exact tv_vret C hQ dk_X8_hearCode_41 (by rw [f_X8_hearCode, if_neg h1, if_neg h4, if_pos h7]; rfl) (by rw [f_X8_hearCode, if_neg h1, if_neg h4, if_pos h7])
