/-- TideVault.refusalWithoutFailure()I -/
def f_X8_refusalWithoutFailure (M : tvM) : Int32 := (if (tgi M 0 8) = (-1) then 5 else 0)
theorem m_X8_refusalWithoutFailure (G : tvG) (M : tvM) : tvRun G yX8_refusalWithoutFailure cX8_refusalWithoutFailure 1 (some .int) 1 0 0 tvP0 tvP0 [.ref (G.2.1 + 0)] M (.inl (some (.int (f_X8_refusalWithoutFailure M)))) M := by
  refine tvRun.of yk_X8_refusalWithoutFailure rfl [some (.ref (G.2.1 + 0))] rfl (Nat.le_of_ble_eq_true rfl) ?_
  intro E hG C hQ; subst hG
  refine tv_aload_n C dk_X8_refusalWithoutFailure_0 rfl ?_
  refine tv_getI C dk_X8_refusalWithoutFailure_1 fl_RX8_47 (Nat.le_of_ble_eq_true rfl) rfl (fun _ _ _ _ => rfl) ?_
  refine tv_iconst (v := (-1)) C dk_X8_refusalWithoutFailure_4 (by decide) ?_
  refine tv_icmp_ne C dk_X8_refusalWithoutFailure_5 (fun h1 => ?_) (fun h1 => ?_)
  · refine tv_iconst (v := 0) C dk_X8_refusalWithoutFailure_12 (by decide) ?_
    exact tv_iret C hQ dk_X8_refusalWithoutFailure_13 rfl (by rw [f_X8_refusalWithoutFailure, if_neg h1]) rfl
  refine tv_iconst (v := 5) C dk_X8_refusalWithoutFailure_8 (by decide) ?_
  refine tv_goto C dk_X8_refusalWithoutFailure_9 ?_
  exact tv_iret C hQ dk_X8_refusalWithoutFailure_13 rfl (by rw [f_X8_refusalWithoutFailure, if_pos h1]) rfl
/-- TideVault.hearCode(II)V -/
def f_X8_hearCode (M : tvM) (x1 : Int32) (x2 : Int32) : Option String × tvM := (if x1 = 0 then (if x1 = 4 then (if (f_X8_refuse (f_X6_hearWrongCode (f_X1_keep M) 1 x2) x1).1 = none then (none, (f_X6_hearWrongCode (f_X1_keep M) 1 x2)) else ((f_X8_refuse (f_X6_hearWrongCode (f_X1_keep M) 1 x2) x1).1, (f_X6_hearWrongCode (f_X1_keep M) 1 x2))) else (none, (f_X1_keep M))) else (if x1 = 4 then (if (f_X8_refuse (f_X6_hearWrongCode (f_X1_keep M) 1 x2) x1).1 = none then (none, (f_X6_hearWrongCode (f_X1_keep M) 1 x2)) else ((f_X8_refuse (f_X6_hearWrongCode (f_X1_keep M) 1 x2) x1).1, (f_X6_hearWrongCode (f_X1_keep M) 1 x2))) else (if (f_X8_refuse M x1).1 = none then (none, (f_X1_keep M)) else ((f_X8_refuse M x1).1, M))))
theorem m_X8_hearCode (G : tvG) (M : tvM) (x1 : Int32) (x2 : Int32) : tvRun G yX8_hearCode cX8_hearCode 3 none 7 1 6 tvP0 tvP0 [.ref (G.2.1 + 0), .int x1, .int x2] M (tvOx none (f_X8_hearCode M x1 x2).1) ((f_X8_hearCode M x1 x2).2) := by
  refine tvRun.of yk_X8_hearCode rfl [some (.ref (G.2.1 + 0)), some (.int x1), some (.int x2)] rfl (Nat.le_of_ble_eq_true rfl) ?_
  intro E hG C hQ; subst hG
  refine tv_iload_n C dk_X8_hearCode_0 rfl ?_
  refine tv_if_eq C dk_X8_hearCode_1 (fun h1 => ?_) (fun h1 => ?_)
  · refine tv_aload_n C dk_X8_hearCode_13 rfl ?_
    refine tv_getR (r := 61) C dk_X8_hearCode_14 fl_RX8_25 (Nat.le_of_ble_eq_true rfl) rfl rfl (fun _ _ _ _ => rfl) ?_
    refine tv_aload_n C dk_X8_hearCode_17 rfl ?_
    refine tv_getR (r := 1) C dk_X8_hearCode_18 fl_RX8_12 (Nat.le_of_ble_eq_true rfl) rfl rfl (fun _ _ _ _ => rfl) ?_
    refine tv_cV0 C dk_X8_hearCode_21 ml_RX8_58 yk_X1_keep yi_X1_keep (m_X1_keep _ M) (Nat.le_of_ble_eq_true rfl) rfl rfl rfl rfl (Nat.le_of_ble_eq_true rfl) (Nat.le_of_ble_eq_true rfl) (Nat.le_of_ble_eq_true rfl) (Nat.le_of_ble_eq_true rfl) (Nat.le_of_ble_eq_true rfl) ?_
    refine tv_iload_n C dk_X8_hearCode_24 rfl ?_
    refine tv_iconst (v := 4) C dk_X8_hearCode_25 (by decide) ?_
    refine tv_icmp_ne C dk_X8_hearCode_26 (fun h2 => ?_) (fun h2 => ?_)
    · exact tv_vret C hQ dk_X8_hearCode_41 (by rw [f_X8_hearCode, if_pos h1, if_neg h2]; rfl) (by rw [f_X8_hearCode, if_pos h1, if_neg h2])
    refine tv_aload_n C dk_X8_hearCode_29 rfl ?_
    refine tv_getR (r := 1) C dk_X8_hearCode_30 fl_RX8_12 (Nat.le_of_ble_eq_true rfl) rfl rfl (fun _ _ _ _ => rfl) ?_
    refine tv_iload_n C dk_X8_hearCode_33 rfl ?_
    refine tv_cV0 C dk_X8_hearCode_34 ml_RX8_383 yk_X6_hearWrongCode yi_X6_hearWrongCode (m_X6_hearWrongCode _ (f_X1_keep M) tvSBn_1 x2) (tvSB_sh tvSBn_1 0 (by decide)).2 (tvSB_sh tvSBn_1 0 (by decide)).1 rfl rfl rfl (Nat.le_of_ble_eq_true rfl) (Nat.le_of_ble_eq_true rfl) (Nat.le_of_ble_eq_true rfl) (Nat.le_of_ble_eq_true rfl) (Nat.le_of_ble_eq_true rfl) ?_
    refine tv_iload_n C dk_X8_hearCode_37 rfl ?_
    refine tv_cSx C dk_X8_hearCode_38 ml_RX8_54 yk_X8_refuse yi_X8_refuse (n_X8_refuse _ (f_X6_hearWrongCode (f_X1_keep M) 1 x2) x1) rfl rfl (Nat.le_of_ble_eq_true rfl) (Nat.le_of_ble_eq_true rfl) (Nat.le_of_ble_eq_true rfl) (Nat.le_of_ble_eq_true rfl) (Nat.le_of_ble_eq_true rfl) rfl rfl rfl (fun _ h3e => tv_out C hQ (by rw [f_X8_hearCode, if_pos h1, if_pos h2, if_neg (tv_sn h3e)]; rw [h3e]; rfl) (by rw [f_X8_hearCode, if_pos h1, if_pos h2, if_neg (tv_sn h3e)])) (fun h3 => ?_)
    exact tv_vret C hQ dk_X8_hearCode_41 (by rw [f_X8_hearCode, if_pos h1, if_pos h2, if_pos h3]; rfl) (by rw [f_X8_hearCode, if_pos h1, if_pos h2, if_pos h3])
  refine tv_iload_n C dk_X8_hearCode_4 rfl ?_
  refine tv_iconst (v := 4) C dk_X8_hearCode_5 (by decide) ?_
  refine tv_icmp_eq C dk_X8_hearCode_6 (fun h4 => ?_) (fun h4 => ?_)
  · refine tv_aload_n C dk_X8_hearCode_13 rfl ?_
    refine tv_getR (r := 61) C dk_X8_hearCode_14 fl_RX8_25 (Nat.le_of_ble_eq_true rfl) rfl rfl (fun _ _ _ _ => rfl) ?_
    refine tv_aload_n C dk_X8_hearCode_17 rfl ?_
    refine tv_getR (r := 1) C dk_X8_hearCode_18 fl_RX8_12 (Nat.le_of_ble_eq_true rfl) rfl rfl (fun _ _ _ _ => rfl) ?_
    refine tv_cV0 C dk_X8_hearCode_21 ml_RX8_58 yk_X1_keep yi_X1_keep (m_X1_keep _ M) (Nat.le_of_ble_eq_true rfl) rfl rfl rfl rfl (Nat.le_of_ble_eq_true rfl) (Nat.le_of_ble_eq_true rfl) (Nat.le_of_ble_eq_true rfl) (Nat.le_of_ble_eq_true rfl) (Nat.le_of_ble_eq_true rfl) ?_
    refine tv_iload_n C dk_X8_hearCode_24 rfl ?_
    refine tv_iconst (v := 4) C dk_X8_hearCode_25 (by decide) ?_
    refine tv_icmp_ne C dk_X8_hearCode_26 (fun h => absurd h4 h) (fun _ => ?_)
    refine tv_aload_n C dk_X8_hearCode_29 rfl ?_
    refine tv_getR (r := 1) C dk_X8_hearCode_30 fl_RX8_12 (Nat.le_of_ble_eq_true rfl) rfl rfl (fun _ _ _ _ => rfl) ?_
    refine tv_iload_n C dk_X8_hearCode_33 rfl ?_
    refine tv_cV0 C dk_X8_hearCode_34 ml_RX8_383 yk_X6_hearWrongCode yi_X6_hearWrongCode (m_X6_hearWrongCode _ (f_X1_keep M) tvSBn_1 x2) (tvSB_sh tvSBn_1 0 (by decide)).2 (tvSB_sh tvSBn_1 0 (by decide)).1 rfl rfl rfl (Nat.le_of_ble_eq_true rfl) (Nat.le_of_ble_eq_true rfl) (Nat.le_of_ble_eq_true rfl) (Nat.le_of_ble_eq_true rfl) (Nat.le_of_ble_eq_true rfl) ?_
    refine tv_iload_n C dk_X8_hearCode_37 rfl ?_
    refine tv_cSx C dk_X8_hearCode_38 ml_RX8_54 yk_X8_refuse yi_X8_refuse (n_X8_refuse _ (f_X6_hearWrongCode (f_X1_keep M) 1 x2) x1) rfl rfl (Nat.le_of_ble_eq_true rfl) (Nat.le_of_ble_eq_true rfl) (Nat.le_of_ble_eq_true rfl) (Nat.le_of_ble_eq_true rfl) (Nat.le_of_ble_eq_true rfl) rfl rfl rfl (fun _ h6e => tv_out C hQ (by rw [f_X8_hearCode, if_neg h1, if_pos h4, if_neg (tv_sn h6e)]; rw [h6e]; rfl) (by rw [f_X8_hearCode, if_neg h1, if_pos h4, if_neg (tv_sn h6e)])) (fun h6 => ?_)
    exact tv_vret C hQ dk_X8_hearCode_41 (by rw [f_X8_hearCode, if_neg h1, if_pos h4, if_pos h6]; rfl) (by rw [f_X8_hearCode, if_neg h1, if_pos h4, if_pos h6])
  refine tv_iload_n C dk_X8_hearCode_9 rfl ?_
  refine tv_cSx C dk_X8_hearCode_10 ml_RX8_54 yk_X8_refuse yi_X8_refuse (n_X8_refuse _ M x1) rfl rfl (Nat.le_of_ble_eq_true rfl) (Nat.le_of_ble_eq_true rfl) (Nat.le_of_ble_eq_true rfl) (Nat.le_of_ble_eq_true rfl) (Nat.le_of_ble_eq_true rfl) rfl rfl rfl (fun _ h7e => tv_out C hQ (by rw [f_X8_hearCode, if_neg h1, if_neg h4, if_neg (tv_sn h7e)]; rw [h7e]; rfl) (by rw [f_X8_hearCode, if_neg h1, if_neg h4, if_neg (tv_sn h7e)])) (fun h7 => ?_)
  refine tv_aload_n C dk_X8_hearCode_13 rfl ?_
  refine tv_getR (r := 61) C dk_X8_hearCode_14 fl_RX8_25 (Nat.le_of_ble_eq_true rfl) rfl rfl (fun _ _ _ _ => rfl) ?_
  refine tv_aload_n C dk_X8_hearCode_17 rfl ?_
  refine tv_getR (r := 1) C dk_X8_hearCode_18 fl_RX8_12 (Nat.le_of_ble_eq_true rfl) rfl rfl (fun _ _ _ _ => rfl) ?_
  refine tv_cV0 C dk_X8_hearCode_21 ml_RX8_58 yk_X1_keep yi_X1_keep (m_X1_keep _ M) (Nat.le_of_ble_eq_true rfl) rfl rfl rfl rfl (Nat.le_of_ble_eq_true rfl) (Nat.le_of_ble_eq_true rfl) (Nat.le_of_ble_eq_true rfl) (Nat.le_of_ble_eq_true rfl) (Nat.le_of_ble_eq_true rfl) ?_
  refine tv_iload_n C dk_X8_hearCode_24 rfl ?_
  refine tv_iconst (v := 4) C dk_X8_hearCode_25 (by decide) ?_
  refine tv_icmp_ne C dk_X8_hearCode_26 (fun _ => ?_) (fun h => absurd h h4)
  exact tv_vret C hQ dk_X8_hearCode_41 (by rw [f_X8_hearCode, if_neg h1, if_neg h4, if_pos h7]; rfl) (by rw [f_X8_hearCode, if_neg h1, if_neg h4, if_pos h7])
/-- TideVault.addHolder(I)I -/
def f_X8_addHolder (M : tvM) (x1 : Int32) : Option String × Int32 × tvM := (if (f_X8_refuse M (f_X6_refusalOfHolder M 1 x1)).1 = none then (none, (f_X2_add (f_X1_keep M) 1 x1).1, (f_X2_add (f_X1_keep M) 1 x1).2) else ((f_X8_refuse M (f_X6_refusalOfHolder M 1 x1)).1, 0, M))
theorem m_X8_addHolder (G : tvG) (M : tvM) (x1 : Int32) : tvRun G yX8_addHolder cX8_addHolder 2 (some .int) 7 1 6 tvP0 tvP0 [.ref (G.2.1 + 0), .int x1] M (tvOx (some (.int (f_X8_addHolder M x1).2.1)) (f_X8_addHolder M x1).1) ((f_X8_addHolder M x1).2.2) := by
  refine tvRun.of yk_X8_addHolder rfl [some (.ref (G.2.1 + 0)), some (.int x1)] rfl (Nat.le_of_ble_eq_true rfl) ?_
  intro E hG C hQ; subst hG
  refine tv_aload_n C dk_X8_addHolder_0 rfl ?_
  refine tv_getR (r := 1) C dk_X8_addHolder_1 fl_RX8_12 (Nat.le_of_ble_eq_true rfl) rfl rfl (fun _ _ _ _ => rfl) ?_
  refine tv_iload_n C dk_X8_addHolder_4 rfl ?_
  refine tv_cV1 C dk_X8_addHolder_5 ml_RX8_50 yk_X6_refusalOfHolder yi_X6_refusalOfHolder (m_X6_refusalOfHolder _ M tvSBn_1 x1) (tvSB_sh tvSBn_1 0 (by decide)).2 (tvSB_sh tvSBn_1 0 (by decide)).1 rfl rfl rfl (Nat.le_of_ble_eq_true rfl) (Nat.le_of_ble_eq_true rfl) (Nat.le_of_ble_eq_true rfl) (Nat.le_of_ble_eq_true rfl) (Nat.le_of_ble_eq_true rfl) ?_
  refine tv_cSx C dk_X8_addHolder_8 ml_RX8_54 yk_X8_refuse yi_X8_refuse (n_X8_refuse _ M (f_X6_refusalOfHolder M 1 x1)) rfl rfl (Nat.le_of_ble_eq_true rfl) (Nat.le_of_ble_eq_true rfl) (Nat.le_of_ble_eq_true rfl) (Nat.le_of_ble_eq_true rfl) (Nat.le_of_ble_eq_true rfl) rfl rfl rfl (fun _ h1e => tv_out C hQ (by rw [f_X8_addHolder, if_neg (tv_sn h1e)]; rw [h1e]; rfl) (by rw [f_X8_addHolder, if_neg (tv_sn h1e)])) (fun h1 => ?_)
  refine tv_aload_n C dk_X8_addHolder_11 rfl ?_
  refine tv_getR (r := 61) C dk_X8_addHolder_12 fl_RX8_25 (Nat.le_of_ble_eq_true rfl) rfl rfl (fun _ _ _ _ => rfl) ?_
  refine tv_aload_n C dk_X8_addHolder_15 rfl ?_
  refine tv_getR (r := 1) C dk_X8_addHolder_16 fl_RX8_12 (Nat.le_of_ble_eq_true rfl) rfl rfl (fun _ _ _ _ => rfl) ?_
  refine tv_cV0 C dk_X8_addHolder_19 ml_RX8_58 yk_X1_keep yi_X1_keep (m_X1_keep _ M) (Nat.le_of_ble_eq_true rfl) rfl rfl rfl rfl (Nat.le_of_ble_eq_true rfl) (Nat.le_of_ble_eq_true rfl) (Nat.le_of_ble_eq_true rfl) (Nat.le_of_ble_eq_true rfl) (Nat.le_of_ble_eq_true rfl) ?_
  refine tv_aload_n C dk_X8_addHolder_22 rfl ?_
  refine tv_getR (r := 1) C dk_X8_addHolder_23 fl_RX8_12 (Nat.le_of_ble_eq_true rfl) rfl rfl (fun _ _ _ _ => rfl) ?_
  refine tv_getR (r := (1 + 2)) C dk_X8_addHolder_26 fl_RX8_62 (tvSB_sh tvSBn_1 0 (by decide)).2 (tvSB_sh tvSBn_1 0 (by decide)).1 (tvSB_rho tvSBn_1 (0, 1, 2) (by decide)) (fun _ _ _ _ => rfl) ?_
  refine tv_iload_n C dk_X8_addHolder_29 rfl ?_
  refine tv_cV1 C dk_X8_addHolder_30 ml_RX8_66 yk_X2_add yi_X2_add (m_X2_add _ (f_X1_keep M) tvSBn_1 x1) (tvSB_sh tvSBn_1 2 (by decide)).2 (tvSB_sh tvSBn_1 2 (by decide)).1 rfl rfl rfl (Nat.le_of_ble_eq_true rfl) (Nat.le_of_ble_eq_true rfl) (Nat.le_of_ble_eq_true rfl) (Nat.le_of_ble_eq_true rfl) (Nat.le_of_ble_eq_true rfl) ?_
  exact tv_iret C hQ dk_X8_addHolder_33 rfl (by rw [f_X8_addHolder, if_pos h1]; rfl) (by rw [f_X8_addHolder, if_pos h1])
/-- TideVault.addBox(III)I -/
def f_X8_addBox (M : tvM) (x1 : Int32) (x2 : Int32) (x3 : Int32) : Option String × Int32 × tvM := (if (f_X8_refuse M (f_X6_refusalOfBox M 1 x1 x2 x3)).1 = none then (none, (f_X0_add (f_X1_keep M) 1 x1 x2 x3).1, (f_X0_add (f_X1_keep M) 1 x1 x2 x3).2) else ((f_X8_refuse M (f_X6_refusalOfBox M 1 x1 x2 x3)).1, 0, M))
theorem m_X8_addBox (G : tvG) (M : tvM) (x1 : Int32) (x2 : Int32) (x3 : Int32) : tvRun G yX8_addBox cX8_addBox 4 (some .int) 7 1 6 tvP0 tvP0 [.ref (G.2.1 + 0), .int x1, .int x2, .int x3] M (tvOx (some (.int (f_X8_addBox M x1 x2 x3).2.1)) (f_X8_addBox M x1 x2 x3).1) ((f_X8_addBox M x1 x2 x3).2.2) := by
  refine tvRun.of yk_X8_addBox rfl [some (.ref (G.2.1 + 0)), some (.int x1), some (.int x2), some (.int x3)] rfl (Nat.le_of_ble_eq_true rfl) ?_
  intro E hG C hQ; subst hG
  refine tv_aload_n C dk_X8_addBox_0 rfl ?_
  refine tv_getR (r := 1) C dk_X8_addBox_1 fl_RX8_12 (Nat.le_of_ble_eq_true rfl) rfl rfl (fun _ _ _ _ => rfl) ?_
  refine tv_iload_n C dk_X8_addBox_4 rfl ?_
  refine tv_iload_n C dk_X8_addBox_5 rfl ?_
  refine tv_iload_n C dk_X8_addBox_6 rfl ?_
  refine tv_cV1 C dk_X8_addBox_7 ml_RX8_71 yk_X6_refusalOfBox yi_X6_refusalOfBox (m_X6_refusalOfBox _ M tvSBn_1 x1 x2 x3) (tvSB_sh tvSBn_1 0 (by decide)).2 (tvSB_sh tvSBn_1 0 (by decide)).1 rfl rfl rfl (Nat.le_of_ble_eq_true rfl) (Nat.le_of_ble_eq_true rfl) (Nat.le_of_ble_eq_true rfl) (Nat.le_of_ble_eq_true rfl) (Nat.le_of_ble_eq_true rfl) ?_
  refine tv_cSx C dk_X8_addBox_10 ml_RX8_54 yk_X8_refuse yi_X8_refuse (n_X8_refuse _ M (f_X6_refusalOfBox M 1 x1 x2 x3)) rfl rfl (Nat.le_of_ble_eq_true rfl) (Nat.le_of_ble_eq_true rfl) (Nat.le_of_ble_eq_true rfl) (Nat.le_of_ble_eq_true rfl) (Nat.le_of_ble_eq_true rfl) rfl rfl rfl (fun _ h1e => tv_out C hQ (by rw [f_X8_addBox, if_neg (tv_sn h1e)]; rw [h1e]; rfl) (by rw [f_X8_addBox, if_neg (tv_sn h1e)])) (fun h1 => ?_)
  refine tv_aload_n C dk_X8_addBox_13 rfl ?_
  refine tv_getR (r := 61) C dk_X8_addBox_14 fl_RX8_25 (Nat.le_of_ble_eq_true rfl) rfl rfl (fun _ _ _ _ => rfl) ?_
  refine tv_aload_n C dk_X8_addBox_17 rfl ?_
  refine tv_getR (r := 1) C dk_X8_addBox_18 fl_RX8_12 (Nat.le_of_ble_eq_true rfl) rfl rfl (fun _ _ _ _ => rfl) ?_
  refine tv_cV0 C dk_X8_addBox_21 ml_RX8_58 yk_X1_keep yi_X1_keep (m_X1_keep _ M) (Nat.le_of_ble_eq_true rfl) rfl rfl rfl rfl (Nat.le_of_ble_eq_true rfl) (Nat.le_of_ble_eq_true rfl) (Nat.le_of_ble_eq_true rfl) (Nat.le_of_ble_eq_true rfl) (Nat.le_of_ble_eq_true rfl) ?_
  refine tv_aload_n C dk_X8_addBox_24 rfl ?_
  refine tv_getR (r := 1) C dk_X8_addBox_25 fl_RX8_12 (Nat.le_of_ble_eq_true rfl) rfl rfl (fun _ _ _ _ => rfl) ?_
  refine tv_getR (r := (1 + 6)) C dk_X8_addBox_28 fl_RX8_75 (tvSB_sh tvSBn_1 0 (by decide)).2 (tvSB_sh tvSBn_1 0 (by decide)).1 (tvSB_rho tvSBn_1 (0, 2, 6) (by decide)) (fun _ _ _ _ => rfl) ?_
  refine tv_iload_n C dk_X8_addBox_31 rfl ?_
  refine tv_iload_n C dk_X8_addBox_32 rfl ?_
  refine tv_iload_n C dk_X8_addBox_33 rfl ?_
  refine tv_cV1 C dk_X8_addBox_34 ml_RX8_79 yk_X0_add yi_X0_add (m_X0_add _ (f_X1_keep M) tvSBn_1 x1 x2 x3) (tvSB_sh tvSBn_1 6 (by decide)).2 (tvSB_sh tvSBn_1 6 (by decide)).1 rfl rfl rfl (Nat.le_of_ble_eq_true rfl) (Nat.le_of_ble_eq_true rfl) (Nat.le_of_ble_eq_true rfl) (Nat.le_of_ble_eq_true rfl) (Nat.le_of_ble_eq_true rfl) ?_
  exact tv_iret C hQ dk_X8_addBox_37 rfl (by rw [f_X8_addBox, if_pos h1]; rfl) (by rw [f_X8_addBox, if_pos h1])
