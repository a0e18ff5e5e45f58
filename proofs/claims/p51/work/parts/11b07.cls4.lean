/-- TideVault.addHolder(I)I -/
def f_X8_addHolder (M : tvM) (x1 : Int32) : Option String × Int32 × tvM := (if (f_X8_refuse M (f_X6_refusalOfHolder M 1 x1)).1 = none then (none, (f_X2_add (f_X1_keep M) 1 x1).1, (f_X2_add (f_X1_keep M) 1 x1).2) else ((f_X8_refuse M (f_X6_refusalOfHolder M 1 x1)).1, 0, M))
theorem m_X8_addHolder (G : tvG) (M : tvM) (x1 : Int32) : tvRun G yX8_addHolder cX8_addHolder 2 (some .int) 7 1 6 tvP0 tvP0 [.ref (G.2.1 + 0), .int x1] M (tvOx (some (.int (f_X8_addHolder M x1).2.1)) (f_X8_addHolder M x1).1) ((f_X8_addHolder M x1).2.2) := by
  refine tvRun.of yk_X8_addHolder rfl [some (.ref (G.2.1 + 0)), some (.int x1)] rfl (Nat.le_of_ble_eq_true rfl) ?_
  intro E hG C hQ; subst hG
  refine tv_aload_n C dk_X8_addHolder_0 rfl ?_
  refine tv_getR (r := 1) C dk_X8_addHolder_1 fl_RX8_12 (Nat.le_of_ble_eq_true rfl) rfl rfl (fun _ _ _ _ => rfl) ?_
  refine tv_iload_n C dk_X8_addHolder_4 rfl ?_
  refine tv_cV1 C dk_X8_addHolder_5 ml_RX8_50 yk_X6_refusalOfHolder yi_X6_refusalOfHolder (m_X6_refusalOfHolder _ M tvSBn_1 x1) (tvSB_sh tvSBn_1 0 (by decide)).2 (tvSB_sh tvSBn_1 0 (by decide)).1 rfl rfl rfl (Nat.le_of_ble_eq_true rfl) (Nat.le_of_ble_eq_true rfl) (Nat.le_of_ble_eq_true rfl) (Nat.le_of_ble_eq_true rfl) (Nat.le_of_ble_eq_true rfl) ?_
  refine tv_cSx C dk_X8_addHolder_8 ml_RX8_54 yk_X8_refuse yi_X8_refuse (n_X8_refuse _ M (f_X6_refusalOfHolder M 1 x1)) rfl rfl (Nat.le_of_ble_eq_true rfl) (Nat.le_of_ble_eq_true rfl) (Nat.le_of_ble_eq_true rfl) (Nat.le_of_ble_eq_true rfl) (Nat.le_of_ble_eq_true rfl) rfl rfl rfl (fun _ h1e => tv_out C hQ (by rw [f_X8_addHolder, if_neg (tv_sn h1e)]; rw [h1e]; rfl) (by rw [f_X8_addHolder, if_neg (tv_sn h1e)])) (fun h1 => ?_)
  refine tv_aload_n C dk_X8_addHolder_11 rfl ?_
  refine tv_getR (r := 61) C dk_X8_addHolder_12 fl_RX8_25 (Nat.le_of_ble_eq_true rfl) rfl rfl (fun _ _ _ _ => rfl) ?_
  refine tv_aload_n C dk_X8_addHolder_15 rfl ?_
  refine tv_getR (r := 1) C dk_X8_addHolder_16 fl_RX8_12 (Nat.le_of_ble_eq_true rfl) rfl rfl (fun _ _ _ _ => rfl) ?_
  refine tv_cV0 C dk_X8_addHolder_19 ml_RX8_58 yk_X1_keep yi_X1_keep (m_X1_keep _ M) (Nat.le_of_ble_eq_true rfl) rfl rfl rfl rfl (Nat.le_of_ble_eq_true rfl) (Nat.le_of_ble_eq_true rfl) (Nat.le_of_ble_eq_true rfl) (Nat.le_of_ble_eq_true rfl) (Nat.le_of_ble_eq_true rfl) ?_
  refine tv_aload_n C dk_X8_addHolder_22 rfl ?_
  refine tv_getR (r := 1) C dk_X8_addHolder_23 fl_RX8_12 (Nat.le_of_ble_eq_true rfl) rfl rfl (fun _ _ _ _ => rfl) ?_
  refine tv_getR (r := (1 + 2)) C dk_X8_addHolder_26 fl_RX8_62 (tvSB_sh tvSBn_1 0 (by decide)).2 (tvSB_sh tvSBn_1 0 (by decide)).1 (tvSB_rho tvSBn_1 (0, 1, 2) (by decide)) (fun _ _ _ _ => rfl) ?_
  refine tv_iload_n C dk_X8_addHolder_29 rfl ?_
  refine tv_cV1 C dk_X8_addHolder_30 ml_RX8_66 yk_X2_add yi_X2_add (m_X2_add _ (f_X1_keep M) tvSBn_1 x1) (tvSB_sh tvSBn_1 2 (by decide)).2 (tvSB_sh tvSBn_1 2 (by decide)).1 rfl rfl rfl (Nat.le_of_ble_eq_true rfl) (Nat.le_of_ble_eq_true rfl) (Nat.le_of_ble_eq_true rfl) (Nat.le_of_ble_eq_true rfl) (Nat.le_of_ble_eq_true rfl) ?_
  exact tv_iret C hQ dk_X8_addHolder_33 rfl (by rw [f_X8_addHolder, if_pos h1]; rfl) (by rw [f_X8_addHolder, if_pos h1])
/-- TideVault.addBox(III)I -/
def f_X8_addBox (M : tvM) (x1 : Int32) (x2 : Int32) (x3 : Int32) : Option String × Int32 × tvM := (if (f_X8_refuse M (f_X6_refusalOfBox M 1 x1 x2 x3)).1 = none then (none, (f_X0_add (f_X1_keep M) 1 x1 x2 x3).1, (f_X0_add (f_X1_keep M) 1 x1 x2 x3).2) else ((f_X8_refuse M (f_X6_refusalOfBox M 1 x1 x2 x3)).1, 0, M))
theorem m_X8_addBox (G : tvG) (M : tvM) (x1 : Int32) (x2 : Int32) (x3 : Int32) : tvRun G yX8_addBox cX8_addBox 4 (some .int) 7 1 6 tvP0 tvP0 [.ref (G.2.1 + 0), .int x1, .int x2, .int x3] M (tvOx (some (.int (f_X8_addBox M x1 x2 x3).2.1)) (f_X8_addBox M x1 x2 x3).1) ((f_X8_addBox M x1 x2 x3).2.2) := by
  refine tvRun.of yk_X8_addBox rfl [some (.ref (G.2.1 + 0)), some (.int x1), some (.int x2), some (.int x3)] rfl (Nat.le_of_ble_eq_true rfl) ?_
  intro E hG C hQ; subst hG
  refine tv_aload_n C dk_X8_addBox_0 rfl ?_
  refine tv_getR (r := 1) C dk_X8_addBox_1 fl_RX8_12 (Nat.le_of_ble_eq_true rfl) rfl rfl (fun _ _ _ _ => rfl) ?_
  refine tv_iload_n C dk_X8_addBox_4 rfl ?_
  refine tv_iload_n C dk_X8_addBox_5 rfl ?_
  refine tv_iload_n C dk_X8_addBox_6 rfl ?_
  refine tv_cV1 C dk_X8_addBox_7 ml_RX8_71 yk_X6_refusalOfBox yi_X6_refusalOfBox (m_X6_refusalOfBox _ M tvSBn_1 x1 x2 x3) (tvSB_sh tvSBn_1 0 (by decide)).2 (tvSB_sh tvSBn_1 0 (by decide)).1 rfl rfl rfl (Nat.le_of_ble_eq_true rfl) (Nat.le_of_ble_eq_true rfl) (Nat.le_of_ble_eq_true rfl) (Nat.le_of_ble_eq_true rfl) (Nat.le_of_ble_eq_true rfl) ?_
  refine tv_cSx C dk_X8_addBox_10 ml_RX8_54 yk_X8_refuse yi_X8_refuse (n_X8_refuse _ M (f_X6_refusalOfBox M 1 x1 x2 x3)) rfl rfl (Nat.le_of_ble_eq_true rfl) (Nat.le_of_ble_eq_true rfl) (Nat.le_of_ble_eq_true rfl) (Nat.le_of_ble_eq_true rfl) (Nat.le_of_ble_eq_true rfl) rfl rfl rfl (fun _ h1e => tv_out C hQ (by rw [f_X8_addBox, if_neg (tv_sn h1e)]; rw [h1e]; rfl) (by rw [f_X8_addBox, if_neg (tv_sn h1e)])) (fun h1 => ?_)
  refine tv_aload_n C dk_X8_addBox_13 rfl ?_
  refine tv_getR (r := 61) C dk_X8_addBox_14 fl_RX8_25 (Nat.le_of_ble_eq_true rfl) rfl rfl (fun _ _ _ _ => rfl) ?_
  refine tv_aload_n C dk_X8_addBox_17 rfl ?_
  refine tv_getR (r := 1) C dk_X8_addBox_18 fl_RX8_12 (Nat.le_of_ble_eq_true rfl) rfl rfl (fun _ _ _ _ => rfl) ?_
  refine tv_cV0 C dk_X8_addBox_21 ml_RX8_58 yk_X1_keep yi_X1_keep (m_X1_keep _ M) (Nat.le_of_ble_eq_true rfl) rfl rfl rfl rfl (Nat.le_of_ble_eq_true rfl) (Nat.le_of_ble_eq_true rfl) (Nat.le_of_ble_eq_true rfl) (Nat.le_of_ble_eq_true rfl) (Nat.le_of_ble_eq_true rfl) ?_
  refine tv_aload_n C dk_X8_addBox_24 rfl ?_
  refine tv_getR (r := 1) C dk_X8_addBox_25 fl_RX8_12 (Nat.le_of_ble_eq_true rfl) rfl rfl (fun _ _ _ _ => rfl) ?_
  refine tv_getR (r := (1 + 6)) C dk_X8_addBox_28 fl_RX8_75 (tvSB_sh tvSBn_1 0 (by decide)).2 (tvSB_sh tvSBn_1 0 (by decide)).1 (tvSB_rho tvSBn_1 (0, 2, 6) (by decide)) (fun _ _ _ _ => rfl) ?_
  refine tv_iload_n C dk_X8_addBox_31 rfl ?_
  refine tv_iload_n C dk_X8_addBox_32 rfl ?_
  refine tv_iload_n C dk_X8_addBox_33 rfl ?_
  refine tv_cV1 C dk_X8_addBox_34 ml_RX8_79 yk_X0_add yi_X0_add (m_X0_add _ (f_X1_keep M) tvSBn_1 x1 x2 x3) (tvSB_sh tvSBn_1 6 (by decide)).2 (tvSB_sh tvSBn_1 6 (by decide)).1 rfl rfl rfl (Nat.le_of_ble_eq_true rfl) (Nat.le_of_ble_eq_true rfl) (Nat.le_of_ble_eq_true rfl) (Nat.le_of_ble_eq_true rfl) (Nat.le_of_ble_eq_true rfl) ?_
  exact tv_iret C hQ dk_X8_addBox_37 rfl (by rw [f_X8_addBox, if_pos h1]; rfl) (by rw [f_X8_addBox, if_pos h1])
/-- TideVault.setTide(II)I -/
def f_X8_setTide (M : tvM) (x1 : Int32) (x2 : Int32) : Option String × Int32 × tvM := (if (f_X8_refuse M (f_X6_refusalOfTide M 1 x1 x2)).1 = none then (none, (f_X7_become (f_X1_keep M) 1 x1 x2).1, (f_X7_become (f_X1_keep M) 1 x1 x2).2) else ((f_X8_refuse M (f_X6_refusalOfTide M 1 x1 x2)).1, 0, M))
theorem m_X8_setTide (G : tvG) (M : tvM) (x1 : Int32) (x2 : Int32) : tvRun G yX8_setTide cX8_setTide 3 (some .int) 7 1 6 tvP0 tvP0 [.ref (G.2.1 + 0), .int x1, .int x2] M (tvOx (some (.int (f_X8_setTide M x1 x2).2.1)) (f_X8_setTide M x1 x2).1) ((f_X8_setTide M x1 x2).2.2) := by
  refine tvRun.of yk_X8_setTide rfl [some (.ref (G.2.1 + 0)), some (.int x1), some (.int x2)] rfl (Nat.le_of_ble_eq_true rfl) ?_
  intro E hG C hQ; subst hG
  refine tv_aload_n C dk_X8_setTide_0 rfl ?_
  refine tv_getR (r := 1) C dk_X8_setTide_1 fl_RX8_12 (Nat.le_of_ble_eq_true rfl) rfl rfl (fun _ _ _ _ => rfl) ?_
  refine tv_iload_n C dk_X8_setTide_4 rfl ?_
  refine tv_iload_n C dk_X8_setTide_5 rfl ?_
  refine tv_cV1 C dk_X8_setTide_6 ml_RX8_83 yk_X6_refusalOfTide yi_X6_refusalOfTide (m_X6_refusalOfTide _ M tvSBn_1 x1 x2) (tvSB_sh tvSBn_1 0 (by decide)).2 (tvSB_sh tvSBn_1 0 (by decide)).1 rfl rfl rfl (Nat.le_of_ble_eq_true rfl) (Nat.le_of_ble_eq_true rfl) (Nat.le_of_ble_eq_true rfl) (Nat.le_of_ble_eq_true rfl) (Nat.le_of_ble_eq_true rfl) ?_
  refine tv_cSx C dk_X8_setTide_9 ml_RX8_54 yk_X8_refuse yi_X8_refuse (n_X8_refuse _ M (f_X6_refusalOfTide M 1 x1 x2)) rfl rfl (Nat.le_of_ble_eq_true rfl) (Nat.le_of_ble_eq_true rfl) (Nat.le_of_ble_eq_true rfl) (Nat.le_of_ble_eq_true rfl) (Nat.le_of_ble_eq_true rfl) rfl rfl rfl (fun _ h1e => tv_out C hQ (by rw [f_X8_setTide, if_neg (tv_sn h1e)]; rw [h1e]; rfl) (by rw [f_X8_setTide, if_neg (tv_sn h1e)])) (fun h1 => ?_)
  refine tv_aload_n C dk_X8_setTide_12 rfl ?_
  refine tv_getR (r := 61) C dk_X8_setTide_13 fl_RX8_25 (Nat.le_of_ble_eq_true rfl) rfl rfl (fun _ _ _ _ => rfl) ?_
  refine tv_aload_n C dk_X8_setTide_16 rfl ?_
  refine tv_getR (r := 1) C dk_X8_setTide_17 fl_RX8_12 (Nat.le_of_ble_eq_true rfl) rfl rfl (fun _ _ _ _ => rfl) ?_
  refine tv_cV0 C dk_X8_setTide_20 ml_RX8_58 yk_X1_keep yi_X1_keep (m_X1_keep _ M) (Nat.le_of_ble_eq_true rfl) rfl rfl rfl rfl (Nat.le_of_ble_eq_true rfl) (Nat.le_of_ble_eq_true rfl) (Nat.le_of_ble_eq_true rfl) (Nat.le_of_ble_eq_true rfl) (Nat.le_of_ble_eq_true rfl) ?_
  refine tv_aload_n C dk_X8_setTide_23 rfl ?_
  refine tv_getR (r := 1) C dk_X8_setTide_24 fl_RX8_12 (Nat.le_of_ble_eq_true rfl) rfl rfl (fun _ _ _ _ => rfl) ?_
  refine tv_getR (r := (1 + 1)) C dk_X8_setTide_27 fl_RX8_87 (tvSB_sh tvSBn_1 0 (by decide)).2 (tvSB_sh tvSBn_1 0 (by decide)).1 (tvSB_rho tvSBn_1 (0, 0, 1) (by decide)) (fun _ _ _ _ => rfl) ?_
  refine tv_iload_n C dk_X8_setTide_30 rfl ?_
  refine tv_iload_n C dk_X8_setTide_31 rfl ?_
  refine tv_cV1 C dk_X8_setTide_32 ml_RX8_91 yk_X7_become yi_X7_become (m_X7_become _ (f_X1_keep M) tvSBn_1 x1 x2) (tvSB_sh tvSBn_1 1 (by decide)).2 (tvSB_sh tvSBn_1 1 (by decide)).1 rfl rfl rfl (Nat.le_of_ble_eq_true rfl) (Nat.le_of_ble_eq_true rfl) (Nat.le_of_ble_eq_true rfl) (Nat.le_of_ble_eq_true rfl) (Nat.le_of_ble_eq_true rfl) ?_
  exact tv_iret C hQ dk_X8_setTide_35 rfl (by rw [f_X8_setTide, if_pos h1]; rfl) (by rw [f_X8_setTide, if_pos h1])
/-- TideVault.turnKey(III)C -/
def f_X8_turnKey (M : tvM) (x1 : Int32) (x2 : Int32) (x3 : Int32) : Option String × Int32 × tvM := (if (f_X8_hearCode M (f_X6_refusalOfTurn M 1 x1 x2 x3) x2).1 = none then (none, (f_X6_turn ((f_X8_hearCode M (f_X6_refusalOfTurn M 1 x1 x2 x3) x2).2) 1 x1 x2).1, (f_X6_turn ((f_X8_hearCode M (f_X6_refusalOfTurn M 1 x1 x2 x3) x2).2) 1 x1 x2).2) else ((f_X8_hearCode M (f_X6_refusalOfTurn M 1 x1 x2 x3) x2).1, 0, (f_X8_hearCode M (f_X6_refusalOfTurn M 1 x1 x2 x3) x2).2))
theorem m_X8_turnKey (G : tvG) (M : tvM) (x1 : Int32) (x2 : Int32) (x3 : Int32) : tvRun G yX8_turnKey cX8_turnKey 4 (some .char) 8 1 6 tvP0 tvP0 [.ref (G.2.1 + 0), .int x1, .int x2, .int x3] M (tvOx (some (.int (f_X8_turnKey M x1 x2 x3).2.1)) (f_X8_turnKey M x1 x2 x3).1) ((f_X8_turnKey M x1 x2 x3).2.2) := by
  refine tvRun.of yk_X8_turnKey rfl [some (.ref (G.2.1 + 0)), some (.int x1), some (.int x2), some (.int x3)] rfl (Nat.le_of_ble_eq_true rfl) ?_
  intro E hG C hQ; subst hG
  refine tv_aload_n C dk_X8_turnKey_0 rfl ?_
  refine tv_aload_n C dk_X8_turnKey_1 rfl ?_
  refine tv_getR (r := 1) C dk_X8_turnKey_2 fl_RX8_12 (Nat.le_of_ble_eq_true rfl) rfl rfl (fun _ _ _ _ => rfl) ?_
  refine tv_iload_n C dk_X8_turnKey_5 rfl ?_
  refine tv_iload_n C dk_X8_turnKey_6 rfl ?_
  refine tv_iload_n C dk_X8_turnKey_7 rfl ?_
  refine tv_cV1 C dk_X8_turnKey_8 ml_RX8_96 yk_X6_refusalOfTurn yi_X6_refusalOfTurn (m_X6_refusalOfTurn _ M tvSBn_1 x1 x2 x3) (tvSB_sh tvSBn_1 0 (by decide)).2 (tvSB_sh tvSBn_1 0 (by decide)).1 rfl rfl rfl (Nat.le_of_ble_eq_true rfl) (Nat.le_of_ble_eq_true rfl) (Nat.le_of_ble_eq_true rfl) (Nat.le_of_ble_eq_true rfl) (Nat.le_of_ble_eq_true rfl) ?_
  refine tv_iload_n C dk_X8_turnKey_11 rfl ?_
  refine tv_cVx C dk_X8_turnKey_12 ml_RX8_99 yk_X8_hearCode yi_X8_hearCode (m_X8_hearCode _ M (f_X6_refusalOfTurn M 1 x1 x2 x3) x2) (Nat.le_of_ble_eq_true rfl) rfl rfl rfl rfl (Nat.le_of_ble_eq_true rfl) (Nat.le_of_ble_eq_true rfl) (Nat.le_of_ble_eq_true rfl) (Nat.le_of_ble_eq_true rfl) (Nat.le_of_ble_eq_true rfl) rfl rfl rfl (fun _ h1e => tv_out C hQ (by rw [f_X8_turnKey, if_neg (tv_sn h1e)]; rw [h1e]; rfl) (by rw [f_X8_turnKey, if_neg (tv_sn h1e)])) (fun h1 => ?_)
  refine tv_aload_n C dk_X8_turnKey_15 rfl ?_
  refine tv_getR (r := 1) C dk_X8_turnKey_16 fl_RX8_12 (Nat.le_of_ble_eq_true rfl) rfl rfl (fun _ _ _ _ => rfl) ?_
  refine tv_iload_n C dk_X8_turnKey_19 rfl ?_
  refine tv_iload_n C dk_X8_turnKey_20 rfl ?_
  refine tv_cV1 C dk_X8_turnKey_21 ml_RX8_103 yk_X6_turn yi_X6_turn (m_X6_turn _ ((f_X8_hearCode M (f_X6_refusalOfTurn M 1 x1 x2 x3) x2).2) tvSBn_1 x1 x2) (tvSB_sh tvSBn_1 0 (by decide)).2 (tvSB_sh tvSBn_1 0 (by decide)).1 rfl rfl rfl (Nat.le_of_ble_eq_true rfl) (Nat.le_of_ble_eq_true rfl) (Nat.le_of_ble_eq_true rfl) (Nat.le_of_ble_eq_true rfl) (Nat.le_of_ble_eq_true rfl) ?_
  exact tv_iret C hQ dk_X8_turnKey_24 (fz_X6_turn) (by rw [f_X8_turnKey, if_pos h1]; rfl) (by rw [f_X8_turnKey, if_pos h1])
