/-- TideVault.minutesLocked(I)I -/
def f_X8_minutesLocked (M : tvM) (x1 : Int32) : Option String × Int32 × tvM := (if (f_X8_refuse M (f_X8_refusalOfHolderNumber M x1)).1 = none then (none, (f_X2_lockedFor M 1 x1 (tgi M 1 4)), M) else ((f_X8_refuse M (f_X8_refusalOfHolderNumber M x1)).1, 0, M))
theorem m_X8_minutesLocked (G : tvG) (M : tvM) (x1 : Int32) : tvRun G yX8_minutesLocked cX8_minutesLocked 2 (some .int) 7 1 6 tvP0 tvP0 [.ref (G.2.1 + 0), .int x1] M (tvOx (some (.int (f_X8_minutesLocked M x1).2.1)) (f_X8_minutesLocked M x1).1) M := by
  refine tvRun.of yk_X8_minutesLocked rfl [some (.ref (G.2.1 + 0)), some (.int x1)] rfl (Nat.le_of_ble_eq_true rfl) ?_
  intro E hG C hQ; subst hG
  refine tv_aload_n C dk_X8_minutesLocked_0 rfl ?_
  refine tv_iload_n C dk_X8_minutesLocked_1 rfl ?_
  refine tv_cV1 C dk_X8_minutesLocked_2 ml_RX8_159 yk_X8_refusalOfHolderNumber yi_X8_refusalOfHolderNumber (m_X8_refusalOfHolderNumber _ M x1) (Nat.le_of_ble_eq_true rfl) rfl rfl rfl rfl (Nat.le_of_ble_eq_true rfl) (Nat.le_of_ble_eq_true rfl) (Nat.le_of_ble_eq_true rfl) (Nat.le_of_ble_eq_true rfl) (Nat.le_of_ble_eq_true rfl) ?_
  refine tv_cSx C dk_X8_minutesLocked_5 ml_RX8_54 yk_X8_refuse yi_X8_refuse (n_X8_refuse _ M (f_X8_refusalOfHolderNumber M x1)) rfl rfl (Nat.le_of_ble_eq_true rfl) (Nat.le_of_ble_eq_true rfl) (Nat.le_of_ble_eq_true rfl) (Nat.le_of_ble_eq_true rfl) (Nat.le_of_ble_eq_true rfl) rfl rfl rfl (fun _ h1e => tv_out C hQ (by rw [f_X8_minutesLocked, if_neg (tv_sn h1e)]; rw [h1e]; rfl) (rfl)) (fun h1 => ?_)
  refine tv_aload_n C dk_X8_minutesLocked_8 rfl ?_
  refine tv_getR (r := 1) C dk_X8_minutesLocked_9 fl_RX8_12 (Nat.le_of_ble_eq_true rfl) rfl rfl (fun _ _ _ _ => rfl) ?_
  refine tv_getR (r := (1 + 2)) C dk_X8_minutesLocked_12 fl_RX8_62 (tvSB_sh tvSBn_1 0 (by decide)).2 (tvSB_sh tvSBn_1 0 (by decide)).1 (tvSB_rho tvSBn_1 (0, 1, 2) (by decide)) (fun _ _ _ _ => rfl) ?_
  refine tv_iload_n C dk_X8_minutesLocked_15 rfl ?_
  refine tv_aload_n C dk_X8_minutesLocked_16 rfl ?_
  refine tv_getR (r := 1) C dk_X8_minutesLocked_17 fl_RX8_12 (Nat.le_of_ble_eq_true rfl) rfl rfl (fun _ _ _ _ => rfl) ?_
  refine tv_getI C dk_X8_minutesLocked_20 fl_RX8_137 (tvSB_sh tvSBn_1 0 (by decide)).2 (tvSB_sh tvSBn_1 0 (by decide)).1 (fun _ _ _ _ => rfl) ?_
  refine tv_cV1 C dk_X8_minutesLocked_23 ml_RX8_165 yk_X2_lockedFor yi_X2_lockedFor (m_X2_lockedFor _ M tvSBn_1 x1 (tgi M 1 4)) (tvSB_sh tvSBn_1 2 (by decide)).2 (tvSB_sh tvSBn_1 2 (by decide)).1 rfl rfl rfl (Nat.le_of_ble_eq_true rfl) (Nat.le_of_ble_eq_true rfl) (Nat.le_of_ble_eq_true rfl) (Nat.le_of_ble_eq_true rfl) (Nat.le_of_ble_eq_true rfl) ?_
  exact tv_iret C hQ dk_X8_minutesLocked_26 rfl (by rw [f_X8_minutesLocked, if_pos h1]; rfl) rfl
/-- TideVault.boxesOf(I)I -/
def f_X8_boxesOf (M : tvM) (x1 : Int32) : Option String × Int32 × tvM := (if (f_X8_refuse M (f_X8_refusalOfHolderNumber M x1)).1 = none then (none, (f_X0_countOf M 1 x1), M) else ((f_X8_refuse M (f_X8_refusalOfHolderNumber M x1)).1, 0, M))
theorem m_X8_boxesOf (G : tvG) (M : tvM) (x1 : Int32) : tvRun G yX8_boxesOf cX8_boxesOf 2 (some .int) 7 1 6 tvP0 tvP0 [.ref (G.2.1 + 0), .int x1] M (tvOx (some (.int (f_X8_boxesOf M x1).2.1)) (f_X8_boxesOf M x1).1) M := by
  refine tvRun.of yk_X8_boxesOf rfl [some (.ref (G.2.1 + 0)), some (.int x1)] rfl (Nat.le_of_ble_eq_true rfl) ?_
  intro E hG C hQ; subst hG
  refine tv_aload_n C dk_X8_boxesOf_0 rfl ?_
  refine tv_iload_n C dk_X8_boxesOf_1 rfl ?_
  refine tv_cV1 C dk_X8_boxesOf_2 ml_RX8_159 yk_X8_refusalOfHolderNumber yi_X8_refusalOfHolderNumber (m_X8_refusalOfHolderNumber _ M x1) (Nat.le_of_ble_eq_true rfl) rfl rfl rfl rfl (Nat.le_of_ble_eq_true rfl) (Nat.le_of_ble_eq_true rfl) (Nat.le_of_ble_eq_true rfl) (Nat.le_of_ble_eq_true rfl) (Nat.le_of_ble_eq_true rfl) ?_
  refine tv_cSx C dk_X8_boxesOf_5 ml_RX8_54 yk_X8_refuse yi_X8_refuse (n_X8_refuse _ M (f_X8_refusalOfHolderNumber M x1)) rfl rfl (Nat.le_of_ble_eq_true rfl) (Nat.le_of_ble_eq_true rfl) (Nat.le_of_ble_eq_true rfl) (Nat.le_of_ble_eq_true rfl) (Nat.le_of_ble_eq_true rfl) rfl rfl rfl (fun _ h1e => tv_out C hQ (by rw [f_X8_boxesOf, if_neg (tv_sn h1e)]; rw [h1e]; rfl) (rfl)) (fun h1 => ?_)
  refine tv_aload_n C dk_X8_boxesOf_8 rfl ?_
  refine tv_getR (r := 1) C dk_X8_boxesOf_9 fl_RX8_12 (Nat.le_of_ble_eq_true rfl) rfl rfl (fun _ _ _ _ => rfl) ?_
  refine tv_getR (r := (1 + 6)) C dk_X8_boxesOf_12 fl_RX8_75 (tvSB_sh tvSBn_1 0 (by decide)).2 (tvSB_sh tvSBn_1 0 (by decide)).1 (tvSB_rho tvSBn_1 (0, 2, 6) (by decide)) (fun _ _ _ _ => rfl) ?_
  refine tv_iload_n C dk_X8_boxesOf_15 rfl ?_
  refine tv_cV1 C dk_X8_boxesOf_16 ml_RX8_168 yk_X0_countOf yi_X0_countOf (n_X0_countOf _ M tvSBn_1 x1) (tvSB_sh tvSBn_1 6 (by decide)).2 (tvSB_sh tvSBn_1 6 (by decide)).1 rfl rfl rfl (Nat.le_of_ble_eq_true rfl) (Nat.le_of_ble_eq_true rfl) (Nat.le_of_ble_eq_true rfl) (Nat.le_of_ble_eq_true rfl) (Nat.le_of_ble_eq_true rfl) ?_
  exact tv_iret C hQ dk_X8_boxesOf_19 rfl (by rw [f_X8_boxesOf, if_pos h1]; rfl) rfl
/-- TideVault.boxes()I -/
def f_X8_boxes (M : tvM) : Int32 := (tgi M (1 + 6) 0)
theorem m_X8_boxes (G : tvG) (M : tvM) : tvRun G yX8_boxes cX8_boxes 1 (some .int) 1 0 0 tvP0 tvP0 [.ref (G.2.1 + 0)] M (.inl (some (.int (f_X8_boxes M)))) M := by
  refine tvRun.of yk_X8_boxes rfl [some (.ref (G.2.1 + 0))] rfl (Nat.le_of_ble_eq_true rfl) ?_
  intro E hG C hQ; subst hG
  refine tv_aload_n C dk_X8_boxes_0 rfl ?_
  refine tv_getR (r := 1) C dk_X8_boxes_1 fl_RX8_12 (Nat.le_of_ble_eq_true rfl) rfl rfl (fun _ _ _ _ => rfl) ?_
  refine tv_getR (r := (1 + 6)) C dk_X8_boxes_4 fl_RX8_75 (tvSB_sh tvSBn_1 0 (by decide)).2 (tvSB_sh tvSBn_1 0 (by decide)).1 (tvSB_rho tvSBn_1 (0, 2, 6) (by decide)) (fun _ _ _ _ => rfl) ?_
  refine tv_getI C dk_X8_boxes_7 fl_RX8_171 (tvSB_sh tvSBn_1 6 (by decide)).2 (tvSB_sh tvSBn_1 6 (by decide)).1 (fun _ _ _ _ => rfl) ?_
  exact tv_iret C hQ dk_X8_boxes_10 rfl (by rw [f_X8_boxes]) rfl
/-- TideVault.otherHolder(II)I -/
def f_X8_otherHolder (M : tvM) (x1 : Int32) (x2 : Int32) : Option String × Int32 × tvM := (if (f_X8_refuse M (f_X8_refusalOfBoxNumber M x1)).1 = none then (if (f_X0_belongsTo M 1 x1 x2) = 0 then ((some "java/lang/IllegalArgumentException"), 0, M) else (none, (f_X0_partnerOf M 1 x1 x2), M)) else ((f_X8_refuse M (f_X8_refusalOfBoxNumber M x1)).1, 0, M))
theorem m_X8_otherHolder (G : tvG) (M : tvM) (x1 : Int32) (x2 : Int32) : tvRun G yX8_otherHolder cX8_otherHolder 3 (some .int) 7 2 12 tvP0 tvP0 [.ref (G.2.1 + 0), .int x1, .int x2] M (tvOx (some (.int (f_X8_otherHolder M x1 x2).2.1)) (f_X8_otherHolder M x1 x2).1) M := by
  refine tvRun.of yk_X8_otherHolder rfl [some (.ref (G.2.1 + 0)), some (.int x1), some (.int x2)] rfl (Nat.le_of_ble_eq_true rfl) ?_
  intro E hG C hQ; subst hG
  refine tv_aload_n C dk_X8_otherHolder_0 rfl ?_
  refine tv_iload_n C dk_X8_otherHolder_1 rfl ?_
  refine tv_cV1 C dk_X8_otherHolder_2 ml_RX8_172 yk_X8_refusalOfBoxNumber yi_X8_refusalOfBoxNumber (m_X8_refusalOfBoxNumber _ M x1) (Nat.le_of_ble_eq_true rfl) rfl rfl rfl rfl (Nat.le_of_ble_eq_true rfl) (Nat.le_of_ble_eq_true rfl) (Nat.le_of_ble_eq_true rfl) (Nat.le_of_ble_eq_true rfl) (Nat.le_of_ble_eq_true rfl) ?_
  refine tv_cSx C dk_X8_otherHolder_5 ml_RX8_54 yk_X8_refuse yi_X8_refuse (n_X8_refuse _ M (f_X8_refusalOfBoxNumber M x1)) rfl rfl (Nat.le_of_ble_eq_true rfl) (Nat.le_of_ble_eq_true rfl) (Nat.le_of_ble_eq_true rfl) (Nat.le_of_ble_eq_true rfl) (Nat.le_of_ble_eq_true rfl) rfl rfl rfl (fun _ h1e => tv_out C hQ (by rw [f_X8_otherHolder, if_neg (tv_sn h1e)]; rw [h1e]; rfl) (rfl)) (fun h1 => ?_)
  refine tv_aload_n C dk_X8_otherHolder_8 rfl ?_
  refine tv_getR (r := 1) C dk_X8_otherHolder_9 fl_RX8_12 (Nat.le_of_ble_eq_true rfl) rfl rfl (fun _ _ _ _ => rfl) ?_
  refine tv_getR (r := (1 + 6)) C dk_X8_otherHolder_12 fl_RX8_75 (tvSB_sh tvSBn_1 0 (by decide)).2 (tvSB_sh tvSBn_1 0 (by decide)).1 (tvSB_rho tvSBn_1 (0, 2, 6) (by decide)) (fun _ _ _ _ => rfl) ?_
  refine tv_iload_n C dk_X8_otherHolder_15 rfl ?_
  refine tv_iload_n C dk_X8_otherHolder_16 rfl ?_
  refine tv_cV1 C dk_X8_otherHolder_17 ml_RX8_175 yk_X0_belongsTo yi_X0_belongsTo (m_X0_belongsTo _ M tvSBn_1 x1 x2) (tvSB_sh tvSBn_1 6 (by decide)).2 (tvSB_sh tvSBn_1 6 (by decide)).1 rfl rfl rfl (Nat.le_of_ble_eq_true rfl) (Nat.le_of_ble_eq_true rfl) (Nat.le_of_ble_eq_true rfl) (Nat.le_of_ble_eq_true rfl) (Nat.le_of_ble_eq_true rfl) ?_
  refine tv_if_ne C dk_X8_otherHolder_20 (fun h2 => ?_) (fun h2 => ?_)
  · refine tv_aload_n C dk_X8_otherHolder_33 rfl ?_
    refine tv_getR (r := 1) C dk_X8_otherHolder_34 fl_RX8_12 (Nat.le_of_ble_eq_true rfl) rfl rfl (fun _ _ _ _ => rfl) ?_
    refine tv_getR (r := (1 + 6)) C dk_X8_otherHolder_37 fl_RX8_75 (tvSB_sh tvSBn_1 0 (by decide)).2 (tvSB_sh tvSBn_1 0 (by decide)).1 (tvSB_rho tvSBn_1 (0, 2, 6) (by decide)) (fun _ _ _ _ => rfl) ?_
    refine tv_iload_n C dk_X8_otherHolder_40 rfl ?_
    refine tv_iload_n C dk_X8_otherHolder_41 rfl ?_
    refine tv_cV1 C dk_X8_otherHolder_42 ml_RX8_186 yk_X0_partnerOf yi_X0_partnerOf (m_X0_partnerOf _ M tvSBn_1 x1 x2) (tvSB_sh tvSBn_1 6 (by decide)).2 (tvSB_sh tvSBn_1 6 (by decide)).1 rfl rfl rfl (Nat.le_of_ble_eq_true rfl) (Nat.le_of_ble_eq_true rfl) (Nat.le_of_ble_eq_true rfl) (Nat.le_of_ble_eq_true rfl) (Nat.le_of_ble_eq_true rfl) ?_
    exact tv_iret C hQ dk_X8_otherHolder_45 rfl (by rw [f_X8_otherHolder, if_pos h1, if_neg h2]; rfl) rfl
  exact tv_throw C tvP0_ex hQ th_RX8_179_181 dk_X8_otherHolder_23 dk_X8_otherHolder_26 dk_X8_otherHolder_27 dk_X8_otherHolder_29 dk_X8_otherHolder_32 (Nat.le_of_ble_eq_true rfl) (Nat.le_of_ble_eq_true rfl) (by rw [f_X8_otherHolder, if_pos h1, if_pos h2]; rfl) (rfl)
