/-- TideVault$State.isCode(I)Z -/
def f_X6_isCode (M : tvM) (b : Nat) (x1 : Int32) : Int32 := (if x1 < 0 then 0 else (if 999 < x1 then 0 else 1))
theorem m_X6_isCode (G : tvG) (M : tvM) {b : Nat} (hb : tvSB b) (x1 : Int32) : tvRun G yX6_isCode cX6_isCode 2 (some .boolean) 1 0 0 tvP0 tvP0 [.ref (G.2.1 + b), .int x1] M (.inl (some (.int (f_X6_isCode M b x1)))) M := by
  refine tvRun.of yk_X6_isCode rfl [some (.ref (G.2.1 + b)), some (.int x1)] rfl (Nat.le_of_ble_eq_true rfl) ?_
  intro E hG C hQ; subst hG
  refine tv_iload_n C dk_X6_isCode_0 rfl ?_
  refine tv_if_lt C dk_X6_isCode_1 (fun h1 => ?_) (fun h1 => ?_)
  · refine tv_iconst (v := 0) C dk_X6_isCode_15 (by decide) ?_
    exact tv_iret C hQ dk_X6_isCode_16 rfl (by rw [f_X6_isCode, if_pos h1]) rfl
  refine tv_iload_n C dk_X6_isCode_4 rfl ?_
  refine tv_sipush (v := 999) C dk_X6_isCode_5 (by decide) ?_
  refine tv_icmp_gt C dk_X6_isCode_8 (fun h2 => ?_) (fun h2 => ?_)
  · refine tv_iconst (v := 0) C dk_X6_isCode_15 (by decide) ?_
    exact tv_iret C hQ dk_X6_isCode_16 rfl (by rw [f_X6_isCode, if_neg h1, if_pos h2]) rfl
  refine tv_iconst (v := 1) C dk_X6_isCode_11 (by decide) ?_
  refine tv_goto C dk_X6_isCode_12 ?_
  exact tv_iret C hQ dk_X6_isCode_16 rfl (by rw [f_X6_isCode, if_neg h1, if_neg h2]) rfl
theorem fz_X6_isCode {M : tvM} {b : Nat} {x1 : Int32} : narrow .boolean (.int (f_X6_isCode M b x1)) = .int (f_X6_isCode M b x1) := by
  unfold f_X6_isCode; repeat' split
  all_goals first | rfl
/-- TideVault$State.isLow()Z -/
def f_X6_isLow (M : tvM) (b : Nat) : Int32 := (f_X7_isLowAt M b (tgi M b 4))
theorem m_X6_isLow (G : tvG) (M : tvM) {b : Nat} (hb : tvSB b) : tvRun G yX6_isLow cX6_isLow 1 (some .boolean) 2 0 0 tvP0 tvP0 [.ref (G.2.1 + b)] M (.inl (some (.int (f_X6_isLow M b)))) M := by
  refine tvRun.of yk_X6_isLow rfl [some (.ref (G.2.1 + b))] rfl (Nat.le_of_ble_eq_true rfl) ?_
  intro E hG C hQ; subst hG
  refine tv_aload_n C dk_X6_isLow_0 rfl ?_
  refine tv_getR (r := (b + 1)) C dk_X6_isLow_1 fl_RX6_12 (tvSB_sh hb 0 (by decide)).2 (tvSB_sh hb 0 (by decide)).1 (tvSB_rho hb (0, 0, 1) (by decide)) (fun _ _ _ _ => rfl) ?_
  refine tv_aload_n C dk_X6_isLow_4 rfl ?_
  refine tv_getI C dk_X6_isLow_5 fl_RX6_52 (tvSB_sh hb 0 (by decide)).2 (tvSB_sh hb 0 (by decide)).1 (fun _ _ _ _ => rfl) ?_
  refine tv_cV1 C dk_X6_isLow_8 ml_RX6_228 yk_X7_isLowAt yi_X7_isLowAt (m_X7_isLowAt _ M hb (tgi M b 4)) (tvSB_sh hb 1 (by decide)).2 (tvSB_sh hb 1 (by decide)).1 rfl rfl rfl (Nat.le_of_ble_eq_true rfl) (Nat.le_of_ble_eq_true rfl) (Nat.le_of_ble_eq_true rfl) (Nat.le_of_ble_eq_true rfl) (Nat.le_of_ble_eq_true rfl) ?_
  exact tv_iret C hQ dk_X6_isLow_11 (fz_X7_isLowAt) (by rw [f_X6_isLow]) rfl
theorem fz_X6_isLow {M : tvM} {b : Nat} : narrow .boolean (.int (f_X6_isLow M b)) = .int (f_X6_isLow M b) := by
  unfold f_X6_isLow; repeat' split
  all_goals first | rfl | exact (fz_X7_isLowAt)
/-- TideVault$State.isLocked(I)Z -/
def f_X6_isLocked (M : tvM) (b : Nat) (x1 : Int32) : Int32 := (if (f_X2_lockedFor M b x1 (tgi M b 4)) ≤ 0 then 0 else 1)
theorem m_X6_isLocked (G : tvG) (M : tvM) {b : Nat} (hb : tvSB b) (x1 : Int32) : tvRun G yX6_isLocked cX6_isLocked 2 (some .boolean) 3 0 0 tvP0 tvP0 [.ref (G.2.1 + b), .int x1] M (.inl (some (.int (f_X6_isLocked M b x1)))) M := by
  refine tvRun.of yk_X6_isLocked rfl [some (.ref (G.2.1 + b)), some (.int x1)] rfl (Nat.le_of_ble_eq_true rfl) ?_
  intro E hG C hQ; subst hG
  refine tv_aload_n C dk_X6_isLocked_0 rfl ?_
  refine tv_getR (r := (b + 2)) C dk_X6_isLocked_1 fl_RX6_21 (tvSB_sh hb 0 (by decide)).2 (tvSB_sh hb 0 (by decide)).1 (tvSB_rho hb (0, 1, 2) (by decide)) (fun _ _ _ _ => rfl) ?_
  refine tv_iload_n C dk_X6_isLocked_4 rfl ?_
  refine tv_aload_n C dk_X6_isLocked_5 rfl ?_
  refine tv_getI C dk_X6_isLocked_6 fl_RX6_52 (tvSB_sh hb 0 (by decide)).2 (tvSB_sh hb 0 (by decide)).1 (fun _ _ _ _ => rfl) ?_
  refine tv_cV1 C dk_X6_isLocked_9 ml_RX6_231 yk_X2_lockedFor yi_X2_lockedFor (m_X2_lockedFor _ M hb x1 (tgi M b 4)) (tvSB_sh hb 2 (by decide)).2 (tvSB_sh hb 2 (by decide)).1 rfl rfl rfl (Nat.le_of_ble_eq_true rfl) (Nat.le_of_ble_eq_true rfl) (Nat.le_of_ble_eq_true rfl) (Nat.le_of_ble_eq_true rfl) (Nat.le_of_ble_eq_true rfl) ?_
  refine tv_if_le C dk_X6_isLocked_12 (fun h1 => ?_) (fun h1 => ?_)
  · refine tv_iconst (v := 0) C dk_X6_isLocked_19 (by decide) ?_
    exact tv_iret C hQ dk_X6_isLocked_20 rfl (by rw [f_X6_isLocked, if_pos h1]) rfl
  refine tv_iconst (v := 1) C dk_X6_isLocked_15 (by decide) ?_
  refine tv_goto C dk_X6_isLocked_16 ?_
  exact tv_iret C hQ dk_X6_isLocked_20 rfl (by rw [f_X6_isLocked, if_neg h1]) rfl
theorem fz_X6_isLocked {M : tvM} {b : Nat} {x1 : Int32} : narrow .boolean (.int (f_X6_isLocked M b x1)) = .int (f_X6_isLocked M b x1) := by
  unfold f_X6_isLocked; repeat' split
  all_goals first | rfl
/-- TideVault$State.raiseAlarm(I)V -/
def f_X6_raiseAlarm (M : tvM) (b : Nat) (x1 : Int32) : tvM := (tpi M b 5 (f_J9_min_7cf53 M ((tgi M b 5) + x1) 99))
theorem m_X6_raiseAlarm (G : tvG) (M : tvM) {b : Nat} (hb : tvSB b) (x1 : Int32) : tvRun G yX6_raiseAlarm cX6_raiseAlarm 2 none 2 0 0 tvP0 tvP0 [.ref (G.2.1 + b), .int x1] M (.inl none) (f_X6_raiseAlarm M b x1) := by
  refine tvRun.of yk_X6_raiseAlarm rfl [some (.ref (G.2.1 + b)), some (.int x1)] rfl (Nat.le_of_ble_eq_true rfl) ?_
  intro E hG C hQ; subst hG
  refine tv_aload_n C dk_X6_raiseAlarm_0 rfl ?_
  refine tv_aload_n C dk_X6_raiseAlarm_1 rfl ?_
  refine tv_getI C dk_X6_raiseAlarm_2 fl_RX6_56 (tvSB_sh hb 0 (by decide)).2 (tvSB_sh hb 0 (by decide)).1 (fun _ _ _ _ => rfl) ?_
  refine tv_iload_n C dk_X6_raiseAlarm_5 rfl ?_
  refine tv_iadd C dk_X6_raiseAlarm_6 ?_
  refine tv_bipush (v := 99) C dk_X6_raiseAlarm_7 (by decide) ?_
  refine tv_cS1 C dk_X6_raiseAlarm_9 ml_RX6_234 yk_J9_min_7cf53 yi_J9_min_7cf53 (m_J9_min_7cf53 _ M ((tgi M b 5) + x1) 99) rfl rfl (Nat.le_of_ble_eq_true rfl) (Nat.le_of_ble_eq_true rfl) (Nat.le_of_ble_eq_true rfl) (Nat.le_of_ble_eq_true rfl) (Nat.le_of_ble_eq_true rfl) ?_
  refine tv_putI C tvP0_ex dk_X6_raiseAlarm_12 fl_RX6_56 fw_6_5 (tvSB_sh hb 0 (by decide)).2 (tvSB_sh hb 0 (by decide)).1 rfl (fun _ _ _ _ _ => rfl) rfl rfl ?_
  exact tv_vret C hQ dk_X6_raiseAlarm_15 rfl (by rw [f_X6_raiseAlarm])
/-- TideVault$State.hearRightCode(I)V -/
def f_X6_hearRightCode (M : tvM) (b : Nat) (x1 : Int32) : tvM := (f_X2_setAttempts (tpi M b 6 ((tgi M b 6) + 1)) b x1 0)
theorem m_X6_hearRightCode (G : tvG) (M : tvM) {b : Nat} (hb : tvSB b) (x1 : Int32) : tvRun G yX6_hearRightCode cX6_hearRightCode 2 none 3 0 0 tvP0 tvP0 [.ref (G.2.1 + b), .int x1] M (.inl none) (f_X6_hearRightCode M b x1) := by
  refine tvRun.of yk_X6_hearRightCode rfl [some (.ref (G.2.1 + b)), some (.int x1)] rfl (Nat.le_of_ble_eq_true rfl) ?_
  intro E hG C hQ; subst hG
  refine tv_aload_n C dk_X6_hearRightCode_0 rfl ?_
  refine tv_dup C dk_X6_hearRightCode_1 rfl ?_
  refine tv_getI C dk_X6_hearRightCode_2 fl_RX6_59 (tvSB_sh hb 0 (by decide)).2 (tvSB_sh hb 0 (by decide)).1 (fun _ _ _ _ => rfl) ?_
  refine tv_iconst (v := 1) C dk_X6_hearRightCode_5 (by decide) ?_
  refine tv_iadd C dk_X6_hearRightCode_6 ?_
  refine tv_putI C tvP0_ex dk_X6_hearRightCode_7 fl_RX6_59 fw_6_6 (tvSB_sh hb 0 (by decide)).2 (tvSB_sh hb 0 (by decide)).1 rfl (fun _ _ _ _ _ => rfl) rfl rfl ?_
  refine tv_aload_n C dk_X6_hearRightCode_10 rfl ?_
  refine tv_getR (r := (b + 2)) C dk_X6_hearRightCode_11 fl_RX6_21 (tvSB_sh hb 0 (by decide)).2 (tvSB_sh hb 0 (by decide)).1 (tvSB_rho hb (0, 1, 2) (by decide)) (fun _ _ _ _ => rfl) ?_
  refine tv_iload_n C dk_X6_hearRightCode_14 rfl ?_
  refine tv_iconst (v := 0) C dk_X6_hearRightCode_15 (by decide) ?_
  refine tv_cV0 C dk_X6_hearRightCode_16 ml_RX6_189 yk_X2_setAttempts yi_X2_setAttempts (m_X2_setAttempts _ (tpi M b 6 ((tgi M b 6) + 1)) hb x1 0) (tvSB_sh hb 2 (by decide)).2 (tvSB_sh hb 2 (by decide)).1 rfl rfl rfl (Nat.le_of_ble_eq_true rfl) (Nat.le_of_ble_eq_true rfl) (Nat.le_of_ble_eq_true rfl) (Nat.le_of_ble_eq_true rfl) (Nat.le_of_ble_eq_true rfl) ?_
  exact tv_vret C hQ dk_X6_hearRightCode_19 rfl (by rw [f_X6_hearRightCode])
/-- TideVault$State.refusalOfHolder(I)I -/
def f_X6_refusalOfHolder (M : tvM) (b : Nat) (x1 : Int32) : Int32 := (if (f_X6_isCode M b x1) = 0 then 2 else (if (tgi M (b + 2) 0) < 8 then 0 else 3))
theorem m_X6_refusalOfHolder (G : tvG) (M : tvM) {b : Nat} (hb : tvSB b) (x1 : Int32) : tvRun G yX6_refusalOfHolder cX6_refusalOfHolder 2 (some .int) 2 0 0 tvP0 tvP0 [.ref (G.2.1 + b), .int x1] M (.inl (some (.int (f_X6_refusalOfHolder M b x1)))) M := by
  refine tvRun.of yk_X6_refusalOfHolder rfl [some (.ref (G.2.1 + b)), some (.int x1)] rfl (Nat.le_of_ble_eq_true rfl) ?_
  intro E hG C hQ; subst hG
  refine tv_aload_n C dk_X6_refusalOfHolder_0 rfl ?_
  refine tv_iload_n C dk_X6_refusalOfHolder_1 rfl ?_
  refine tv_cV1 C dk_X6_refusalOfHolder_2 ml_RX6_69 yk_X6_isCode yi_X6_isCode (m_X6_isCode _ M hb x1) (tvSB_sh hb 0 (by decide)).2 (tvSB_sh hb 0 (by decide)).1 rfl rfl rfl (Nat.le_of_ble_eq_true rfl) (Nat.le_of_ble_eq_true rfl) (Nat.le_of_ble_eq_true rfl) (Nat.le_of_ble_eq_true rfl) (Nat.le_of_ble_eq_true rfl) ?_
  refine tv_if_ne C dk_X6_refusalOfHolder_5 (fun h1 => ?_) (fun h1 => ?_)
  · refine tv_aload_n C dk_X6_refusalOfHolder_10 rfl ?_
    refine tv_getR (r := (b + 2)) C dk_X6_refusalOfHolder_11 fl_RX6_21 (tvSB_sh hb 0 (by decide)).2 (tvSB_sh hb 0 (by decide)).1 (tvSB_rho hb (0, 1, 2) (by decide)) (fun _ _ _ _ => rfl) ?_
    refine tv_getI C dk_X6_refusalOfHolder_14 fl_RX6_73 (tvSB_sh hb 2 (by decide)).2 (tvSB_sh hb 2 (by decide)).1 (fun _ _ _ _ => rfl) ?_
    refine tv_bipush (v := 8) C dk_X6_refusalOfHolder_17 (by decide) ?_
    refine tv_icmp_lt C dk_X6_refusalOfHolder_19 (fun h2 => ?_) (fun h2 => ?_)
    · refine tv_iconst (v := 0) C dk_X6_refusalOfHolder_26 (by decide) ?_
      exact tv_iret C hQ dk_X6_refusalOfHolder_27 rfl (by rw [f_X6_refusalOfHolder, if_neg h1, if_pos h2]) rfl
    refine tv_iconst (v := 3) C dk_X6_refusalOfHolder_22 (by decide) ?_
    refine tv_goto C dk_X6_refusalOfHolder_23 ?_
    exact tv_iret C hQ dk_X6_refusalOfHolder_27 rfl (by rw [f_X6_refusalOfHolder, if_neg h1, if_neg h2]) rfl
  refine tv_iconst (v := 2) C dk_X6_refusalOfHolder_8 (by decide) ?_
  exact tv_iret C hQ dk_X6_refusalOfHolder_9 rfl (by rw [f_X6_refusalOfHolder, if_pos h1]) rfl
/-- TideVault$State.refusalOfBox(III)I -/
def f_X6_refusalOfBox (M : tvM) (b : Nat) (x1 : Int32) (x2 : Int32) (x3 : Int32) : Int32 := (if (f_X2_has M b x1) = 0 then 1 else (if (f_X2_has M b x2) = 0 then 1 else (if x1 = x2 then 2 else (if x3 < 0 then 2 else (if x3 ≤ 60 then (if (tgi M (b + 6) 0) < 10 then 0 else 3) else 2)))))
theorem m_X6_refusalOfBox (G : tvG) (M : tvM) {b : Nat} (hb : tvSB b) (x1 : Int32) (x2 : Int32) (x3 : Int32) : tvRun G yX6_refusalOfBox cX6_refusalOfBox 4 (some .int) 2 0 0 tvP0 tvP0 [.ref (G.2.1 + b), .int x1, .int x2, .int x3] M (.inl (some (.int (f_X6_refusalOfBox M b x1 x2 x3)))) M := by
  refine tvRun.of yk_X6_refusalOfBox rfl [some (.ref (G.2.1 + b)), some (.int x1), some (.int x2), some (.int x3)] rfl (Nat.le_of_ble_eq_true rfl) ?_
  intro E hG C hQ; subst hG
  refine tv_aload_n C dk_X6_refusalOfBox_0 rfl ?_
  refine tv_getR (r := (b + 2)) C dk_X6_refusalOfBox_1 fl_RX6_21 (tvSB_sh hb 0 (by decide)).2 (tvSB_sh hb 0 (by decide)).1 (tvSB_rho hb (0, 1, 2) (by decide)) (fun _ _ _ _ => rfl) ?_
  refine tv_iload_n C dk_X6_refusalOfBox_4 rfl ?_
  refine tv_cV1 C dk_X6_refusalOfBox_5 ml_RX6_76 yk_X2_has yi_X2_has (m_X2_has _ M hb x1) (tvSB_sh hb 2 (by decide)).2 (tvSB_sh hb 2 (by decide)).1 rfl rfl rfl (Nat.le_of_ble_eq_true rfl) (Nat.le_of_ble_eq_true rfl) (Nat.le_of_ble_eq_true rfl) (Nat.le_of_ble_eq_true rfl) (Nat.le_of_ble_eq_true rfl) ?_
  refine tv_if_eq C dk_X6_refusalOfBox_8 (fun h1 => ?_) (fun h1 => ?_)
  · refine tv_iconst (v := 1) C dk_X6_refusalOfBox_22 (by decide) ?_
    exact tv_iret C hQ dk_X6_refusalOfBox_23 rfl (by rw [f_X6_refusalOfBox, if_pos h1]) rfl
  refine tv_aload_n C dk_X6_refusalOfBox_11 rfl ?_
  refine tv_getR (r := (b + 2)) C dk_X6_refusalOfBox_12 fl_RX6_21 (tvSB_sh hb 0 (by decide)).2 (tvSB_sh hb 0 (by decide)).1 (tvSB_rho hb (0, 1, 2) (by decide)) (fun _ _ _ _ => rfl) ?_
  refine tv_iload_n C dk_X6_refusalOfBox_15 rfl ?_
  refine tv_cV1 C dk_X6_refusalOfBox_16 ml_RX6_76 yk_X2_has yi_X2_has (m_X2_has _ M hb x2) (tvSB_sh hb 2 (by decide)).2 (tvSB_sh hb 2 (by decide)).1 rfl rfl rfl (Nat.le_of_ble_eq_true rfl) (Nat.le_of_ble_eq_true rfl) (Nat.le_of_ble_eq_true rfl) (Nat.le_of_ble_eq_true rfl) (Nat.le_of_ble_eq_true rfl) ?_
  refine tv_if_ne C dk_X6_refusalOfBox_19 (fun h2 => ?_) (fun h2 => ?_)
  · refine tv_iload_n C dk_X6_refusalOfBox_24 rfl ?_
    refine tv_iload_n C dk_X6_refusalOfBox_25 rfl ?_
    refine tv_icmp_eq C dk_X6_refusalOfBox_26 (fun h3 => ?_) (fun h3 => ?_)
    · refine tv_iconst (v := 2) C dk_X6_refusalOfBox_39 (by decide) ?_
      exact tv_iret C hQ dk_X6_refusalOfBox_40 rfl (by rw [f_X6_refusalOfBox, if_neg h1, if_neg h2, if_pos h3]) rfl
    refine tv_iload_n C dk_X6_refusalOfBox_29 rfl ?_
    refine tv_if_lt C dk_X6_refusalOfBox_30 (fun h4 => ?_) (fun h4 => ?_)
    · refine tv_iconst (v := 2) C dk_X6_refusalOfBox_39 (by decide) ?_
      exact tv_iret C hQ dk_X6_refusalOfBox_40 rfl (by rw [f_X6_refusalOfBox, if_neg h1, if_neg h2, if_neg h3, if_pos h4]) rfl
    refine tv_iload_n C dk_X6_refusalOfBox_33 rfl ?_
    refine tv_bipush (v := 60) C dk_X6_refusalOfBox_34 (by decide) ?_
    refine tv_icmp_le C dk_X6_refusalOfBox_36 (fun h5 => ?_) (fun h5 => ?_)
    · refine tv_aload_n C dk_X6_refusalOfBox_41 rfl ?_
      refine tv_getR (r := (b + 6)) C dk_X6_refusalOfBox_42 fl_RX6_28 (tvSB_sh hb 0 (by decide)).2 (tvSB_sh hb 0 (by decide)).1 (tvSB_rho hb (0, 2, 6) (by decide)) (fun _ _ _ _ => rfl) ?_
      refine tv_getI C dk_X6_refusalOfBox_45 fl_RX6_79 (tvSB_sh hb 6 (by decide)).2 (tvSB_sh hb 6 (by decide)).1 (fun _ _ _ _ => rfl) ?_
      refine tv_bipush (v := 10) C dk_X6_refusalOfBox_48 (by decide) ?_
      refine tv_icmp_lt C dk_X6_refusalOfBox_50 (fun h6 => ?_) (fun h6 => ?_)
      · refine tv_iconst (v := 0) C dk_X6_refusalOfBox_57 (by decide) ?_
        exact tv_iret C hQ dk_X6_refusalOfBox_58 rfl (by rw [f_X6_refusalOfBox, if_neg h1, if_neg h2, if_neg h3, if_neg h4, if_pos h5, if_pos h6]) rfl
      refine tv_iconst (v := 3) C dk_X6_refusalOfBox_53 (by decide) ?_
      refine tv_goto C dk_X6_refusalOfBox_54 ?_
      exact tv_iret C hQ dk_X6_refusalOfBox_58 rfl (by rw [f_X6_refusalOfBox, if_neg h1, if_neg h2, if_neg h3, if_neg h4, if_pos h5, if_neg h6]) rfl
    refine tv_iconst (v := 2) C dk_X6_refusalOfBox_39 (by decide) ?_
    exact tv_iret C hQ dk_X6_refusalOfBox_40 rfl (by rw [f_X6_refusalOfBox, if_neg h1, if_neg h2, if_neg h3, if_neg h4, if_neg h5]) rfl
  refine tv_iconst (v := 1) C dk_X6_refusalOfBox_22 (by decide) ?_
  exact tv_iret C hQ dk_X6_refusalOfBox_23 rfl (by rw [f_X6_refusalOfBox, if_neg h1, if_pos h2]) rfl
/-- TideVault$State.refusalOfTide(II)I -/
def f_X6_refusalOfTide (M : tvM) (b : Nat) (x1 : Int32) (x2 : Int32) : Int32 := (if x1 < 60 then 2 else (if 480 < x1 then 2 else (if x2 < 10 then 2 else (if x1 < x2 then 2 else 0))))
theorem m_X6_refusalOfTide (G : tvG) (M : tvM) {b : Nat} (hb : tvSB b) (x1 : Int32) (x2 : Int32) : tvRun G yX6_refusalOfTide cX6_refusalOfTide 4 (some .int) 1 0 0 tvP0 tvP0 [.ref (G.2.1 + b), .int x1, .int x2] M (.inl (some (.int (f_X6_refusalOfTide M b x1 x2)))) M := by
  refine tvRun.of yk_X6_refusalOfTide rfl [some (.ref (G.2.1 + b)), some (.int x1), some (.int x2), none] rfl (Nat.le_of_ble_eq_true rfl) ?_
  intro E hG C hQ; subst hG
  refine tv_iload_n C dk_X6_refusalOfTide_0 rfl ?_
  refine tv_bipush (v := 60) C dk_X6_refusalOfTide_1 (by decide) ?_
  refine tv_icmp_lt C dk_X6_refusalOfTide_3 (fun h1 => ?_) (fun h1 => ?_)
  · refine tv_iconst (v := 0) C dk_X6_refusalOfTide_17 (by decide) ?_
    refine tv_istore_n (L' := [_, _, _, _]) (hn := by decide) (hlt := (Nat.le_of_ble_eq_true rfl)) (hno := rfl) C dk_X6_refusalOfTide_18 rfl ?_
    refine tv_iload_n C dk_X6_refusalOfTide_19 rfl ?_
    refine tv_if_eq C dk_X6_refusalOfTide_20 (fun _ => ?_) (fun h => absurd h (by decide))
    refine tv_iconst (v := 2) C dk_X6_refusalOfTide_38 (by decide) ?_
    exact tv_iret C hQ dk_X6_refusalOfTide_39 rfl (by rw [f_X6_refusalOfTide, if_pos h1]) rfl
  refine tv_iload_n C dk_X6_refusalOfTide_6 rfl ?_
  refine tv_sipush (v := 480) C dk_X6_refusalOfTide_7 (by decide) ?_
  refine tv_icmp_gt C dk_X6_refusalOfTide_10 (fun h2 => ?_) (fun h2 => ?_)
  · refine tv_iconst (v := 0) C dk_X6_refusalOfTide_17 (by decide) ?_
    refine tv_istore_n (L' := [_, _, _, _]) (hn := by decide) (hlt := (Nat.le_of_ble_eq_true rfl)) (hno := rfl) C dk_X6_refusalOfTide_18 rfl ?_
    refine tv_iload_n C dk_X6_refusalOfTide_19 rfl ?_
    refine tv_if_eq C dk_X6_refusalOfTide_20 (fun _ => ?_) (fun h => absurd h (by decide))
    refine tv_iconst (v := 2) C dk_X6_refusalOfTide_38 (by decide) ?_
    exact tv_iret C hQ dk_X6_refusalOfTide_39 rfl (by rw [f_X6_refusalOfTide, if_neg h1, if_pos h2]) rfl
  refine tv_iconst (v := 1) C dk_X6_refusalOfTide_13 (by decide) ?_
  refine tv_goto C dk_X6_refusalOfTide_14 ?_
  refine tv_istore_n (L' := [_, _, _, _]) (hn := by decide) (hlt := (Nat.le_of_ble_eq_true rfl)) (hno := rfl) C dk_X6_refusalOfTide_18 rfl ?_
  refine tv_iload_n C dk_X6_refusalOfTide_19 rfl ?_
  refine tv_if_eq C dk_X6_refusalOfTide_20 (fun h => absurd h (by decide)) (fun _ => ?_)
  refine tv_iload_n C dk_X6_refusalOfTide_23 rfl ?_
  refine tv_bipush (v := 10) C dk_X6_refusalOfTide_24 (by decide) ?_
  refine tv_icmp_lt C dk_X6_refusalOfTide_26 (fun h3 => ?_) (fun h3 => ?_)
  · refine tv_iconst (v := 2) C dk_X6_refusalOfTide_38 (by decide) ?_
    exact tv_iret C hQ dk_X6_refusalOfTide_39 rfl (by rw [f_X6_refusalOfTide, if_neg h1, if_neg h2, if_pos h3]) rfl
  refine tv_iload_n C dk_X6_refusalOfTide_29 rfl ?_
  refine tv_iload_n C dk_X6_refusalOfTide_30 rfl ?_
  refine tv_icmp_gt C dk_X6_refusalOfTide_31 (fun h4 => ?_) (fun h4 => ?_)
  · refine tv_iconst (v := 2) C dk_X6_refusalOfTide_38 (by decide) ?_
    exact tv_iret C hQ dk_X6_refusalOfTide_39 rfl (by rw [f_X6_refusalOfTide, if_neg h1, if_neg h2, if_neg h3, if_pos h4]) rfl
  refine tv_iconst (v := 0) C dk_X6_refusalOfTide_34 (by decide) ?_
  refine tv_goto C dk_X6_refusalOfTide_35 ?_
  exact tv_iret C hQ dk_X6_refusalOfTide_39 rfl (by rw [f_X6_refusalOfTide, if_neg h1, if_neg h2, if_neg h3, if_neg h4]) rfl
/-- TideVault$State.refusalOfTurn(III)I -/
def f_X6_refusalOfTurn (M : tvM) (b : Nat) (x1 : Int32) (x2 : Int32) (x3 : Int32) : Int32 := (if (f_X0_has M b x1) = 0 then 1 else (if (f_X2_has M b x2) = 0 then 1 else (if (f_X0_belongsTo M b x1 x2) = 0 then 2 else (if 50 ≤ (tgi M b 5) then 3 else (if (f_X6_isLocked M b x2) = 0 then (if (f_X0_awaits M b x1 x2) = 0 then 3 else (if (f_X2_codeOf M b x2) = x3 then 0 else 4)) else 3)))))
theorem m_X6_refusalOfTurn (G : tvG) (M : tvM) {b : Nat} (hb : tvSB b) (x1 : Int32) (x2 : Int32) (x3 : Int32) : tvRun G yX6_refusalOfTurn cX6_refusalOfTurn 4 (some .int) 4 0 0 tvP0 tvP0 [.ref (G.2.1 + b), .int x1, .int x2, .int x3] M (.inl (some (.int (f_X6_refusalOfTurn M b x1 x2 x3)))) M := by
  refine tvRun.of yk_X6_refusalOfTurn rfl [some (.ref (G.2.1 + b)), some (.int x1), some (.int x2), some (.int x3)] rfl (Nat.le_of_ble_eq_true rfl) ?_
  intro E hG C hQ; subst hG
  refine tv_aload_n C dk_X6_refusalOfTurn_0 rfl ?_
  refine tv_getR (r := (b + 6)) C dk_X6_refusalOfTurn_1 fl_RX6_28 (tvSB_sh hb 0 (by decide)).2 (tvSB_sh hb 0 (by decide)).1 (tvSB_rho hb (0, 2, 6) (by decide)) (fun _ _ _ _ => rfl) ?_
  refine tv_iload_n C dk_X6_refusalOfTurn_4 rfl ?_
  refine tv_cV1 C dk_X6_refusalOfTurn_5 ml_RX6_80 yk_X0_has yi_X0_has (m_X0_has _ M hb x1) (tvSB_sh hb 6 (by decide)).2 (tvSB_sh hb 6 (by decide)).1 rfl rfl rfl (Nat.le_of_ble_eq_true rfl) (Nat.le_of_ble_eq_true rfl) (Nat.le_of_ble_eq_true rfl) (Nat.le_of_ble_eq_true rfl) (Nat.le_of_ble_eq_true rfl) ?_
  refine tv_if_eq C dk_X6_refusalOfTurn_8 (fun h1 => ?_) (fun h1 => ?_)
  · refine tv_iconst (v := 1) C dk_X6_refusalOfTurn_22 (by decide) ?_
    exact tv_iret C hQ dk_X6_refusalOfTurn_23 rfl (by rw [f_X6_refusalOfTurn, if_pos h1]) rfl
  refine tv_aload_n C dk_X6_refusalOfTurn_11 rfl ?_
  refine tv_getR (r := (b + 2)) C dk_X6_refusalOfTurn_12 fl_RX6_21 (tvSB_sh hb 0 (by decide)).2 (tvSB_sh hb 0 (by decide)).1 (tvSB_rho hb (0, 1, 2) (by decide)) (fun _ _ _ _ => rfl) ?_
  refine tv_iload_n C dk_X6_refusalOfTurn_15 rfl ?_
  refine tv_cV1 C dk_X6_refusalOfTurn_16 ml_RX6_76 yk_X2_has yi_X2_has (m_X2_has _ M hb x2) (tvSB_sh hb 2 (by decide)).2 (tvSB_sh hb 2 (by decide)).1 rfl rfl rfl (Nat.le_of_ble_eq_true rfl) (Nat.le_of_ble_eq_true rfl) (Nat.le_of_ble_eq_true rfl) (Nat.le_of_ble_eq_true rfl) (Nat.le_of_ble_eq_true rfl) ?_
  refine tv_if_ne C dk_X6_refusalOfTurn_19 (fun h2 => ?_) (fun h2 => ?_)
  · refine tv_aload_n C dk_X6_refusalOfTurn_24 rfl ?_
    refine tv_getR (r := (b + 6)) C dk_X6_refusalOfTurn_25 fl_RX6_28 (tvSB_sh hb 0 (by decide)).2 (tvSB_sh hb 0 (by decide)).1 (tvSB_rho hb (0, 2, 6) (by decide)) (fun _ _ _ _ => rfl) ?_
    refine tv_iload_n C dk_X6_refusalOfTurn_28 rfl ?_
    refine tv_iload_n C dk_X6_refusalOfTurn_29 rfl ?_
    refine tv_cV1 C dk_X6_refusalOfTurn_30 ml_RX6_81 yk_X0_belongsTo yi_X0_belongsTo (m_X0_belongsTo _ M hb x1 x2) (tvSB_sh hb 6 (by decide)).2 (tvSB_sh hb 6 (by decide)).1 rfl rfl rfl (Nat.le_of_ble_eq_true rfl) (Nat.le_of_ble_eq_true rfl) (Nat.le_of_ble_eq_true rfl) (Nat.le_of_ble_eq_true rfl) (Nat.le_of_ble_eq_true rfl) ?_
    refine tv_if_ne C dk_X6_refusalOfTurn_33 (fun h3 => ?_) (fun h3 => ?_)
    · refine tv_aload_n C dk_X6_refusalOfTurn_38 rfl ?_
      refine tv_getI C dk_X6_refusalOfTurn_39 fl_RX6_56 (tvSB_sh hb 0 (by decide)).2 (tvSB_sh hb 0 (by decide)).1 (fun _ _ _ _ => rfl) ?_
      refine tv_bipush (v := 50) C dk_X6_refusalOfTurn_42 (by decide) ?_
      refine tv_icmp_ge C dk_X6_refusalOfTurn_44 (fun h4 => ?_) (fun h4 => ?_)
      · refine tv_iconst (v := 3) C dk_X6_refusalOfTurn_67 (by decide) ?_
        exact tv_iret C hQ dk_X6_refusalOfTurn_68 rfl (by rw [f_X6_refusalOfTurn, if_neg h1, if_neg h2, if_neg h3, if_pos h4]) rfl
      refine tv_aload_n C dk_X6_refusalOfTurn_47 rfl ?_
      refine tv_iload_n C dk_X6_refusalOfTurn_48 rfl ?_
      refine tv_cV1 C dk_X6_refusalOfTurn_49 ml_RX6_85 yk_X6_isLocked yi_X6_isLocked (m_X6_isLocked _ M hb x2) (tvSB_sh hb 0 (by decide)).2 (tvSB_sh hb 0 (by decide)).1 rfl rfl rfl (Nat.le_of_ble_eq_true rfl) (Nat.le_of_ble_eq_true rfl) (Nat.le_of_ble_eq_true rfl) (Nat.le_of_ble_eq_true rfl) (Nat.le_of_ble_eq_true rfl) ?_
      refine tv_if_ne C dk_X6_refusalOfTurn_52 (fun h5 => ?_) (fun h5 => ?_)
      · refine tv_iconst (v := 3) C dk_X6_refusalOfTurn_67 (by decide) ?_
        exact tv_iret C hQ dk_X6_refusalOfTurn_68 rfl (by rw [f_X6_refusalOfTurn, if_neg h1, if_neg h2, if_neg h3, if_neg h4, if_neg h5]) rfl
      refine tv_aload_n C dk_X6_refusalOfTurn_55 rfl ?_
      refine tv_getR (r := (b + 6)) C dk_X6_refusalOfTurn_56 fl_RX6_28 (tvSB_sh hb 0 (by decide)).2 (tvSB_sh hb 0 (by decide)).1 (tvSB_rho hb (0, 2, 6) (by decide)) (fun _ _ _ _ => rfl) ?_
      refine tv_iload_n C dk_X6_refusalOfTurn_59 rfl ?_
      refine tv_iload_n C dk_X6_refusalOfTurn_60 rfl ?_
      refine tv_cV1 C dk_X6_refusalOfTurn_61 ml_RX6_88 yk_X0_awaits yi_X0_awaits (m_X0_awaits _ M hb x1 x2) (tvSB_sh hb 6 (by decide)).2 (tvSB_sh hb 6 (by decide)).1 rfl rfl rfl (Nat.le_of_ble_eq_true rfl) (Nat.le_of_ble_eq_true rfl) (Nat.le_of_ble_eq_true rfl) (Nat.le_of_ble_eq_true rfl) (Nat.le_of_ble_eq_true rfl) ?_
      refine tv_if_ne C dk_X6_refusalOfTurn_64 (fun h6 => ?_) (fun h6 => ?_)
      · refine tv_aload_n C dk_X6_refusalOfTurn_69 rfl ?_
        refine tv_getR (r := (b + 2)) C dk_X6_refusalOfTurn_70 fl_RX6_21 (tvSB_sh hb 0 (by decide)).2 (tvSB_sh hb 0 (by decide)).1 (tvSB_rho hb (0, 1, 2) (by decide)) (fun _ _ _ _ => rfl) ?_
        refine tv_iload_n C dk_X6_refusalOfTurn_73 rfl ?_
        refine tv_cV1 C dk_X6_refusalOfTurn_74 ml_RX6_91 yk_X2_codeOf yi_X2_codeOf (m_X2_codeOf _ M hb x2) (tvSB_sh hb 2 (by decide)).2 (tvSB_sh hb 2 (by decide)).1 rfl rfl rfl (Nat.le_of_ble_eq_true rfl) (Nat.le_of_ble_eq_true rfl) (Nat.le_of_ble_eq_true rfl) (Nat.le_of_ble_eq_true rfl) (Nat.le_of_ble_eq_true rfl) ?_
        refine tv_iload_n C dk_X6_refusalOfTurn_77 rfl ?_
        refine tv_icmp_ne C dk_X6_refusalOfTurn_78 (fun h7 => ?_) (fun h7 => ?_)
        · refine tv_iconst (v := 4) C dk_X6_refusalOfTurn_85 (by decide) ?_
          exact tv_iret C hQ dk_X6_refusalOfTurn_86 rfl (by rw [f_X6_refusalOfTurn, if_neg h1, if_neg h2, if_neg h3, if_neg h4, if_pos h5, if_neg h6, if_neg h7]) rfl
        refine tv_iconst (v := 0) C dk_X6_refusalOfTurn_81 (by decide) ?_
        refine tv_goto C dk_X6_refusalOfTurn_82 ?_
        exact tv_iret C hQ dk_X6_refusalOfTurn_86 rfl (by rw [f_X6_refusalOfTurn, if_neg h1, if_neg h2, if_neg h3, if_neg h4, if_pos h5, if_neg h6, if_pos h7]) rfl
      refine tv_iconst (v := 3) C dk_X6_refusalOfTurn_67 (by decide) ?_
      exact tv_iret C hQ dk_X6_refusalOfTurn_68 rfl (by rw [f_X6_refusalOfTurn, if_neg h1, if_neg h2, if_neg h3, if_neg h4, if_pos h5, if_pos h6]) rfl
    refine tv_iconst (v := 2) C dk_X6_refusalOfTurn_36 (by decide) ?_
    exact tv_iret C hQ dk_X6_refusalOfTurn_37 rfl (by rw [f_X6_refusalOfTurn, if_neg h1, if_neg h2, if_pos h3]) rfl
  refine tv_iconst (v := 1) C dk_X6_refusalOfTurn_22 (by decide) ?_
  exact tv_iret C hQ dk_X6_refusalOfTurn_23 rfl (by rw [f_X6_refusalOfTurn, if_neg h1, if_pos h2]) rfl
/-- TideVault$State.refusalOfCode(III)I -/
def f_X6_refusalOfCode (M : tvM) (b : Nat) (x1 : Int32) (x2 : Int32) (x3 : Int32) : Int32 := (if (f_X2_has M b x1) = 0 then 1 else (if (f_X6_isCode M b x3) = 0 then 2 else (if (f_X6_isLocked M b x1) = 0 then (if (f_X2_codeOf M b x1) = x2 then 0 else 4) else 3)))
theorem m_X6_refusalOfCode (G : tvG) (M : tvM) {b : Nat} (hb : tvSB b) (x1 : Int32) (x2 : Int32) (x3 : Int32) : tvRun G yX6_refusalOfCode cX6_refusalOfCode 4 (some .int) 4 0 0 tvP0 tvP0 [.ref (G.2.1 + b), .int x1, .int x2, .int x3] M (.inl (some (.int (f_X6_refusalOfCode M b x1 x2 x3)))) M := by
  refine tvRun.of yk_X6_refusalOfCode rfl [some (.ref (G.2.1 + b)), some (.int x1), some (.int x2), some (.int x3)] rfl (Nat.le_of_ble_eq_true rfl) ?_
  intro E hG C hQ; subst hG
  refine tv_aload_n C dk_X6_refusalOfCode_0 rfl ?_
  refine tv_getR (r := (b + 2)) C dk_X6_refusalOfCode_1 fl_RX6_21 (tvSB_sh hb 0 (by decide)).2 (tvSB_sh hb 0 (by decide)).1 (tvSB_rho hb (0, 1, 2) (by decide)) (fun _ _ _ _ => rfl) ?_
  refine tv_iload_n C dk_X6_refusalOfCode_4 rfl ?_
  refine tv_cV1 C dk_X6_refusalOfCode_5 ml_RX6_76 yk_X2_has yi_X2_has (m_X2_has _ M hb x1) (tvSB_sh hb 2 (by decide)).2 (tvSB_sh hb 2 (by decide)).1 rfl rfl rfl (Nat.le_of_ble_eq_true rfl) (Nat.le_of_ble_eq_true rfl) (Nat.le_of_ble_eq_true rfl) (Nat.le_of_ble_eq_true rfl) (Nat.le_of_ble_eq_true rfl) ?_
  refine tv_if_ne C dk_X6_refusalOfCode_8 (fun h1 => ?_) (fun h1 => ?_)
  · refine tv_aload_n C dk_X6_refusalOfCode_13 rfl ?_
    refine tv_iload_n C dk_X6_refusalOfCode_14 rfl ?_
    refine tv_cV1 C dk_X6_refusalOfCode_15 ml_RX6_69 yk_X6_isCode yi_X6_isCode (m_X6_isCode _ M hb x3) (tvSB_sh hb 0 (by decide)).2 (tvSB_sh hb 0 (by decide)).1 rfl rfl rfl (Nat.le_of_ble_eq_true rfl) (Nat.le_of_ble_eq_true rfl) (Nat.le_of_ble_eq_true rfl) (Nat.le_of_ble_eq_true rfl) (Nat.le_of_ble_eq_true rfl) ?_
    refine tv_if_ne C dk_X6_refusalOfCode_18 (fun h2 => ?_) (fun h2 => ?_)
    · refine tv_aload_n C dk_X6_refusalOfCode_23 rfl ?_
      refine tv_iload_n C dk_X6_refusalOfCode_24 rfl ?_
      refine tv_cV1 C dk_X6_refusalOfCode_25 ml_RX6_85 yk_X6_isLocked yi_X6_isLocked (m_X6_isLocked _ M hb x1) (tvSB_sh hb 0 (by decide)).2 (tvSB_sh hb 0 (by decide)).1 rfl rfl rfl (Nat.le_of_ble_eq_true rfl) (Nat.le_of_ble_eq_true rfl) (Nat.le_of_ble_eq_true rfl) (Nat.le_of_ble_eq_true rfl) (Nat.le_of_ble_eq_true rfl) ?_
      refine tv_if_eq C dk_X6_refusalOfCode_28 (fun h3 => ?_) (fun h3 => ?_)
      · refine tv_aload_n C dk_X6_refusalOfCode_33 rfl ?_
        refine tv_getR (r := (b + 2)) C dk_X6_refusalOfCode_34 fl_RX6_21 (tvSB_sh hb 0 (by decide)).2 (tvSB_sh hb 0 (by decide)).1 (tvSB_rho hb (0, 1, 2) (by decide)) (fun _ _ _ _ => rfl) ?_
        refine tv_iload_n C dk_X6_refusalOfCode_37 rfl ?_
        refine tv_cV1 C dk_X6_refusalOfCode_38 ml_RX6_91 yk_X2_codeOf yi_X2_codeOf (m_X2_codeOf _ M hb x1) (tvSB_sh hb 2 (by decide)).2 (tvSB_sh hb 2 (by decide)).1 rfl rfl rfl (Nat.le_of_ble_eq_true rfl) (Nat.le_of_ble_eq_true rfl) (Nat.le_of_ble_eq_true rfl) (Nat.le_of_ble_eq_true rfl) (Nat.le_of_ble_eq_true rfl) ?_
        refine tv_iload_n C dk_X6_refusalOfCode_41 rfl ?_
        refine tv_icmp_ne C dk_X6_refusalOfCode_42 (fun h4 => ?_) (fun h4 => ?_)
        · refine tv_iconst (v := 4) C dk_X6_refusalOfCode_49 (by decide) ?_
          exact tv_iret C hQ dk_X6_refusalOfCode_50 rfl (by rw [f_X6_refusalOfCode, if_neg h1, if_neg h2, if_pos h3, if_neg h4]) rfl
        refine tv_iconst (v := 0) C dk_X6_refusalOfCode_45 (by decide) ?_
        refine tv_goto C dk_X6_refusalOfCode_46 ?_
        exact tv_iret C hQ dk_X6_refusalOfCode_50 rfl (by rw [f_X6_refusalOfCode, if_neg h1, if_neg h2, if_pos h3, if_pos h4]) rfl
      refine tv_iconst (v := 3) C dk_X6_refusalOfCode_31 (by decide) ?_
      exact tv_iret C hQ dk_X6_refusalOfCode_32 rfl (by rw [f_X6_refusalOfCode, if_neg h1, if_neg h2, if_neg h3]) rfl
    refine tv_iconst (v := 2) C dk_X6_refusalOfCode_21 (by decide) ?_
    exact tv_iret C hQ dk_X6_refusalOfCode_22 rfl (by rw [f_X6_refusalOfCode, if_neg h1, if_pos h2]) rfl
  refine tv_iconst (v := 1) C dk_X6_refusalOfCode_11 (by decide) ?_
  exact tv_iret C hQ dk_X6_refusalOfCode_12 rfl (by rw [f_X6_refusalOfCode, if_pos h1]) rfl
/-- TideVault$State.refusalOfPut(II)I -/
def f_X6_refusalOfPut (M : tvM) (b : Nat) (x1 : Int32) (x2 : Int32) : Int32 := (if (f_X0_has M b x1) = 0 then 1 else (if x2 < 1 then 2 else (if x2 ≤ 99 then (if 5 ≤ (f_X0_pearlsIn M b x1) then (if (f_X0_statusOf M b x1) = 111 then 3 else 3) else (if (f_X0_statusOf M b x1) = 111 then 0 else 3)) else 2)))
theorem m_X6_refusalOfPut (G : tvG) (M : tvM) {b : Nat} (hb : tvSB b) (x1 : Int32) (x2 : Int32) : tvRun G yX6_refusalOfPut cX6_refusalOfPut 4 (some .int) 3 0 0 tvP0 tvP0 [.ref (G.2.1 + b), .int x1, .int x2] M (.inl (some (.int (f_X6_refusalOfPut M b x1 x2)))) M := by
  refine tvRun.of yk_X6_refusalOfPut rfl [some (.ref (G.2.1 + b)), some (.int x1), some (.int x2), none] rfl (Nat.le_of_ble_eq_true rfl) ?_
  intro E hG C hQ; subst hG
  refine tv_aload_n C dk_X6_refusalOfPut_0 rfl ?_
  refine tv_getR (r := (b + 6)) C dk_X6_refusalOfPut_1 fl_RX6_28 (tvSB_sh hb 0 (by decide)).2 (tvSB_sh hb 0 (by decide)).1 (tvSB_rho hb (0, 2, 6) (by decide)) (fun _ _ _ _ => rfl) ?_
  refine tv_iload_n C dk_X6_refusalOfPut_4 rfl ?_
  refine tv_cV1 C dk_X6_refusalOfPut_5 ml_RX6_80 yk_X0_has yi_X0_has (m_X0_has _ M hb x1) (tvSB_sh hb 6 (by decide)).2 (tvSB_sh hb 6 (by decide)).1 rfl rfl rfl (Nat.le_of_ble_eq_true rfl) (Nat.le_of_ble_eq_true rfl) (Nat.le_of_ble_eq_true rfl) (Nat.le_of_ble_eq_true rfl) (Nat.le_of_ble_eq_true rfl) ?_
  refine tv_if_ne C dk_X6_refusalOfPut_8 (fun h1 => ?_) (fun h1 => ?_)
  · refine tv_iload_n C dk_X6_refusalOfPut_13 rfl ?_
    refine tv_iconst (v := 1) C dk_X6_refusalOfPut_14 (by decide) ?_
    refine tv_icmp_lt C dk_X6_refusalOfPut_15 (fun h2 => ?_) (fun h2 => ?_)
    · refine tv_iconst (v := 2) C dk_X6_refusalOfPut_24 (by decide) ?_
      exact tv_iret C hQ dk_X6_refusalOfPut_25 rfl (by rw [f_X6_refusalOfPut, if_neg h1, if_pos h2]) rfl
    refine tv_iload_n C dk_X6_refusalOfPut_18 rfl ?_
    refine tv_bipush (v := 99) C dk_X6_refusalOfPut_19 (by decide) ?_
    refine tv_icmp_le C dk_X6_refusalOfPut_21 (fun h3 => ?_) (fun h3 => ?_)
    · refine tv_aload_n C dk_X6_refusalOfPut_26 rfl ?_
      refine tv_getR (r := (b + 6)) C dk_X6_refusalOfPut_27 fl_RX6_28 (tvSB_sh hb 0 (by decide)).2 (tvSB_sh hb 0 (by decide)).1 (tvSB_rho hb (0, 2, 6) (by decide)) (fun _ _ _ _ => rfl) ?_
      refine tv_iload_n C dk_X6_refusalOfPut_30 rfl ?_
      refine tv_cV1 C dk_X6_refusalOfPut_31 ml_RX6_95 yk_X0_pearlsIn yi_X0_pearlsIn (m_X0_pearlsIn _ M hb x1) (tvSB_sh hb 6 (by decide)).2 (tvSB_sh hb 6 (by decide)).1 rfl rfl rfl (Nat.le_of_ble_eq_true rfl) (Nat.le_of_ble_eq_true rfl) (Nat.le_of_ble_eq_true rfl) (Nat.le_of_ble_eq_true rfl) (Nat.le_of_ble_eq_true rfl) ?_
      refine tv_iconst (v := 5) C dk_X6_refusalOfPut_34 (by decide) ?_
      refine tv_icmp_ge C dk_X6_refusalOfPut_35 (fun h4 => ?_) (fun h4 => ?_)
      · refine tv_iconst (v := 0) C dk_X6_refusalOfPut_42 (by decide) ?_
        refine tv_istore_n (L' := [_, _, _, _]) (hn := by decide) (hlt := (Nat.le_of_ble_eq_true rfl)) (hno := rfl) C dk_X6_refusalOfPut_43 rfl ?_
        refine tv_aload_n C dk_X6_refusalOfPut_44 rfl ?_
        refine tv_getR (r := (b + 6)) C dk_X6_refusalOfPut_45 fl_RX6_28 (tvSB_sh hb 0 (by decide)).2 (tvSB_sh hb 0 (by decide)).1 (tvSB_rho hb (0, 2, 6) (by decide)) (fun _ _ _ _ => rfl) ?_
        refine tv_iload_n C dk_X6_refusalOfPut_48 rfl ?_
        refine tv_cV1 C dk_X6_refusalOfPut_49 ml_RX6_98 yk_X0_statusOf yi_X0_statusOf (m_X0_statusOf _ M hb x1) (tvSB_sh hb 6 (by decide)).2 (tvSB_sh hb 6 (by decide)).1 rfl rfl rfl (Nat.le_of_ble_eq_true rfl) (Nat.le_of_ble_eq_true rfl) (Nat.le_of_ble_eq_true rfl) (Nat.le_of_ble_eq_true rfl) (Nat.le_of_ble_eq_true rfl) ?_
        refine tv_bipush (v := 111) C dk_X6_refusalOfPut_52 (by decide) ?_
        refine tv_icmp_ne C dk_X6_refusalOfPut_54 (fun h5 => ?_) (fun h5 => ?_)
        · refine tv_iconst (v := 3) C dk_X6_refusalOfPut_65 (by decide) ?_
          exact tv_iret C hQ dk_X6_refusalOfPut_66 rfl (by rw [f_X6_refusalOfPut, if_neg h1, if_neg h2, if_pos h3, if_pos h4, if_neg h5]) rfl
        refine tv_iload_n C dk_X6_refusalOfPut_57 rfl ?_
        refine tv_if_eq C dk_X6_refusalOfPut_58 (fun _ => ?_) (fun h => absurd h (by decide))
        refine tv_iconst (v := 3) C dk_X6_refusalOfPut_65 (by decide) ?_
        exact tv_iret C hQ dk_X6_refusalOfPut_66 rfl (by rw [f_X6_refusalOfPut, if_neg h1, if_neg h2, if_pos h3, if_pos h4, if_pos h5]) rfl
      refine tv_iconst (v := 1) C dk_X6_refusalOfPut_38 (by decide) ?_
      refine tv_goto C dk_X6_refusalOfPut_39 ?_
      refine tv_istore_n (L' := [_, _, _, _]) (hn := by decide) (hlt := (Nat.le_of_ble_eq_true rfl)) (hno := rfl) C dk_X6_refusalOfPut_43 rfl ?_
      refine tv_aload_n C dk_X6_refusalOfPut_44 rfl ?_
      refine tv_getR (r := (b + 6)) C dk_X6_refusalOfPut_45 fl_RX6_28 (tvSB_sh hb 0 (by decide)).2 (tvSB_sh hb 0 (by decide)).1 (tvSB_rho hb (0, 2, 6) (by decide)) (fun _ _ _ _ => rfl) ?_
      refine tv_iload_n C dk_X6_refusalOfPut_48 rfl ?_
      refine tv_cV1 C dk_X6_refusalOfPut_49 ml_RX6_98 yk_X0_statusOf yi_X0_statusOf (m_X0_statusOf _ M hb x1) (tvSB_sh hb 6 (by decide)).2 (tvSB_sh hb 6 (by decide)).1 rfl rfl rfl (Nat.le_of_ble_eq_true rfl) (Nat.le_of_ble_eq_true rfl) (Nat.le_of_ble_eq_true rfl) (Nat.le_of_ble_eq_true rfl) (Nat.le_of_ble_eq_true rfl) ?_
      refine tv_bipush (v := 111) C dk_X6_refusalOfPut_52 (by decide) ?_
      refine tv_icmp_ne C dk_X6_refusalOfPut_54 (fun h6 => ?_) (fun h6 => ?_)
      · refine tv_iconst (v := 3) C dk_X6_refusalOfPut_65 (by decide) ?_
        exact tv_iret C hQ dk_X6_refusalOfPut_66 rfl (by rw [f_X6_refusalOfPut, if_neg h1, if_neg h2, if_pos h3, if_neg h4, if_neg h6]) rfl
      refine tv_iload_n C dk_X6_refusalOfPut_57 rfl ?_
      refine tv_if_eq C dk_X6_refusalOfPut_58 (fun h => absurd h (by decide)) (fun _ => ?_)
      refine tv_iconst (v := 0) C dk_X6_refusalOfPut_61 (by decide) ?_
      refine tv_goto C dk_X6_refusalOfPut_62 ?_
      exact tv_iret C hQ dk_X6_refusalOfPut_66 rfl (by rw [f_X6_refusalOfPut, if_neg h1, if_neg h2, if_pos h3, if_neg h4, if_pos h6]) rfl
    refine tv_iconst (v := 2) C dk_X6_refusalOfPut_24 (by decide) ?_
    exact tv_iret C hQ dk_X6_refusalOfPut_25 rfl (by rw [f_X6_refusalOfPut, if_neg h1, if_neg h2, if_neg h3]) rfl
  refine tv_iconst (v := 1) C dk_X6_refusalOfPut_11 (by decide) ?_
  exact tv_iret C hQ dk_X6_refusalOfPut_12 rfl (by rw [f_X6_refusalOfPut, if_pos h1]) rfl
/-- TideVault$State.refusalOfTake(I)I -/
def f_X6_refusalOfTake (M : tvM) (b : Nat) (x1 : Int32) : Int32 := (if (f_X0_has M b x1) = 0 then 1 else (if (f_X0_statusOf M b x1) = 111 then (if (f_X0_pearlsIn M b x1) = 0 then 5 else 0) else 3))
theorem m_X6_refusalOfTake (G : tvG) (M : tvM) {b : Nat} (hb : tvSB b) (x1 : Int32) : tvRun G yX6_refusalOfTake cX6_refusalOfTake 2 (some .int) 3 0 0 tvP0 tvP0 [.ref (G.2.1 + b), .int x1] M (.inl (some (.int (f_X6_refusalOfTake M b x1)))) M := by
  refine tvRun.of yk_X6_refusalOfTake rfl [some (.ref (G.2.1 + b)), some (.int x1)] rfl (Nat.le_of_ble_eq_true rfl) ?_
  intro E hG C hQ; subst hG
  refine tv_aload_n C dk_X6_refusalOfTake_0 rfl ?_
  refine tv_getR (r := (b + 6)) C dk_X6_refusalOfTake_1 fl_RX6_28 (tvSB_sh hb 0 (by decide)).2 (tvSB_sh hb 0 (by decide)).1 (tvSB_rho hb (0, 2, 6) (by decide)) (fun _ _ _ _ => rfl) ?_
  refine tv_iload_n C dk_X6_refusalOfTake_4 rfl ?_
  refine tv_cV1 C dk_X6_refusalOfTake_5 ml_RX6_80 yk_X0_has yi_X0_has (m_X0_has _ M hb x1) (tvSB_sh hb 6 (by decide)).2 (tvSB_sh hb 6 (by decide)).1 rfl rfl rfl (Nat.le_of_ble_eq_true rfl) (Nat.le_of_ble_eq_true rfl) (Nat.le_of_ble_eq_true rfl) (Nat.le_of_ble_eq_true rfl) (Nat.le_of_ble_eq_true rfl) ?_
  refine tv_if_ne C dk_X6_refusalOfTake_8 (fun h1 => ?_) (fun h1 => ?_)
  · refine tv_aload_n C dk_X6_refusalOfTake_13 rfl ?_
    refine tv_getR (r := (b + 6)) C dk_X6_refusalOfTake_14 fl_RX6_28 (tvSB_sh hb 0 (by decide)).2 (tvSB_sh hb 0 (by decide)).1 (tvSB_rho hb (0, 2, 6) (by decide)) (fun _ _ _ _ => rfl) ?_
    refine tv_iload_n C dk_X6_refusalOfTake_17 rfl ?_
    refine tv_cV1 C dk_X6_refusalOfTake_18 ml_RX6_98 yk_X0_statusOf yi_X0_statusOf (m_X0_statusOf _ M hb x1) (tvSB_sh hb 6 (by decide)).2 (tvSB_sh hb 6 (by decide)).1 rfl rfl rfl (Nat.le_of_ble_eq_true rfl) (Nat.le_of_ble_eq_true rfl) (Nat.le_of_ble_eq_true rfl) (Nat.le_of_ble_eq_true rfl) (Nat.le_of_ble_eq_true rfl) ?_
    refine tv_bipush (v := 111) C dk_X6_refusalOfTake_21 (by decide) ?_
    refine tv_icmp_eq C dk_X6_refusalOfTake_23 (fun h2 => ?_) (fun h2 => ?_)
    · refine tv_aload_n C dk_X6_refusalOfTake_28 rfl ?_
      refine tv_getR (r := (b + 6)) C dk_X6_refusalOfTake_29 fl_RX6_28 (tvSB_sh hb 0 (by decide)).2 (tvSB_sh hb 0 (by decide)).1 (tvSB_rho hb (0, 2, 6) (by decide)) (fun _ _ _ _ => rfl) ?_
      refine tv_iload_n C dk_X6_refusalOfTake_32 rfl ?_
      refine tv_cV1 C dk_X6_refusalOfTake_33 ml_RX6_95 yk_X0_pearlsIn yi_X0_pearlsIn (m_X0_pearlsIn _ M hb x1) (tvSB_sh hb 6 (by decide)).2 (tvSB_sh hb 6 (by decide)).1 rfl rfl rfl (Nat.le_of_ble_eq_true rfl) (Nat.le_of_ble_eq_true rfl) (Nat.le_of_ble_eq_true rfl) (Nat.le_of_ble_eq_true rfl) (Nat.le_of_ble_eq_true rfl) ?_
      refine tv_if_ne C dk_X6_refusalOfTake_36 (fun h3 => ?_) (fun h3 => ?_)
      · refine tv_iconst (v := 0) C dk_X6_refusalOfTake_43 (by decide) ?_
        exact tv_iret C hQ dk_X6_refusalOfTake_44 rfl (by rw [f_X6_refusalOfTake, if_neg h1, if_pos h2, if_neg h3]) rfl
      refine tv_iconst (v := 5) C dk_X6_refusalOfTake_39 (by decide) ?_
      refine tv_goto C dk_X6_refusalOfTake_40 ?_
      exact tv_iret C hQ dk_X6_refusalOfTake_44 rfl (by rw [f_X6_refusalOfTake, if_neg h1, if_pos h2, if_pos h3]) rfl
    refine tv_iconst (v := 3) C dk_X6_refusalOfTake_26 (by decide) ?_
    exact tv_iret C hQ dk_X6_refusalOfTake_27 rfl (by rw [f_X6_refusalOfTake, if_neg h1, if_neg h2]) rfl
  refine tv_iconst (v := 1) C dk_X6_refusalOfTake_11 (by decide) ?_
  exact tv_iret C hQ dk_X6_refusalOfTake_12 rfl (by rw [f_X6_refusalOfTake, if_pos h1]) rfl
/-- TideVault$State.refusalOfClose(I)I -/
def f_X6_refusalOfClose (M : tvM) (b : Nat) (x1 : Int32) : Int32 := (if (f_X0_has M b x1) = 0 then 1 else (if (f_X0_statusOf M b x1) = 99 then 3 else 0))
theorem m_X6_refusalOfClose (G : tvG) (M : tvM) {b : Nat} (hb : tvSB b) (x1 : Int32) : tvRun G yX6_refusalOfClose cX6_refusalOfClose 2 (some .int) 3 0 0 tvP0 tvP0 [.ref (G.2.1 + b), .int x1] M (.inl (some (.int (f_X6_refusalOfClose M b x1)))) M := by
  refine tvRun.of yk_X6_refusalOfClose rfl [some (.ref (G.2.1 + b)), some (.int x1)] rfl (Nat.le_of_ble_eq_true rfl) ?_
  intro E hG C hQ; subst hG
  refine tv_aload_n C dk_X6_refusalOfClose_0 rfl ?_
  refine tv_getR (r := (b + 6)) C dk_X6_refusalOfClose_1 fl_RX6_28 (tvSB_sh hb 0 (by decide)).2 (tvSB_sh hb 0 (by decide)).1 (tvSB_rho hb (0, 2, 6) (by decide)) (fun _ _ _ _ => rfl) ?_
  refine tv_iload_n C dk_X6_refusalOfClose_4 rfl ?_
  refine tv_cV1 C dk_X6_refusalOfClose_5 ml_RX6_80 yk_X0_has yi_X0_has (m_X0_has _ M hb x1) (tvSB_sh hb 6 (by decide)).2 (tvSB_sh hb 6 (by decide)).1 rfl rfl rfl (Nat.le_of_ble_eq_true rfl) (Nat.le_of_ble_eq_true rfl) (Nat.le_of_ble_eq_true rfl) (Nat.le_of_ble_eq_true rfl) (Nat.le_of_ble_eq_true rfl) ?_
  refine tv_if_ne C dk_X6_refusalOfClose_8 (fun h1 => ?_) (fun h1 => ?_)
  · refine tv_aload_n C dk_X6_refusalOfClose_13 rfl ?_
    refine tv_getR (r := (b + 6)) C dk_X6_refusalOfClose_14 fl_RX6_28 (tvSB_sh hb 0 (by decide)).2 (tvSB_sh hb 0 (by decide)).1 (tvSB_rho hb (0, 2, 6) (by decide)) (fun _ _ _ _ => rfl) ?_
    refine tv_iload_n C dk_X6_refusalOfClose_17 rfl ?_
    refine tv_cV1 C dk_X6_refusalOfClose_18 ml_RX6_98 yk_X0_statusOf yi_X0_statusOf (m_X0_statusOf _ M hb x1) (tvSB_sh hb 6 (by decide)).2 (tvSB_sh hb 6 (by decide)).1 rfl rfl rfl (Nat.le_of_ble_eq_true rfl) (Nat.le_of_ble_eq_true rfl) (Nat.le_of_ble_eq_true rfl) (Nat.le_of_ble_eq_true rfl) (Nat.le_of_ble_eq_true rfl) ?_
    refine tv_bipush (v := 99) C dk_X6_refusalOfClose_21 (by decide) ?_
    refine tv_icmp_ne C dk_X6_refusalOfClose_23 (fun h2 => ?_) (fun h2 => ?_)
    · refine tv_iconst (v := 0) C dk_X6_refusalOfClose_30 (by decide) ?_
      exact tv_iret C hQ dk_X6_refusalOfClose_31 rfl (by rw [f_X6_refusalOfClose, if_neg h1, if_neg h2]) rfl
    refine tv_iconst (v := 3) C dk_X6_refusalOfClose_26 (by decide) ?_
    refine tv_goto C dk_X6_refusalOfClose_27 ?_
    exact tv_iret C hQ dk_X6_refusalOfClose_31 rfl (by rw [f_X6_refusalOfClose, if_neg h1, if_pos h2]) rfl
  refine tv_iconst (v := 1) C dk_X6_refusalOfClose_11 (by decide) ?_
  exact tv_iret C hQ dk_X6_refusalOfClose_12 rfl (by rw [f_X6_refusalOfClose, if_pos h1]) rfl
/-- TideVault$State.refusalOfWait(I)I -/
def f_X6_refusalOfWait (M : tvM) (b : Nat) (x1 : Int32) : Int32 := (if x1 < 1 then 2 else (if x1 ≤ 240 then 0 else 2))
theorem m_X6_refusalOfWait (G : tvG) (M : tvM) {b : Nat} (hb : tvSB b) (x1 : Int32) : tvRun G yX6_refusalOfWait cX6_refusalOfWait 2 (some .int) 1 0 0 tvP0 tvP0 [.ref (G.2.1 + b), .int x1] M (.inl (some (.int (f_X6_refusalOfWait M b x1)))) M := by
  refine tvRun.of yk_X6_refusalOfWait rfl [some (.ref (G.2.1 + b)), some (.int x1)] rfl (Nat.le_of_ble_eq_true rfl) ?_
  intro E hG C hQ; subst hG
  refine tv_iload_n C dk_X6_refusalOfWait_0 rfl ?_
  refine tv_iconst (v := 1) C dk_X6_refusalOfWait_1 (by decide) ?_
  refine tv_icmp_lt C dk_X6_refusalOfWait_2 (fun h1 => ?_) (fun h1 => ?_)
  · refine tv_iconst (v := 2) C dk_X6_refusalOfWait_12 (by decide) ?_
    refine tv_goto C dk_X6_refusalOfWait_13 ?_
    exact tv_iret C hQ dk_X6_refusalOfWait_17 rfl (by rw [f_X6_refusalOfWait, if_pos h1]) rfl
  refine tv_iload_n C dk_X6_refusalOfWait_5 rfl ?_
  refine tv_sipush (v := 240) C dk_X6_refusalOfWait_6 (by decide) ?_
  refine tv_icmp_le C dk_X6_refusalOfWait_9 (fun h2 => ?_) (fun h2 => ?_)
  · refine tv_iconst (v := 0) C dk_X6_refusalOfWait_16 (by decide) ?_
    exact tv_iret C hQ dk_X6_refusalOfWait_17 rfl (by rw [f_X6_refusalOfWait, if_neg h1, if_pos h2]) rfl
  refine tv_iconst (v := 2) C dk_X6_refusalOfWait_12 (by decide) ?_
  refine tv_goto C dk_X6_refusalOfWait_13 ?_
  exact tv_iret C hQ dk_X6_refusalOfWait_17 rfl (by rw [f_X6_refusalOfWait, if_neg h1, if_neg h2]) rfl
/-- TideVault$State.hearWrongCode(I)V -/
def f_X6_hearWrongCode (M : tvM) (b : Nat) (x1 : Int32) : tvM := (if 3 ≤ ((f_X2_attemptsOf (f_X4_add (f_X6_raiseAlarm (tpi (tpi M b 6 ((tgi M b 6) + 1)) b 7 ((tgi (tpi M b 6 ((tgi M b 6) + 1)) b 7) + 1)) b 10) b 102 (tgi (f_X6_raiseAlarm (tpi (tpi M b 6 ((tgi M b 6) + 1)) b 7 ((tgi (tpi M b 6 ((tgi M b 6) + 1)) b 7) + 1)) b 10) b 4) x1) b x1) + 1) then (f_X4_add (f_X6_raiseAlarm (f_X2_lock (f_X2_setAttempts (f_X4_add (f_X6_raiseAlarm (tpi (tpi M b 6 ((tgi M b 6) + 1)) b 7 ((tgi (tpi M b 6 ((tgi M b 6) + 1)) b 7) + 1)) b 10) b 102 (tgi (f_X6_raiseAlarm (tpi (tpi M b 6 ((tgi M b 6) + 1)) b 7 ((tgi (tpi M b 6 ((tgi M b 6) + 1)) b 7) + 1)) b 10) b 4) x1) b x1 0) b x1 ((tgi (f_X2_setAttempts (f_X4_add (f_X6_raiseAlarm (tpi (tpi M b 6 ((tgi M b 6) + 1)) b 7 ((tgi (tpi M b 6 ((tgi M b 6) + 1)) b 7) + 1)) b 10) b 102 (tgi (f_X6_raiseAlarm (tpi (tpi M b 6 ((tgi M b 6) + 1)) b 7 ((tgi (tpi M b 6 ((tgi M b 6) + 1)) b 7) + 1)) b 10) b 4) x1) b x1 0) b 4) + 30)) b 25) b 108 (tgi (f_X6_raiseAlarm (f_X2_lock (f_X2_setAttempts (f_X4_add (f_X6_raiseAlarm (tpi (tpi M b 6 ((tgi M b 6) + 1)) b 7 ((tgi (tpi M b 6 ((tgi M b 6) + 1)) b 7) + 1)) b 10) b 102 (tgi (f_X6_raiseAlarm (tpi (tpi M b 6 ((tgi M b 6) + 1)) b 7 ((tgi (tpi M b 6 ((tgi M b 6) + 1)) b 7) + 1)) b 10) b 4) x1) b x1 0) b x1 ((tgi (f_X2_setAttempts (f_X4_add (f_X6_raiseAlarm (tpi (tpi M b 6 ((tgi M b 6) + 1)) b 7 ((tgi (tpi M b 6 ((tgi M b 6) + 1)) b 7) + 1)) b 10) b 102 (tgi (f_X6_raiseAlarm (tpi (tpi M b 6 ((tgi M b 6) + 1)) b 7 ((tgi (tpi M b 6 ((tgi M b 6) + 1)) b 7) + 1)) b 10) b 4) x1) b x1 0) b 4) + 30)) b 25) b 4) x1) else (f_X2_setAttempts (f_X4_add (f_X6_raiseAlarm (tpi (tpi M b 6 ((tgi M b 6) + 1)) b 7 ((tgi (tpi M b 6 ((tgi M b 6) + 1)) b 7) + 1)) b 10) b 102 (tgi (f_X6_raiseAlarm (tpi (tpi M b 6 ((tgi M b 6) + 1)) b 7 ((tgi (tpi M b 6 ((tgi M b 6) + 1)) b 7) + 1)) b 10) b 4) x1) b x1 ((f_X2_attemptsOf (f_X4_add (f_X6_raiseAlarm (tpi (tpi M b 6 ((tgi M b 6) + 1)) b 7 ((tgi (tpi M b 6 ((tgi M b 6) + 1)) b 7) + 1)) b 10) b 102 (tgi (f_X6_raiseAlarm (tpi (tpi M b 6 ((tgi M b 6) + 1)) b 7 ((tgi (tpi M b 6 ((tgi M b 6) + 1)) b 7) + 1)) b 10) b 4) x1) b x1) + 1)))
theorem m_X6_hearWrongCode (G : tvG) (M : tvM) {b : Nat} (hb : tvSB b) (x1 : Int32) : tvRun G yX6_hearWrongCode cX6_hearWrongCode 3 none 3 0 0 tvP0 tvP0 [.ref (G.2.1 + b), .int x1] M (.inl none) (f_X6_hearWrongCode M b x1) := by
  refine tvRun.of yk_X6_hearWrongCode rfl [some (.ref (G.2.1 + b)), some (.int x1), none] rfl (Nat.le_of_ble_eq_true rfl) ?_
  intro E hG C hQ; subst hG
  refine tv_aload_n C dk_X6_hearWrongCode_0 rfl ?_
  refine tv_dup C dk_X6_hearWrongCode_1 rfl ?_
  refine tv_getI C dk_X6_hearWrongCode_2 fl_RX6_59 (tvSB_sh hb 0 (by decide)).2 (tvSB_sh hb 0 (by decide)).1 (fun _ _ _ _ => rfl) ?_
  refine tv_iconst (v := 1) C dk_X6_hearWrongCode_5 (by decide) ?_
  refine tv_iadd C dk_X6_hearWrongCode_6 ?_
  refine tv_putI C tvP0_ex dk_X6_hearWrongCode_7 fl_RX6_59 fw_6_6 (tvSB_sh hb 0 (by decide)).2 (tvSB_sh hb 0 (by decide)).1 rfl (fun _ _ _ _ _ => rfl) rfl rfl ?_
  refine tv_aload_n C dk_X6_hearWrongCode_10 rfl ?_
  refine tv_dup C dk_X6_hearWrongCode_11 rfl ?_
  refine tv_getI C dk_X6_hearWrongCode_12 fl_RX6_62 (tvSB_sh hb 0 (by decide)).2 (tvSB_sh hb 0 (by decide)).1 (fun _ _ _ _ => rfl) ?_
  refine tv_iconst (v := 1) C dk_X6_hearWrongCode_15 (by decide) ?_
  refine tv_iadd C dk_X6_hearWrongCode_16 ?_
  refine tv_putI C tvP0_ex dk_X6_hearWrongCode_17 fl_RX6_62 fw_6_7 (tvSB_sh hb 0 (by decide)).2 (tvSB_sh hb 0 (by decide)).1 rfl (fun _ _ _ _ _ => rfl) rfl rfl ?_
  refine tv_aload_n C dk_X6_hearWrongCode_20 rfl ?_
  refine tv_bipush (v := 10) C dk_X6_hearWrongCode_21 (by decide) ?_
  refine tv_cV0 C dk_X6_hearWrongCode_23 ml_RX6_183 yk_X6_raiseAlarm yi_X6_raiseAlarm (m_X6_raiseAlarm _ (tpi (tpi M b 6 ((tgi M b 6) + 1)) b 7 ((tgi (tpi M b 6 ((tgi M b 6) + 1)) b 7) + 1)) hb 10) (tvSB_sh hb 0 (by decide)).2 (tvSB_sh hb 0 (by decide)).1 rfl rfl rfl (Nat.le_of_ble_eq_true rfl) (Nat.le_of_ble_eq_true rfl) (Nat.le_of_ble_eq_true rfl) (Nat.le_of_ble_eq_true rfl) (Nat.le_of_ble_eq_true rfl) ?_
  refine tv_aload_n C dk_X6_hearWrongCode_26 rfl ?_
  refine tv_getR (r := (b + 16)) C dk_X6_hearWrongCode_27 fl_RX6_35 (tvSB_sh hb 0 (by decide)).2 (tvSB_sh hb 0 (by decide)).1 (tvSB_rho hb (0, 3, 16) (by decide)) (fun _ _ _ _ => rfl) ?_
  refine tv_bipush (v := 102) C dk_X6_hearWrongCode_30 (by decide) ?_
  refine tv_aload_n C dk_X6_hearWrongCode_32 rfl ?_
  refine tv_getI C dk_X6_hearWrongCode_33 fl_RX6_52 (tvSB_sh hb 0 (by decide)).2 (tvSB_sh hb 0 (by decide)).1 (fun _ _ _ _ => rfl) ?_
  refine tv_iload_n C dk_X6_hearWrongCode_36 rfl ?_
  refine tv_cV0 C dk_X6_hearWrongCode_37 ml_RX6_186 yk_X4_add yi_X4_add (m_X4_add _ (f_X6_raiseAlarm (tpi (tpi M b 6 ((tgi M b 6) + 1)) b 7 ((tgi (tpi M b 6 ((tgi M b 6) + 1)) b 7) + 1)) b 10) hb 102 (tgi (f_X6_raiseAlarm (tpi (tpi M b 6 ((tgi M b 6) + 1)) b 7 ((tgi (tpi M b 6 ((tgi M b 6) + 1)) b 7) + 1)) b 10) b 4) x1) (tvSB_sh hb 16 (by decide)).2 (tvSB_sh hb 16 (by decide)).1 rfl rfl rfl (Nat.le_of_ble_eq_true rfl) (Nat.le_of_ble_eq_true rfl) (Nat.le_of_ble_eq_true rfl) (Nat.le_of_ble_eq_true rfl) (Nat.le_of_ble_eq_true rfl) ?_
  refine tv_aload_n C dk_X6_hearWrongCode_40 rfl ?_
  refine tv_getR (r := (b + 2)) C dk_X6_hearWrongCode_41 fl_RX6_21 (tvSB_sh hb 0 (by decide)).2 (tvSB_sh hb 0 (by decide)).1 (tvSB_rho hb (0, 1, 2) (by decide)) (fun _ _ _ _ => rfl) ?_
  refine tv_iload_n C dk_X6_hearWrongCode_44 rfl ?_
  refine tv_cV1 C dk_X6_hearWrongCode_45 ml_RX6_176 yk_X2_attemptsOf yi_X2_attemptsOf (m_X2_attemptsOf _ (f_X4_add (f_X6_raiseAlarm (tpi (tpi M b 6 ((tgi M b 6) + 1)) b 7 ((tgi (tpi M b 6 ((tgi M b 6) + 1)) b 7) + 1)) b 10) b 102 (tgi (f_X6_raiseAlarm (tpi (tpi M b 6 ((tgi M b 6) + 1)) b 7 ((tgi (tpi M b 6 ((tgi M b 6) + 1)) b 7) + 1)) b 10) b 4) x1) hb x1) (tvSB_sh hb 2 (by decide)).2 (tvSB_sh hb 2 (by decide)).1 rfl rfl rfl (Nat.le_of_ble_eq_true rfl) (Nat.le_of_ble_eq_true rfl) (Nat.le_of_ble_eq_true rfl) (Nat.le_of_ble_eq_true rfl) (Nat.le_of_ble_eq_true rfl) ?_
  refine tv_iconst (v := 1) C dk_X6_hearWrongCode_48 (by decide) ?_
  refine tv_iadd C dk_X6_hearWrongCode_49 ?_
  refine tv_istore_n (L' := [_, _, _]) (hn := by decide) (hlt := (Nat.le_of_ble_eq_true rfl)) (hno := rfl) C dk_X6_hearWrongCode_50 rfl ?_
  refine tv_iload_n C dk_X6_hearWrongCode_51 rfl ?_
  refine tv_iconst (v := 3) C dk_X6_hearWrongCode_52 (by decide) ?_
  refine tv_icmp_ge C dk_X6_hearWrongCode_53 (fun h1 => ?_) (fun h1 => ?_)
  · refine tv_aload_n C dk_X6_hearWrongCode_68 rfl ?_
    refine tv_getR (r := (b + 2)) C dk_X6_hearWrongCode_69 fl_RX6_21 (tvSB_sh hb 0 (by decide)).2 (tvSB_sh hb 0 (by decide)).1 (tvSB_rho hb (0, 1, 2) (by decide)) (fun _ _ _ _ => rfl) ?_
    refine tv_iload_n C dk_X6_hearWrongCode_72 rfl ?_
    refine tv_iconst (v := 0) C dk_X6_hearWrongCode_73 (by decide) ?_
    refine tv_cV0 C dk_X6_hearWrongCode_74 ml_RX6_189 yk_X2_setAttempts yi_X2_setAttempts (m_X2_setAttempts _ (f_X4_add (f_X6_raiseAlarm (tpi (tpi M b 6 ((tgi M b 6) + 1)) b 7 ((tgi (tpi M b 6 ((tgi M b 6) + 1)) b 7) + 1)) b 10) b 102 (tgi (f_X6_raiseAlarm (tpi (tpi M b 6 ((tgi M b 6) + 1)) b 7 ((tgi (tpi M b 6 ((tgi M b 6) + 1)) b 7) + 1)) b 10) b 4) x1) hb x1 0) (tvSB_sh hb 2 (by decide)).2 (tvSB_sh hb 2 (by decide)).1 rfl rfl rfl (Nat.le_of_ble_eq_true rfl) (Nat.le_of_ble_eq_true rfl) (Nat.le_of_ble_eq_true rfl) (Nat.le_of_ble_eq_true rfl) (Nat.le_of_ble_eq_true rfl) ?_
    refine tv_aload_n C dk_X6_hearWrongCode_77 rfl ?_
    refine tv_getR (r := (b + 2)) C dk_X6_hearWrongCode_78 fl_RX6_21 (tvSB_sh hb 0 (by decide)).2 (tvSB_sh hb 0 (by decide)).1 (tvSB_rho hb (0, 1, 2) (by decide)) (fun _ _ _ _ => rfl) ?_
    refine tv_iload_n C dk_X6_hearWrongCode_81 rfl ?_
    refine tv_aload_n C dk_X6_hearWrongCode_82 rfl ?_
    refine tv_getI C dk_X6_hearWrongCode_83 fl_RX6_52 (tvSB_sh hb 0 (by decide)).2 (tvSB_sh hb 0 (by decide)).1 (fun _ _ _ _ => rfl) ?_
    refine tv_bipush (v := 30) C dk_X6_hearWrongCode_86 (by decide) ?_
    refine tv_iadd C dk_X6_hearWrongCode_88 ?_
    refine tv_cV0 C dk_X6_hearWrongCode_89 ml_RX6_192 yk_X2_lock yi_X2_lock (m_X2_lock _ (f_X2_setAttempts (f_X4_add (f_X6_raiseAlarm (tpi (tpi M b 6 ((tgi M b 6) + 1)) b 7 ((tgi (tpi M b 6 ((tgi M b 6) + 1)) b 7) + 1)) b 10) b 102 (tgi (f_X6_raiseAlarm (tpi (tpi M b 6 ((tgi M b 6) + 1)) b 7 ((tgi (tpi M b 6 ((tgi M b 6) + 1)) b 7) + 1)) b 10) b 4) x1) b x1 0) hb x1 ((tgi (f_X2_setAttempts (f_X4_add (f_X6_raiseAlarm (tpi (tpi M b 6 ((tgi M b 6) + 1)) b 7 ((tgi (tpi M b 6 ((tgi M b 6) + 1)) b 7) + 1)) b 10) b 102 (tgi (f_X6_raiseAlarm (tpi (tpi M b 6 ((tgi M b 6) + 1)) b 7 ((tgi (tpi M b 6 ((tgi M b 6) + 1)) b 7) + 1)) b 10) b 4) x1) b x1 0) b 4) + 30)) (tvSB_sh hb 2 (by decide)).2 (tvSB_sh hb 2 (by decide)).1 rfl rfl rfl (Nat.le_of_ble_eq_true rfl) (Nat.le_of_ble_eq_true rfl) (Nat.le_of_ble_eq_true rfl) (Nat.le_of_ble_eq_true rfl) (Nat.le_of_ble_eq_true rfl) ?_
    refine tv_aload_n C dk_X6_hearWrongCode_92 rfl ?_
    refine tv_bipush (v := 25) C dk_X6_hearWrongCode_93 (by decide) ?_
    refine tv_cV0 C dk_X6_hearWrongCode_95 ml_RX6_183 yk_X6_raiseAlarm yi_X6_raiseAlarm (m_X6_raiseAlarm _ (f_X2_lock (f_X2_setAttempts (f_X4_add (f_X6_raiseAlarm (tpi (tpi M b 6 ((tgi M b 6) + 1)) b 7 ((tgi (tpi M b 6 ((tgi M b 6) + 1)) b 7) + 1)) b 10) b 102 (tgi (f_X6_raiseAlarm (tpi (tpi M b 6 ((tgi M b 6) + 1)) b 7 ((tgi (tpi M b 6 ((tgi M b 6) + 1)) b 7) + 1)) b 10) b 4) x1) b x1 0) b x1 ((tgi (f_X2_setAttempts (f_X4_add (f_X6_raiseAlarm (tpi (tpi M b 6 ((tgi M b 6) + 1)) b 7 ((tgi (tpi M b 6 ((tgi M b 6) + 1)) b 7) + 1)) b 10) b 102 (tgi (f_X6_raiseAlarm (tpi (tpi M b 6 ((tgi M b 6) + 1)) b 7 ((tgi (tpi M b 6 ((tgi M b 6) + 1)) b 7) + 1)) b 10) b 4) x1) b x1 0) b 4) + 30)) hb 25) (tvSB_sh hb 0 (by decide)).2 (tvSB_sh hb 0 (by decide)).1 rfl rfl rfl (Nat.le_of_ble_eq_true rfl) (Nat.le_of_ble_eq_true rfl) (Nat.le_of_ble_eq_true rfl) (Nat.le_of_ble_eq_true rfl) (Nat.le_of_ble_eq_true rfl) ?_
    refine tv_aload_n C dk_X6_hearWrongCode_98 rfl ?_
    refine tv_getR (r := (b + 16)) C dk_X6_hearWrongCode_99 fl_RX6_35 (tvSB_sh hb 0 (by decide)).2 (tvSB_sh hb 0 (by decide)).1 (tvSB_rho hb (0, 3, 16) (by decide)) (fun _ _ _ _ => rfl) ?_
    refine tv_bipush (v := 108) C dk_X6_hearWrongCode_102 (by decide) ?_
    refine tv_aload_n C dk_X6_hearWrongCode_104 rfl ?_
    refine tv_getI C dk_X6_hearWrongCode_105 fl_RX6_52 (tvSB_sh hb 0 (by decide)).2 (tvSB_sh hb 0 (by decide)).1 (fun _ _ _ _ => rfl) ?_
    refine tv_iload_n C dk_X6_hearWrongCode_108 rfl ?_
    refine tv_cV0 C dk_X6_hearWrongCode_109 ml_RX6_186 yk_X4_add yi_X4_add (m_X4_add _ (f_X6_raiseAlarm (f_X2_lock (f_X2_setAttempts (f_X4_add (f_X6_raiseAlarm (tpi (tpi M b 6 ((tgi M b 6) + 1)) b 7 ((tgi (tpi M b 6 ((tgi M b 6) + 1)) b 7) + 1)) b 10) b 102 (tgi (f_X6_raiseAlarm (tpi (tpi M b 6 ((tgi M b 6) + 1)) b 7 ((tgi (tpi M b 6 ((tgi M b 6) + 1)) b 7) + 1)) b 10) b 4) x1) b x1 0) b x1 ((tgi (f_X2_setAttempts (f_X4_add (f_X6_raiseAlarm (tpi (tpi M b 6 ((tgi M b 6) + 1)) b 7 ((tgi (tpi M b 6 ((tgi M b 6) + 1)) b 7) + 1)) b 10) b 102 (tgi (f_X6_raiseAlarm (tpi (tpi M b 6 ((tgi M b 6) + 1)) b 7 ((tgi (tpi M b 6 ((tgi M b 6) + 1)) b 7) + 1)) b 10) b 4) x1) b x1 0) b 4) + 30)) b 25) hb 108 (tgi (f_X6_raiseAlarm (f_X2_lock (f_X2_setAttempts (f_X4_add (f_X6_raiseAlarm (tpi (tpi M b 6 ((tgi M b 6) + 1)) b 7 ((tgi (tpi M b 6 ((tgi M b 6) + 1)) b 7) + 1)) b 10) b 102 (tgi (f_X6_raiseAlarm (tpi (tpi M b 6 ((tgi M b 6) + 1)) b 7 ((tgi (tpi M b 6 ((tgi M b 6) + 1)) b 7) + 1)) b 10) b 4) x1) b x1 0) b x1 ((tgi (f_X2_setAttempts (f_X4_add (f_X6_raiseAlarm (tpi (tpi M b 6 ((tgi M b 6) + 1)) b 7 ((tgi (tpi M b 6 ((tgi M b 6) + 1)) b 7) + 1)) b 10) b 102 (tgi (f_X6_raiseAlarm (tpi (tpi M b 6 ((tgi M b 6) + 1)) b 7 ((tgi (tpi M b 6 ((tgi M b 6) + 1)) b 7) + 1)) b 10) b 4) x1) b x1 0) b 4) + 30)) b 25) b 4) x1) (tvSB_sh hb 16 (by decide)).2 (tvSB_sh hb 16 (by decide)).1 rfl rfl rfl (Nat.le_of_ble_eq_true rfl) (Nat.le_of_ble_eq_true rfl) (Nat.le_of_ble_eq_true rfl) (Nat.le_of_ble_eq_true rfl) (Nat.le_of_ble_eq_true rfl) ?_
    exact tv_vret C hQ dk_X6_hearWrongCode_112 rfl (by rw [f_X6_hearWrongCode, if_pos h1])
  refine tv_aload_n C dk_X6_hearWrongCode_56 rfl ?_
  refine tv_getR (r := (b + 2)) C dk_X6_hearWrongCode_57 fl_RX6_21 (tvSB_sh hb 0 (by decide)).2 (tvSB_sh hb 0 (by decide)).1 (tvSB_rho hb (0, 1, 2) (by decide)) (fun _ _ _ _ => rfl) ?_
  refine tv_iload_n C dk_X6_hearWrongCode_60 rfl ?_
  refine tv_iload_n C dk_X6_hearWrongCode_61 rfl ?_
  refine tv_cV0 C dk_X6_hearWrongCode_62 ml_RX6_189 yk_X2_setAttempts yi_X2_setAttempts (m_X2_setAttempts _ (f_X4_add (f_X6_raiseAlarm (tpi (tpi M b 6 ((tgi M b 6) + 1)) b 7 ((tgi (tpi M b 6 ((tgi M b 6) + 1)) b 7) + 1)) b 10) b 102 (tgi (f_X6_raiseAlarm (tpi (tpi M b 6 ((tgi M b 6) + 1)) b 7 ((tgi (tpi M b 6 ((tgi M b 6) + 1)) b 7) + 1)) b 10) b 4) x1) hb x1 ((f_X2_attemptsOf (f_X4_add (f_X6_raiseAlarm (tpi (tpi M b 6 ((tgi M b 6) + 1)) b 7 ((tgi (tpi M b 6 ((tgi M b 6) + 1)) b 7) + 1)) b 10) b 102 (tgi (f_X6_raiseAlarm (tpi (tpi M b 6 ((tgi M b 6) + 1)) b 7 ((tgi (tpi M b 6 ((tgi M b 6) + 1)) b 7) + 1)) b 10) b 4) x1) b x1) + 1)) (tvSB_sh hb 2 (by decide)).2 (tvSB_sh hb 2 (by decide)).1 rfl rfl rfl (Nat.le_of_ble_eq_true rfl) (Nat.le_of_ble_eq_true rfl) (Nat.le_of_ble_eq_true rfl) (Nat.le_of_ble_eq_true rfl) (Nat.le_of_ble_eq_true rfl) ?_
  refine tv_goto C dk_X6_hearWrongCode_65 ?_
  exact tv_vret C hQ dk_X6_hearWrongCode_112 rfl (by rw [f_X6_hearWrongCode, if_neg h1])
/-- TideVault$State.openIfDue(I)I -/
def f_X6_openIfDue (M : tvM) (b : Nat) (x1 : Int32) : Int32 × tvM := (if (f_X0_statusOf M b x1) = 112 then (if (f_X0_remainingOf M b x1) = 0 then (1, (f_X4_add (f_X0_become M b 111 x1 (tgi M b 4)) b 111 (tgi (f_X0_become M b 111 x1 (tgi M b 4)) b 4) x1)) else (0, M)) else (0, M))
theorem m_X6_openIfDue (G : tvG) (M : tvM) {b : Nat} (hb : tvSB b) (x1 : Int32) : tvRun G yX6_openIfDue cX6_openIfDue 2 (some .int) 3 0 0 tvP0 tvP0 [.ref (G.2.1 + b), .int x1] M (.inl (some (.int (f_X6_openIfDue M b x1).1))) ((f_X6_openIfDue M b x1).2) := by
  refine tvRun.of yk_X6_openIfDue rfl [some (.ref (G.2.1 + b)), some (.int x1)] rfl (Nat.le_of_ble_eq_true rfl) ?_
  intro E hG C hQ; subst hG
  refine tv_aload_n C dk_X6_openIfDue_0 rfl ?_
  refine tv_getR (r := (b + 6)) C dk_X6_openIfDue_1 fl_RX6_28 (tvSB_sh hb 0 (by decide)).2 (tvSB_sh hb 0 (by decide)).1 (tvSB_rho hb (0, 2, 6) (by decide)) (fun _ _ _ _ => rfl) ?_
  refine tv_iload_n C dk_X6_openIfDue_4 rfl ?_
  refine tv_cV1 C dk_X6_openIfDue_5 ml_RX6_98 yk_X0_statusOf yi_X0_statusOf (m_X0_statusOf _ M hb x1) (tvSB_sh hb 6 (by decide)).2 (tvSB_sh hb 6 (by decide)).1 rfl rfl rfl (Nat.le_of_ble_eq_true rfl) (Nat.le_of_ble_eq_true rfl) (Nat.le_of_ble_eq_true rfl) (Nat.le_of_ble_eq_true rfl) (Nat.le_of_ble_eq_true rfl) ?_
  refine tv_bipush (v := 112) C dk_X6_openIfDue_8 (by decide) ?_
  refine tv_icmp_ne C dk_X6_openIfDue_10 (fun h1 => ?_) (fun h1 => ?_)
  · refine tv_iconst (v := 0) C dk_X6_openIfDue_24 (by decide) ?_
    exact tv_iret C hQ dk_X6_openIfDue_25 rfl (by rw [f_X6_openIfDue, if_neg h1]) (by rw [f_X6_openIfDue, if_neg h1])
  refine tv_aload_n C dk_X6_openIfDue_13 rfl ?_
  refine tv_getR (r := (b + 6)) C dk_X6_openIfDue_14 fl_RX6_28 (tvSB_sh hb 0 (by decide)).2 (tvSB_sh hb 0 (by decide)).1 (tvSB_rho hb (0, 2, 6) (by decide)) (fun _ _ _ _ => rfl) ?_
  refine tv_iload_n C dk_X6_openIfDue_17 rfl ?_
  refine tv_cV1 C dk_X6_openIfDue_18 ml_RX6_213 yk_X0_remainingOf yi_X0_remainingOf (m_X0_remainingOf _ M hb x1) (tvSB_sh hb 6 (by decide)).2 (tvSB_sh hb 6 (by decide)).1 rfl rfl rfl (Nat.le_of_ble_eq_true rfl) (Nat.le_of_ble_eq_true rfl) (Nat.le_of_ble_eq_true rfl) (Nat.le_of_ble_eq_true rfl) (Nat.le_of_ble_eq_true rfl) ?_
  refine tv_if_eq C dk_X6_openIfDue_21 (fun h2 => ?_) (fun h2 => ?_)
  · refine tv_aload_n C dk_X6_openIfDue_26 rfl ?_
    refine tv_getR (r := (b + 6)) C dk_X6_openIfDue_27 fl_RX6_28 (tvSB_sh hb 0 (by decide)).2 (tvSB_sh hb 0 (by decide)).1 (tvSB_rho hb (0, 2, 6) (by decide)) (fun _ _ _ _ => rfl) ?_
    refine tv_bipush (v := 111) C dk_X6_openIfDue_30 (by decide) ?_
    refine tv_iload_n C dk_X6_openIfDue_32 rfl ?_
    refine tv_aload_n C dk_X6_openIfDue_33 rfl ?_
    refine tv_getI C dk_X6_openIfDue_34 fl_RX6_52 (tvSB_sh hb 0 (by decide)).2 (tvSB_sh hb 0 (by decide)).1 (fun _ _ _ _ => rfl) ?_
    refine tv_cV0 C dk_X6_openIfDue_37 ml_RX6_201 yk_X0_become yi_X0_become (m_X0_become _ M hb 111 x1 (tgi M b 4)) (tvSB_sh hb 6 (by decide)).2 (tvSB_sh hb 6 (by decide)).1 rfl rfl rfl (Nat.le_of_ble_eq_true rfl) (Nat.le_of_ble_eq_true rfl) (Nat.le_of_ble_eq_true rfl) (Nat.le_of_ble_eq_true rfl) (Nat.le_of_ble_eq_true rfl) ?_
    refine tv_aload_n C dk_X6_openIfDue_40 rfl ?_
    refine tv_getR (r := (b + 16)) C dk_X6_openIfDue_41 fl_RX6_35 (tvSB_sh hb 0 (by decide)).2 (tvSB_sh hb 0 (by decide)).1 (tvSB_rho hb (0, 3, 16) (by decide)) (fun _ _ _ _ => rfl) ?_
    refine tv_bipush (v := 111) C dk_X6_openIfDue_44 (by decide) ?_
    refine tv_aload_n C dk_X6_openIfDue_46 rfl ?_
    refine tv_getI C dk_X6_openIfDue_47 fl_RX6_52 (tvSB_sh hb 0 (by decide)).2 (tvSB_sh hb 0 (by decide)).1 (fun _ _ _ _ => rfl) ?_
    refine tv_iload_n C dk_X6_openIfDue_50 rfl ?_
    refine tv_cV0 C dk_X6_openIfDue_51 ml_RX6_186 yk_X4_add yi_X4_add (m_X4_add _ (f_X0_become M b 111 x1 (tgi M b 4)) hb 111 (tgi (f_X0_become M b 111 x1 (tgi M b 4)) b 4) x1) (tvSB_sh hb 16 (by decide)).2 (tvSB_sh hb 16 (by decide)).1 rfl rfl rfl (Nat.le_of_ble_eq_true rfl) (Nat.le_of_ble_eq_true rfl) (Nat.le_of_ble_eq_true rfl) (Nat.le_of_ble_eq_true rfl) (Nat.le_of_ble_eq_true rfl) ?_
    refine tv_iconst (v := 1) C dk_X6_openIfDue_54 (by decide) ?_
    exact tv_iret C hQ dk_X6_openIfDue_55 rfl (by rw [f_X6_openIfDue, if_pos h1, if_pos h2]) (by rw [f_X6_openIfDue, if_pos h1, if_pos h2])
  refine tv_iconst (v := 0) C dk_X6_openIfDue_24 (by decide) ?_
  exact tv_iret C hQ dk_X6_openIfDue_25 rfl (by rw [f_X6_openIfDue, if_pos h1, if_neg h2]) (by rw [f_X6_openIfDue, if_pos h1, if_neg h2])
/-- TideVault$State.turn(II)C -/
def f_X6_turn (M : tvM) (b : Nat) (x1 : Int32) (x2 : Int32) : Int32 × tvM := (if (f_X0_statusOf (f_X6_hearRightCode M b x2) b x1) = 99 then ((f_X0_statusOf (f_X0_halfOpen (f_X6_hearRightCode M b x2) b x1 x2 (tgi (f_X6_hearRightCode M b x2) b 4)) b x1), (f_X0_halfOpen (f_X6_hearRightCode M b x2) b x1 x2 (tgi (f_X6_hearRightCode M b x2) b 4))) else (if (f_X6_isLow (f_X0_startDelay (f_X6_hearRightCode M b x2) b x1) b) = 0 then ((f_X0_statusOf (f_X0_startDelay (f_X6_hearRightCode M b x2) b x1) b x1), (f_X0_startDelay (f_X6_hearRightCode M b x2) b x1)) else ((f_X0_statusOf ((f_X6_openIfDue (f_X0_startDelay (f_X6_hearRightCode M b x2) b x1) b x1).2) b x1), (f_X6_openIfDue (f_X0_startDelay (f_X6_hearRightCode M b x2) b x1) b x1).2)))
theorem m_X6_turn (G : tvG) (M : tvM) {b : Nat} (hb : tvSB b) (x1 : Int32) (x2 : Int32) : tvRun G yX6_turn cX6_turn 3 (some .char) 4 0 0 tvP0 tvP0 [.ref (G.2.1 + b), .int x1, .int x2] M (.inl (some (.int (f_X6_turn M b x1 x2).1))) ((f_X6_turn M b x1 x2).2) := by
  refine tvRun.of yk_X6_turn rfl [some (.ref (G.2.1 + b)), some (.int x1), some (.int x2)] rfl (Nat.le_of_ble_eq_true rfl) ?_
  intro E hG C hQ; subst hG
  refine tv_aload_n C dk_X6_turn_0 rfl ?_
  refine tv_iload_n C dk_X6_turn_1 rfl ?_
  refine tv_cV0 C dk_X6_turn_2 ml_RX6_158 yk_X6_hearRightCode yi_X6_hearRightCode (m_X6_hearRightCode _ M hb x2) (tvSB_sh hb 0 (by decide)).2 (tvSB_sh hb 0 (by decide)).1 rfl rfl rfl (Nat.le_of_ble_eq_true rfl) (Nat.le_of_ble_eq_true rfl) (Nat.le_of_ble_eq_true rfl) (Nat.le_of_ble_eq_true rfl) (Nat.le_of_ble_eq_true rfl) ?_
  refine tv_aload_n C dk_X6_turn_5 rfl ?_
  refine tv_getR (r := (b + 6)) C dk_X6_turn_6 fl_RX6_28 (tvSB_sh hb 0 (by decide)).2 (tvSB_sh hb 0 (by decide)).1 (tvSB_rho hb (0, 2, 6) (by decide)) (fun _ _ _ _ => rfl) ?_
  refine tv_iload_n C dk_X6_turn_9 rfl ?_
  refine tv_cV1 C dk_X6_turn_10 ml_RX6_98 yk_X0_statusOf yi_X0_statusOf (m_X0_statusOf _ (f_X6_hearRightCode M b x2) hb x1) (tvSB_sh hb 6 (by decide)).2 (tvSB_sh hb 6 (by decide)).1 rfl rfl rfl (Nat.le_of_ble_eq_true rfl) (Nat.le_of_ble_eq_true rfl) (Nat.le_of_ble_eq_true rfl) (Nat.le_of_ble_eq_true rfl) (Nat.le_of_ble_eq_true rfl) ?_
  refine tv_bipush (v := 99) C dk_X6_turn_13 (by decide) ?_
  refine tv_icmp_ne C dk_X6_turn_15 (fun h1 => ?_) (fun h1 => ?_)
  · refine tv_aload_n C dk_X6_turn_34 rfl ?_
    refine tv_getR (r := (b + 6)) C dk_X6_turn_35 fl_RX6_28 (tvSB_sh hb 0 (by decide)).2 (tvSB_sh hb 0 (by decide)).1 (tvSB_rho hb (0, 2, 6) (by decide)) (fun _ _ _ _ => rfl) ?_
    refine tv_iload_n C dk_X6_turn_38 rfl ?_
    refine tv_cV0 C dk_X6_turn_39 ml_RX6_166 yk_X0_startDelay yi_X0_startDelay (m_X0_startDelay _ (f_X6_hearRightCode M b x2) hb x1) (tvSB_sh hb 6 (by decide)).2 (tvSB_sh hb 6 (by decide)).1 rfl rfl rfl (Nat.le_of_ble_eq_true rfl) (Nat.le_of_ble_eq_true rfl) (Nat.le_of_ble_eq_true rfl) (Nat.le_of_ble_eq_true rfl) (Nat.le_of_ble_eq_true rfl) ?_
    refine tv_aload_n C dk_X6_turn_42 rfl ?_
    refine tv_cV1 C dk_X6_turn_43 ml_RX6_169 yk_X6_isLow yi_X6_isLow (m_X6_isLow _ (f_X0_startDelay (f_X6_hearRightCode M b x2) b x1) hb) (tvSB_sh hb 0 (by decide)).2 (tvSB_sh hb 0 (by decide)).1 rfl rfl rfl (Nat.le_of_ble_eq_true rfl) (Nat.le_of_ble_eq_true rfl) (Nat.le_of_ble_eq_true rfl) (Nat.le_of_ble_eq_true rfl) (Nat.le_of_ble_eq_true rfl) ?_
    refine tv_if_eq C dk_X6_turn_46 (fun h2 => ?_) (fun h2 => ?_)
    · refine tv_aload_n C dk_X6_turn_55 rfl ?_
      refine tv_getR (r := (b + 6)) C dk_X6_turn_56 fl_RX6_28 (tvSB_sh hb 0 (by decide)).2 (tvSB_sh hb 0 (by decide)).1 (tvSB_rho hb (0, 2, 6) (by decide)) (fun _ _ _ _ => rfl) ?_
      refine tv_iload_n C dk_X6_turn_59 rfl ?_
      refine tv_cV1 C dk_X6_turn_60 ml_RX6_98 yk_X0_statusOf yi_X0_statusOf (m_X0_statusOf _ (f_X0_startDelay (f_X6_hearRightCode M b x2) b x1) hb x1) (tvSB_sh hb 6 (by decide)).2 (tvSB_sh hb 6 (by decide)).1 rfl rfl rfl (Nat.le_of_ble_eq_true rfl) (Nat.le_of_ble_eq_true rfl) (Nat.le_of_ble_eq_true rfl) (Nat.le_of_ble_eq_true rfl) (Nat.le_of_ble_eq_true rfl) ?_
      exact tv_iret C hQ dk_X6_turn_63 (fz_X0_statusOf) (by rw [f_X6_turn, if_neg h1, if_pos h2]) (by rw [f_X6_turn, if_neg h1, if_pos h2])
    refine tv_aload_n C dk_X6_turn_49 rfl ?_
    refine tv_iload_n C dk_X6_turn_50 rfl ?_
    refine tv_cV1 C dk_X6_turn_51 ml_RX6_173 yk_X6_openIfDue yi_X6_openIfDue (m_X6_openIfDue _ (f_X0_startDelay (f_X6_hearRightCode M b x2) b x1) hb x1) (tvSB_sh hb 0 (by decide)).2 (tvSB_sh hb 0 (by decide)).1 rfl rfl rfl (Nat.le_of_ble_eq_true rfl) (Nat.le_of_ble_eq_true rfl) (Nat.le_of_ble_eq_true rfl) (Nat.le_of_ble_eq_true rfl) (Nat.le_of_ble_eq_true rfl) ?_
    refine tv_pop C dk_X6_turn_54 rfl ?_
    refine tv_aload_n C dk_X6_turn_55 rfl ?_
    refine tv_getR (r := (b + 6)) C dk_X6_turn_56 fl_RX6_28 (tvSB_sh hb 0 (by decide)).2 (tvSB_sh hb 0 (by decide)).1 (tvSB_rho hb (0, 2, 6) (by decide)) (fun _ _ _ _ => rfl) ?_
    refine tv_iload_n C dk_X6_turn_59 rfl ?_
    refine tv_cV1 C dk_X6_turn_60 ml_RX6_98 yk_X0_statusOf yi_X0_statusOf (m_X0_statusOf _ ((f_X6_openIfDue (f_X0_startDelay (f_X6_hearRightCode M b x2) b x1) b x1).2) hb x1) (tvSB_sh hb 6 (by decide)).2 (tvSB_sh hb 6 (by decide)).1 rfl rfl rfl (Nat.le_of_ble_eq_true rfl) (Nat.le_of_ble_eq_true rfl) (Nat.le_of_ble_eq_true rfl) (Nat.le_of_ble_eq_true rfl) (Nat.le_of_ble_eq_true rfl) ?_
    exact tv_iret C hQ dk_X6_turn_63 (fz_X0_statusOf) (by rw [f_X6_turn, if_neg h1, if_neg h2]) (by rw [f_X6_turn, if_neg h1, if_neg h2])
  refine tv_aload_n C dk_X6_turn_18 rfl ?_
  refine tv_getR (r := (b + 6)) C dk_X6_turn_19 fl_RX6_28 (tvSB_sh hb 0 (by decide)).2 (tvSB_sh hb 0 (by decide)).1 (tvSB_rho hb (0, 2, 6) (by decide)) (fun _ _ _ _ => rfl) ?_
  refine tv_iload_n C dk_X6_turn_22 rfl ?_
  refine tv_iload_n C dk_X6_turn_23 rfl ?_
  refine tv_aload_n C dk_X6_turn_24 rfl ?_
  refine tv_getI C dk_X6_turn_25 fl_RX6_52 (tvSB_sh hb 0 (by decide)).2 (tvSB_sh hb 0 (by decide)).1 (fun _ _ _ _ => rfl) ?_
  refine tv_cV0 C dk_X6_turn_28 ml_RX6_162 yk_X0_halfOpen yi_X0_halfOpen (m_X0_halfOpen _ (f_X6_hearRightCode M b x2) hb x1 x2 (tgi (f_X6_hearRightCode M b x2) b 4)) (tvSB_sh hb 6 (by decide)).2 (tvSB_sh hb 6 (by decide)).1 rfl rfl rfl (Nat.le_of_ble_eq_true rfl) (Nat.le_of_ble_eq_true rfl) (Nat.le_of_ble_eq_true rfl) (Nat.le_of_ble_eq_true rfl) (Nat.le_of_ble_eq_true rfl) ?_
  refine tv_goto C dk_X6_turn_31 ?_
  refine tv_aload_n C dk_X6_turn_55 rfl ?_
  refine tv_getR (r := (b + 6)) C dk_X6_turn_56 fl_RX6_28 (tvSB_sh hb 0 (by decide)).2 (tvSB_sh hb 0 (by decide)).1 (tvSB_rho hb (0, 2, 6) (by decide)) (fun _ _ _ _ => rfl) ?_
  refine tv_iload_n C dk_X6_turn_59 rfl ?_
  refine tv_cV1 C dk_X6_turn_60 ml_RX6_98 yk_X0_statusOf yi_X0_statusOf (m_X0_statusOf _ (f_X0_halfOpen (f_X6_hearRightCode M b x2) b x1 x2 (tgi (f_X6_hearRightCode M b x2) b 4)) hb x1) (tvSB_sh hb 6 (by decide)).2 (tvSB_sh hb 6 (by decide)).1 rfl rfl rfl (Nat.le_of_ble_eq_true rfl) (Nat.le_of_ble_eq_true rfl) (Nat.le_of_ble_eq_true rfl) (Nat.le_of_ble_eq_true rfl) (Nat.le_of_ble_eq_true rfl) ?_
  exact tv_iret C hQ dk_X6_turn_63 (fz_X0_statusOf) (by rw [f_X6_turn, if_pos h1]) (by rw [f_X6_turn, if_pos h1])
theorem fz_X6_turn {M : tvM} {b : Nat} {x1 : Int32} {x2 : Int32} : narrow .char (.int (f_X6_turn M b x1 x2).1) = .int ((f_X6_turn M b x1 x2).1) := by
  unfold f_X6_turn; repeat' split
  all_goals first | rfl | exact (fz_X0_statusOf)
/-- TideVault$State.recode(II)I -/
def f_X6_recode (M : tvM) (b : Nat) (x1 : Int32) (x2 : Int32) : Int32 × tvM := ((f_X2_attemptsOf M b x1), (f_X2_setCode (f_X6_hearRightCode M b x1) b x1 x2))
theorem m_X6_recode (G : tvG) (M : tvM) {b : Nat} (hb : tvSB b) (x1 : Int32) (x2 : Int32) : tvRun G yX6_recode cX6_recode 4 (some .int) 4 0 0 tvP0 tvP0 [.ref (G.2.1 + b), .int x1, .int x2] M (.inl (some (.int (f_X6_recode M b x1 x2).1))) ((f_X6_recode M b x1 x2).2) := by
  refine tvRun.of yk_X6_recode rfl [some (.ref (G.2.1 + b)), some (.int x1), some (.int x2), none] rfl (Nat.le_of_ble_eq_true rfl) ?_
  intro E hG C hQ; subst hG
  refine tv_aload_n C dk_X6_recode_0 rfl ?_
  refine tv_getR (r := (b + 2)) C dk_X6_recode_1 fl_RX6_21 (tvSB_sh hb 0 (by decide)).2 (tvSB_sh hb 0 (by decide)).1 (tvSB_rho hb (0, 1, 2) (by decide)) (fun _ _ _ _ => rfl) ?_
  refine tv_iload_n C dk_X6_recode_4 rfl ?_
  refine tv_cV1 C dk_X6_recode_5 ml_RX6_176 yk_X2_attemptsOf yi_X2_attemptsOf (m_X2_attemptsOf _ M hb x1) (tvSB_sh hb 2 (by decide)).2 (tvSB_sh hb 2 (by decide)).1 rfl rfl rfl (Nat.le_of_ble_eq_true rfl) (Nat.le_of_ble_eq_true rfl) (Nat.le_of_ble_eq_true rfl) (Nat.le_of_ble_eq_true rfl) (Nat.le_of_ble_eq_true rfl) ?_
  refine tv_istore_n (L' := [_, _, _, _]) (hn := by decide) (hlt := (Nat.le_of_ble_eq_true rfl)) (hno := rfl) C dk_X6_recode_8 rfl ?_
  refine tv_aload_n C dk_X6_recode_9 rfl ?_
  refine tv_iload_n C dk_X6_recode_10 rfl ?_
  refine tv_cV0 C dk_X6_recode_11 ml_RX6_158 yk_X6_hearRightCode yi_X6_hearRightCode (m_X6_hearRightCode _ M hb x1) (tvSB_sh hb 0 (by decide)).2 (tvSB_sh hb 0 (by decide)).1 rfl rfl rfl (Nat.le_of_ble_eq_true rfl) (Nat.le_of_ble_eq_true rfl) (Nat.le_of_ble_eq_true rfl) (Nat.le_of_ble_eq_true rfl) (Nat.le_of_ble_eq_true rfl) ?_
  refine tv_aload_n C dk_X6_recode_14 rfl ?_
  refine tv_getR (r := (b + 2)) C dk_X6_recode_15 fl_RX6_21 (tvSB_sh hb 0 (by decide)).2 (tvSB_sh hb 0 (by decide)).1 (tvSB_rho hb (0, 1, 2) (by decide)) (fun _ _ _ _ => rfl) ?_
  refine tv_iload_n C dk_X6_recode_18 rfl ?_
  refine tv_iload_n C dk_X6_recode_19 rfl ?_
  refine tv_cV0 C dk_X6_recode_20 ml_RX6_179 yk_X2_setCode yi_X2_setCode (m_X2_setCode _ (f_X6_hearRightCode M b x1) hb x1 x2) (tvSB_sh hb 2 (by decide)).2 (tvSB_sh hb 2 (by decide)).1 rfl rfl rfl (Nat.le_of_ble_eq_true rfl) (Nat.le_of_ble_eq_true rfl) (Nat.le_of_ble_eq_true rfl) (Nat.le_of_ble_eq_true rfl) (Nat.le_of_ble_eq_true rfl) ?_
  refine tv_iload_n C dk_X6_recode_23 rfl ?_
  exact tv_iret C hQ dk_X6_recode_24 rfl (by rw [f_X6_recode]) (by rw [f_X6_recode])
/-- TideVault$State.put(II)I -/
def f_X6_put (M : tvM) (b : Nat) (x1 : Int32) (x2 : Int32) : Int32 × tvM := ((f_X0_addPearl (f_X4_add (tpl M b 8 ((tgl M b 8) + x2.toInt64)) b 100 (tgi (tpl M b 8 ((tgl M b 8) + x2.toInt64)) b 4) x1) b x1 x2).1, (f_X0_addPearl (f_X4_add (tpl M b 8 ((tgl M b 8) + x2.toInt64)) b 100 (tgi (tpl M b 8 ((tgl M b 8) + x2.toInt64)) b 4) x1) b x1 x2).2)
theorem m_X6_put (G : tvG) (M : tvM) {b : Nat} (hb : tvSB b) (x1 : Int32) (x2 : Int32) : tvRun G yX6_put cX6_put 3 (some .int) 5 0 0 tvP0 tvP0 [.ref (G.2.1 + b), .int x1, .int x2] M (.inl (some (.int (f_X6_put M b x1 x2).1))) ((f_X6_put M b x1 x2).2) := by
  refine tvRun.of yk_X6_put rfl [some (.ref (G.2.1 + b)), some (.int x1), some (.int x2)] rfl (Nat.le_of_ble_eq_true rfl) ?_
  intro E hG C hQ; subst hG
  refine tv_aload_n C dk_X6_put_0 rfl ?_
  refine tv_dup C dk_X6_put_1 rfl ?_
  refine tv_getL C dk_X6_put_2 fl_RX6_65 (tvSB_sh hb 0 (by decide)).2 (tvSB_sh hb 0 (by decide)).1 (fun _ _ _ _ => rfl) ?_
  refine tv_iload_n C dk_X6_put_5 rfl ?_
  refine tv_i2l C dk_X6_put_6 ?_
  refine tv_ladd C dk_X6_put_7 ?_
  refine tv_putL C tvP0_ex dk_X6_put_8 fl_RX6_65 fw_6_8 (tvSB_sh hb 0 (by decide)).2 (tvSB_sh hb 0 (by decide)).1 rfl ?_
  refine tv_aload_n C dk_X6_put_11 rfl ?_
  refine tv_getR (r := (b + 16)) C dk_X6_put_12 fl_RX6_35 (tvSB_sh hb 0 (by decide)).2 (tvSB_sh hb 0 (by decide)).1 (tvSB_rho hb (0, 3, 16) (by decide)) (fun _ _ _ _ => rfl) ?_
  refine tv_bipush (v := 100) C dk_X6_put_15 (by decide) ?_
  refine tv_aload_n C dk_X6_put_17 rfl ?_
  refine tv_getI C dk_X6_put_18 fl_RX6_52 (tvSB_sh hb 0 (by decide)).2 (tvSB_sh hb 0 (by decide)).1 (fun _ _ _ _ => rfl) ?_
  refine tv_iload_n C dk_X6_put_21 rfl ?_
  refine tv_cV0 C dk_X6_put_22 ml_RX6_186 yk_X4_add yi_X4_add (m_X4_add _ (tpl M b 8 ((tgl M b 8) + x2.toInt64)) hb 100 (tgi (tpl M b 8 ((tgl M b 8) + x2.toInt64)) b 4) x1) (tvSB_sh hb 16 (by decide)).2 (tvSB_sh hb 16 (by decide)).1 rfl rfl rfl (Nat.le_of_ble_eq_true rfl) (Nat.le_of_ble_eq_true rfl) (Nat.le_of_ble_eq_true rfl) (Nat.le_of_ble_eq_true rfl) (Nat.le_of_ble_eq_true rfl) ?_
  refine tv_aload_n C dk_X6_put_25 rfl ?_
  refine tv_getR (r := (b + 6)) C dk_X6_put_26 fl_RX6_28 (tvSB_sh hb 0 (by decide)).2 (tvSB_sh hb 0 (by decide)).1 (tvSB_rho hb (0, 2, 6) (by decide)) (fun _ _ _ _ => rfl) ?_
  refine tv_iload_n C dk_X6_put_29 rfl ?_
  refine tv_iload_n C dk_X6_put_30 rfl ?_
  refine tv_cV1 C dk_X6_put_31 ml_RX6_195 yk_X0_addPearl yi_X0_addPearl (m_X0_addPearl _ (f_X4_add (tpl M b 8 ((tgl M b 8) + x2.toInt64)) b 100 (tgi (tpl M b 8 ((tgl M b 8) + x2.toInt64)) b 4) x1) hb x1 x2) (tvSB_sh hb 6 (by decide)).2 (tvSB_sh hb 6 (by decide)).1 rfl rfl rfl (Nat.le_of_ble_eq_true rfl) (Nat.le_of_ble_eq_true rfl) (Nat.le_of_ble_eq_true rfl) (Nat.le_of_ble_eq_true rfl) (Nat.le_of_ble_eq_true rfl) ?_
  exact tv_iret C hQ dk_X6_put_34 rfl (by rw [f_X6_put]) (by rw [f_X6_put])
/-- TideVault$State.take(I)I -/
def f_X6_take (M : tvM) (b : Nat) (x1 : Int32) : Int32 × tvM := ((f_X0_takeBest M b x1).1, (f_X4_add (tpl ((f_X0_takeBest M b x1).2) b 8 ((tgl ((f_X0_takeBest M b x1).2) b 8) - (((f_X0_takeBest M b x1).1).toInt64))) b 119 (tgi (tpl ((f_X0_takeBest M b x1).2) b 8 ((tgl ((f_X0_takeBest M b x1).2) b 8) - (((f_X0_takeBest M b x1).1).toInt64))) b 4) x1))
theorem m_X6_take (G : tvG) (M : tvM) {b : Nat} (hb : tvSB b) (x1 : Int32) : tvRun G yX6_take cX6_take 3 (some .int) 5 0 0 tvP0 tvP0 [.ref (G.2.1 + b), .int x1] M (.inl (some (.int (f_X6_take M b x1).1))) ((f_X6_take M b x1).2) := by
  refine tvRun.of yk_X6_take rfl [some (.ref (G.2.1 + b)), some (.int x1), none] rfl (Nat.le_of_ble_eq_true rfl) ?_
  intro E hG C hQ; subst hG
  refine tv_aload_n C dk_X6_take_0 rfl ?_
  refine tv_getR (r := (b + 6)) C dk_X6_take_1 fl_RX6_28 (tvSB_sh hb 0 (by decide)).2 (tvSB_sh hb 0 (by decide)).1 (tvSB_rho hb (0, 2, 6) (by decide)) (fun _ _ _ _ => rfl) ?_
  refine tv_iload_n C dk_X6_take_4 rfl ?_
  refine tv_cV1 C dk_X6_take_5 ml_RX6_198 yk_X0_takeBest yi_X0_takeBest (n_X0_takeBest _ M hb x1) (tvSB_sh hb 6 (by decide)).2 (tvSB_sh hb 6 (by decide)).1 rfl rfl rfl (Nat.le_of_ble_eq_true rfl) (Nat.le_of_ble_eq_true rfl) (Nat.le_of_ble_eq_true rfl) (Nat.le_of_ble_eq_true rfl) (Nat.le_of_ble_eq_true rfl) ?_
  refine tv_istore_n (L' := [_, _, _]) (hn := by decide) (hlt := (Nat.le_of_ble_eq_true rfl)) (hno := rfl) C dk_X6_take_8 rfl ?_
  refine tv_aload_n C dk_X6_take_9 rfl ?_
  refine tv_dup C dk_X6_take_10 rfl ?_
  refine tv_getL C dk_X6_take_11 fl_RX6_65 (tvSB_sh hb 0 (by decide)).2 (tvSB_sh hb 0 (by decide)).1 (fun _ _ _ _ => rfl) ?_
  refine tv_iload_n C dk_X6_take_14 rfl ?_
  refine tv_i2l C dk_X6_take_15 ?_
  refine tv_lsub C dk_X6_take_16 ?_
  refine tv_putL C tvP0_ex dk_X6_take_17 fl_RX6_65 fw_6_8 (tvSB_sh hb 0 (by decide)).2 (tvSB_sh hb 0 (by decide)).1 rfl ?_
  refine tv_aload_n C dk_X6_take_20 rfl ?_
  refine tv_getR (r := (b + 16)) C dk_X6_take_21 fl_RX6_35 (tvSB_sh hb 0 (by decide)).2 (tvSB_sh hb 0 (by decide)).1 (tvSB_rho hb (0, 3, 16) (by decide)) (fun _ _ _ _ => rfl) ?_
  refine tv_bipush (v := 119) C dk_X6_take_24 (by decide) ?_
  refine tv_aload_n C dk_X6_take_26 rfl ?_
  refine tv_getI C dk_X6_take_27 fl_RX6_52 (tvSB_sh hb 0 (by decide)).2 (tvSB_sh hb 0 (by decide)).1 (fun _ _ _ _ => rfl) ?_
  refine tv_iload_n C dk_X6_take_30 rfl ?_
  refine tv_cV0 C dk_X6_take_31 ml_RX6_186 yk_X4_add yi_X4_add (m_X4_add _ (tpl ((f_X0_takeBest M b x1).2) b 8 ((tgl ((f_X0_takeBest M b x1).2) b 8) - (((f_X0_takeBest M b x1).1).toInt64))) hb 119 (tgi (tpl ((f_X0_takeBest M b x1).2) b 8 ((tgl ((f_X0_takeBest M b x1).2) b 8) - (((f_X0_takeBest M b x1).1).toInt64))) b 4) x1) (tvSB_sh hb 16 (by decide)).2 (tvSB_sh hb 16 (by decide)).1 rfl rfl rfl (Nat.le_of_ble_eq_true rfl) (Nat.le_of_ble_eq_true rfl) (Nat.le_of_ble_eq_true rfl) (Nat.le_of_ble_eq_true rfl) (Nat.le_of_ble_eq_true rfl) ?_
  refine tv_iload_n C dk_X6_take_34 rfl ?_
  exact tv_iret C hQ dk_X6_take_35 rfl (by rw [f_X6_take]) (by rw [f_X6_take])
/-- TideVault$State.shut(I)I -/
def f_X6_shut (M : tvM) (b : Nat) (x1 : Int32) : Int32 × tvM := (if (f_X0_statusOf M b x1) = 111 then ((f_X0_pearlsIn (f_X0_become (f_X4_add M b 99 (tgi M b 4) x1) b 99 x1 (tgi (f_X4_add M b 99 (tgi M b 4) x1) b 4)) b x1), (f_X0_become (f_X4_add M b 99 (tgi M b 4) x1) b 99 x1 (tgi (f_X4_add M b 99 (tgi M b 4) x1) b 4))) else ((f_X0_pearlsIn (f_X0_become M b 99 x1 (tgi M b 4)) b x1), (f_X0_become M b 99 x1 (tgi M b 4))))
theorem m_X6_shut (G : tvG) (M : tvM) {b : Nat} (hb : tvSB b) (x1 : Int32) : tvRun G yX6_shut cX6_shut 2 (some .int) 3 0 0 tvP0 tvP0 [.ref (G.2.1 + b), .int x1] M (.inl (some (.int (f_X6_shut M b x1).1))) ((f_X6_shut M b x1).2) := by
  refine tvRun.of yk_X6_shut rfl [some (.ref (G.2.1 + b)), some (.int x1)] rfl (Nat.le_of_ble_eq_true rfl) ?_
  intro E hG C hQ; subst hG
  refine tv_aload_n C dk_X6_shut_0 rfl ?_
  refine tv_getR (r := (b + 6)) C dk_X6_shut_1 fl_RX6_28 (tvSB_sh hb 0 (by decide)).2 (tvSB_sh hb 0 (by decide)).1 (tvSB_rho hb (0, 2, 6) (by decide)) (fun _ _ _ _ => rfl) ?_
  refine tv_iload_n C dk_X6_shut_4 rfl ?_
  refine tv_cV1 C dk_X6_shut_5 ml_RX6_98 yk_X0_statusOf yi_X0_statusOf (m_X0_statusOf _ M hb x1) (tvSB_sh hb 6 (by decide)).2 (tvSB_sh hb 6 (by decide)).1 rfl rfl rfl (Nat.le_of_ble_eq_true rfl) (Nat.le_of_ble_eq_true rfl) (Nat.le_of_ble_eq_true rfl) (Nat.le_of_ble_eq_true rfl) (Nat.le_of_ble_eq_true rfl) ?_
  refine tv_bipush (v := 111) C dk_X6_shut_8 (by decide) ?_
  refine tv_icmp_ne C dk_X6_shut_10 (fun h1 => ?_) (fun h1 => ?_)
  · refine tv_aload_n C dk_X6_shut_27 rfl ?_
    refine tv_getR (r := (b + 6)) C dk_X6_shut_28 fl_RX6_28 (tvSB_sh hb 0 (by decide)).2 (tvSB_sh hb 0 (by decide)).1 (tvSB_rho hb (0, 2, 6) (by decide)) (fun _ _ _ _ => rfl) ?_
    refine tv_bipush (v := 99) C dk_X6_shut_31 (by decide) ?_
    refine tv_iload_n C dk_X6_shut_33 rfl ?_
    refine tv_aload_n C dk_X6_shut_34 rfl ?_
    refine tv_getI C dk_X6_shut_35 fl_RX6_52 (tvSB_sh hb 0 (by decide)).2 (tvSB_sh hb 0 (by decide)).1 (fun _ _ _ _ => rfl) ?_
    refine tv_cV0 C dk_X6_shut_38 ml_RX6_201 yk_X0_become yi_X0_become (m_X0_become _ M hb 99 x1 (tgi M b 4)) (tvSB_sh hb 6 (by decide)).2 (tvSB_sh hb 6 (by decide)).1 rfl rfl rfl (Nat.le_of_ble_eq_true rfl) (Nat.le_of_ble_eq_true rfl) (Nat.le_of_ble_eq_true rfl) (Nat.le_of_ble_eq_true rfl) (Nat.le_of_ble_eq_true rfl) ?_
    refine tv_aload_n C dk_X6_shut_41 rfl ?_
    refine tv_getR (r := (b + 6)) C dk_X6_shut_42 fl_RX6_28 (tvSB_sh hb 0 (by decide)).2 (tvSB_sh hb 0 (by decide)).1 (tvSB_rho hb (0, 2, 6) (by decide)) (fun _ _ _ _ => rfl) ?_
    refine tv_iload_n C dk_X6_shut_45 rfl ?_
    refine tv_cV1 C dk_X6_shut_46 ml_RX6_95 yk_X0_pearlsIn yi_X0_pearlsIn (m_X0_pearlsIn _ (f_X0_become M b 99 x1 (tgi M b 4)) hb x1) (tvSB_sh hb 6 (by decide)).2 (tvSB_sh hb 6 (by decide)).1 rfl rfl rfl (Nat.le_of_ble_eq_true rfl) (Nat.le_of_ble_eq_true rfl) (Nat.le_of_ble_eq_true rfl) (Nat.le_of_ble_eq_true rfl) (Nat.le_of_ble_eq_true rfl) ?_
    exact tv_iret C hQ dk_X6_shut_49 rfl (by rw [f_X6_shut, if_neg h1]) (by rw [f_X6_shut, if_neg h1])
  refine tv_aload_n C dk_X6_shut_13 rfl ?_
  refine tv_getR (r := (b + 16)) C dk_X6_shut_14 fl_RX6_35 (tvSB_sh hb 0 (by decide)).2 (tvSB_sh hb 0 (by decide)).1 (tvSB_rho hb (0, 3, 16) (by decide)) (fun _ _ _ _ => rfl) ?_
  refine tv_bipush (v := 99) C dk_X6_shut_17 (by decide) ?_
  refine tv_aload_n C dk_X6_shut_19 rfl ?_
  refine tv_getI C dk_X6_shut_20 fl_RX6_52 (tvSB_sh hb 0 (by decide)).2 (tvSB_sh hb 0 (by decide)).1 (fun _ _ _ _ => rfl) ?_
  refine tv_iload_n C dk_X6_shut_23 rfl ?_
  refine tv_cV0 C dk_X6_shut_24 ml_RX6_186 yk_X4_add yi_X4_add (m_X4_add _ M hb 99 (tgi M b 4) x1) (tvSB_sh hb 16 (by decide)).2 (tvSB_sh hb 16 (by decide)).1 rfl rfl rfl (Nat.le_of_ble_eq_true rfl) (Nat.le_of_ble_eq_true rfl) (Nat.le_of_ble_eq_true rfl) (Nat.le_of_ble_eq_true rfl) (Nat.le_of_ble_eq_true rfl) ?_
  refine tv_aload_n C dk_X6_shut_27 rfl ?_
  refine tv_getR (r := (b + 6)) C dk_X6_shut_28 fl_RX6_28 (tvSB_sh hb 0 (by decide)).2 (tvSB_sh hb 0 (by decide)).1 (tvSB_rho hb (0, 2, 6) (by decide)) (fun _ _ _ _ => rfl) ?_
  refine tv_bipush (v := 99) C dk_X6_shut_31 (by decide) ?_
  refine tv_iload_n C dk_X6_shut_33 rfl ?_
  refine tv_aload_n C dk_X6_shut_34 rfl ?_
  refine tv_getI C dk_X6_shut_35 fl_RX6_52 (tvSB_sh hb 0 (by decide)).2 (tvSB_sh hb 0 (by decide)).1 (fun _ _ _ _ => rfl) ?_
  refine tv_cV0 C dk_X6_shut_38 ml_RX6_201 yk_X0_become yi_X0_become (m_X0_become _ (f_X4_add M b 99 (tgi M b 4) x1) hb 99 x1 (tgi (f_X4_add M b 99 (tgi M b 4) x1) b 4)) (tvSB_sh hb 6 (by decide)).2 (tvSB_sh hb 6 (by decide)).1 rfl rfl rfl (Nat.le_of_ble_eq_true rfl) (Nat.le_of_ble_eq_true rfl) (Nat.le_of_ble_eq_true rfl) (Nat.le_of_ble_eq_true rfl) (Nat.le_of_ble_eq_true rfl) ?_
  refine tv_aload_n C dk_X6_shut_41 rfl ?_
  refine tv_getR (r := (b + 6)) C dk_X6_shut_42 fl_RX6_28 (tvSB_sh hb 0 (by decide)).2 (tvSB_sh hb 0 (by decide)).1 (tvSB_rho hb (0, 2, 6) (by decide)) (fun _ _ _ _ => rfl) ?_
  refine tv_iload_n C dk_X6_shut_45 rfl ?_
  refine tv_cV1 C dk_X6_shut_46 ml_RX6_95 yk_X0_pearlsIn yi_X0_pearlsIn (m_X0_pearlsIn _ (f_X0_become (f_X4_add M b 99 (tgi M b 4) x1) b 99 x1 (tgi (f_X4_add M b 99 (tgi M b 4) x1) b 4)) hb x1) (tvSB_sh hb 6 (by decide)).2 (tvSB_sh hb 6 (by decide)).1 rfl rfl rfl (Nat.le_of_ble_eq_true rfl) (Nat.le_of_ble_eq_true rfl) (Nat.le_of_ble_eq_true rfl) (Nat.le_of_ble_eq_true rfl) (Nat.le_of_ble_eq_true rfl) ?_
  exact tv_iret C hQ dk_X6_shut_49 rfl (by rw [f_X6_shut, if_pos h1]) (by rw [f_X6_shut, if_pos h1])
/-- TideVault$State.hasJustOpened(I)Z -/
def f_X6_hasJustOpened (M : tvM) (b : Nat) (x1 : Int32) : Int32 := (if (f_X0_statusOf M b x1) = 111 then (if (f_X0_sinceOf M b x1) = (tgi M b 4) then 1 else 0) else 0)
theorem m_X6_hasJustOpened (G : tvG) (M : tvM) {b : Nat} (hb : tvSB b) (x1 : Int32) : tvRun G yX6_hasJustOpened cX6_hasJustOpened 2 (some .boolean) 3 0 0 tvP0 tvP0 [.ref (G.2.1 + b), .int x1] M (.inl (some (.int (f_X6_hasJustOpened M b x1)))) M := by
  refine tvRun.of yk_X6_hasJustOpened rfl [some (.ref (G.2.1 + b)), some (.int x1)] rfl (Nat.le_of_ble_eq_true rfl) ?_
  intro E hG C hQ; subst hG
  refine tv_aload_n C dk_X6_hasJustOpened_0 rfl ?_
  refine tv_getR (r := (b + 6)) C dk_X6_hasJustOpened_1 fl_RX6_28 (tvSB_sh hb 0 (by decide)).2 (tvSB_sh hb 0 (by decide)).1 (tvSB_rho hb (0, 2, 6) (by decide)) (fun _ _ _ _ => rfl) ?_
  refine tv_iload_n C dk_X6_hasJustOpened_4 rfl ?_
  refine tv_cV1 C dk_X6_hasJustOpened_5 ml_RX6_98 yk_X0_statusOf yi_X0_statusOf (m_X0_statusOf _ M hb x1) (tvSB_sh hb 6 (by decide)).2 (tvSB_sh hb 6 (by decide)).1 rfl rfl rfl (Nat.le_of_ble_eq_true rfl) (Nat.le_of_ble_eq_true rfl) (Nat.le_of_ble_eq_true rfl) (Nat.le_of_ble_eq_true rfl) (Nat.le_of_ble_eq_true rfl) ?_
  refine tv_bipush (v := 111) C dk_X6_hasJustOpened_8 (by decide) ?_
  refine tv_icmp_ne C dk_X6_hasJustOpened_10 (fun h1 => ?_) (fun h1 => ?_)
  · refine tv_iconst (v := 0) C dk_X6_hasJustOpened_32 (by decide) ?_
    exact tv_iret C hQ dk_X6_hasJustOpened_33 rfl (by rw [f_X6_hasJustOpened, if_neg h1]) rfl
  refine tv_aload_n C dk_X6_hasJustOpened_13 rfl ?_
  refine tv_getR (r := (b + 6)) C dk_X6_hasJustOpened_14 fl_RX6_28 (tvSB_sh hb 0 (by decide)).2 (tvSB_sh hb 0 (by decide)).1 (tvSB_rho hb (0, 2, 6) (by decide)) (fun _ _ _ _ => rfl) ?_
  refine tv_iload_n C dk_X6_hasJustOpened_17 rfl ?_
  refine tv_cV1 C dk_X6_hasJustOpened_18 ml_RX6_222 yk_X0_sinceOf yi_X0_sinceOf (m_X0_sinceOf _ M hb x1) (tvSB_sh hb 6 (by decide)).2 (tvSB_sh hb 6 (by decide)).1 rfl rfl rfl (Nat.le_of_ble_eq_true rfl) (Nat.le_of_ble_eq_true rfl) (Nat.le_of_ble_eq_true rfl) (Nat.le_of_ble_eq_true rfl) (Nat.le_of_ble_eq_true rfl) ?_
  refine tv_aload_n C dk_X6_hasJustOpened_21 rfl ?_
  refine tv_getI C dk_X6_hasJustOpened_22 fl_RX6_52 (tvSB_sh hb 0 (by decide)).2 (tvSB_sh hb 0 (by decide)).1 (fun _ _ _ _ => rfl) ?_
  refine tv_icmp_ne C dk_X6_hasJustOpened_25 (fun h2 => ?_) (fun h2 => ?_)
  · refine tv_iconst (v := 0) C dk_X6_hasJustOpened_32 (by decide) ?_
    exact tv_iret C hQ dk_X6_hasJustOpened_33 rfl (by rw [f_X6_hasJustOpened, if_pos h1, if_neg h2]) rfl
  refine tv_iconst (v := 1) C dk_X6_hasJustOpened_28 (by decide) ?_
  refine tv_goto C dk_X6_hasJustOpened_29 ?_
  exact tv_iret C hQ dk_X6_hasJustOpened_33 rfl (by rw [f_X6_hasJustOpened, if_pos h1, if_pos h2]) rfl
theorem fz_X6_hasJustOpened {M : tvM} {b : Nat} {x1 : Int32} : narrow .boolean (.int (f_X6_hasJustOpened M b x1)) = .int (f_X6_hasJustOpened M b x1) := by
  unfold f_X6_hasJustOpened; repeat' split
  all_goals first | rfl
/-- TideVault$State.copyFrom(LTideVault$State;)V -/
def f_X6_copyFrom (M : tvM) (b : Nat) (b2 : Nat) : tvM := (tpl (tpi (tpi (tpi (tpi (f_X4_copyFrom (f_X0_copyFrom (f_X2_copyFrom (f_X7_copyFrom M b b2) b b2) b b2) b b2) b 4 (tgi (f_X4_copyFrom (f_X0_copyFrom (f_X2_copyFrom (f_X7_copyFrom M b b2) b b2) b b2) b b2) b2 4)) b 5 (tgi (tpi (f_X4_copyFrom (f_X0_copyFrom (f_X2_copyFrom (f_X7_copyFrom M b b2) b b2) b b2) b b2) b 4 (tgi (f_X4_copyFrom (f_X0_copyFrom (f_X2_copyFrom (f_X7_copyFrom M b b2) b b2) b b2) b b2) b2 4)) b2 5)) b 6 (tgi (tpi (tpi (f_X4_copyFrom (f_X0_copyFrom (f_X2_copyFrom (f_X7_copyFrom M b b2) b b2) b b2) b b2) b 4 (tgi (f_X4_copyFrom (f_X0_copyFrom (f_X2_copyFrom (f_X7_copyFrom M b b2) b b2) b b2) b b2) b2 4)) b 5 (tgi (tpi (f_X4_copyFrom (f_X0_copyFrom (f_X2_copyFrom (f_X7_copyFrom M b b2) b b2) b b2) b b2) b 4 (tgi (f_X4_copyFrom (f_X0_copyFrom (f_X2_copyFrom (f_X7_copyFrom M b b2) b b2) b b2) b b2) b2 4)) b2 5)) b2 6)) b 7 (tgi (tpi (tpi (tpi (f_X4_copyFrom (f_X0_copyFrom (f_X2_copyFrom (f_X7_copyFrom M b b2) b b2) b b2) b b2) b 4 (tgi (f_X4_copyFrom (f_X0_copyFrom (f_X2_copyFrom (f_X7_copyFrom M b b2) b b2) b b2) b b2) b2 4)) b 5 (tgi (tpi (f_X4_copyFrom (f_X0_copyFrom (f_X2_copyFrom (f_X7_copyFrom M b b2) b b2) b b2) b b2) b 4 (tgi (f_X4_copyFrom (f_X0_copyFrom (f_X2_copyFrom (f_X7_copyFrom M b b2) b b2) b b2) b b2) b2 4)) b2 5)) b 6 (tgi (tpi (tpi (f_X4_copyFrom (f_X0_copyFrom (f_X2_copyFrom (f_X7_copyFrom M b b2) b b2) b b2) b b2) b 4 (tgi (f_X4_copyFrom (f_X0_copyFrom (f_X2_copyFrom (f_X7_copyFrom M b b2) b b2) b b2) b b2) b2 4)) b 5 (tgi (tpi (f_X4_copyFrom (f_X0_copyFrom (f_X2_copyFrom (f_X7_copyFrom M b b2) b b2) b b2) b b2) b 4 (tgi (f_X4_copyFrom (f_X0_copyFrom (f_X2_copyFrom (f_X7_copyFrom M b b2) b b2) b b2) b b2) b2 4)) b2 5)) b2 6)) b2 7)) b 8 (tgl (tpi (tpi (tpi (tpi (f_X4_copyFrom (f_X0_copyFrom (f_X2_copyFrom (f_X7_copyFrom M b b2) b b2) b b2) b b2) b 4 (tgi (f_X4_copyFrom (f_X0_copyFrom (f_X2_copyFrom (f_X7_copyFrom M b b2) b b2) b b2) b b2) b2 4)) b 5 (tgi (tpi (f_X4_copyFrom (f_X0_copyFrom (f_X2_copyFrom (f_X7_copyFrom M b b2) b b2) b b2) b b2) b 4 (tgi (f_X4_copyFrom (f_X0_copyFrom (f_X2_copyFrom (f_X7_copyFrom M b b2) b b2) b b2) b b2) b2 4)) b2 5)) b 6 (tgi (tpi (tpi (f_X4_copyFrom (f_X0_copyFrom (f_X2_copyFrom (f_X7_copyFrom M b b2) b b2) b b2) b b2) b 4 (tgi (f_X4_copyFrom (f_X0_copyFrom (f_X2_copyFrom (f_X7_copyFrom M b b2) b b2) b b2) b b2) b2 4)) b 5 (tgi (tpi (f_X4_copyFrom (f_X0_copyFrom (f_X2_copyFrom (f_X7_copyFrom M b b2) b b2) b b2) b b2) b 4 (tgi (f_X4_copyFrom (f_X0_copyFrom (f_X2_copyFrom (f_X7_copyFrom M b b2) b b2) b b2) b b2) b2 4)) b2 5)) b2 6)) b 7 (tgi (tpi (tpi (tpi (f_X4_copyFrom (f_X0_copyFrom (f_X2_copyFrom (f_X7_copyFrom M b b2) b b2) b b2) b b2) b 4 (tgi (f_X4_copyFrom (f_X0_copyFrom (f_X2_copyFrom (f_X7_copyFrom M b b2) b b2) b b2) b b2) b2 4)) b 5 (tgi (tpi (f_X4_copyFrom (f_X0_copyFrom (f_X2_copyFrom (f_X7_copyFrom M b b2) b b2) b b2) b b2) b 4 (tgi (f_X4_copyFrom (f_X0_copyFrom (f_X2_copyFrom (f_X7_copyFrom M b b2) b b2) b b2) b b2) b2 4)) b2 5)) b 6 (tgi (tpi (tpi (f_X4_copyFrom (f_X0_copyFrom (f_X2_copyFrom (f_X7_copyFrom M b b2) b b2) b b2) b b2) b 4 (tgi (f_X4_copyFrom (f_X0_copyFrom (f_X2_copyFrom (f_X7_copyFrom M b b2) b b2) b b2) b b2) b2 4)) b 5 (tgi (tpi (f_X4_copyFrom (f_X0_copyFrom (f_X2_copyFrom (f_X7_copyFrom M b b2) b b2) b b2) b b2) b 4 (tgi (f_X4_copyFrom (f_X0_copyFrom (f_X2_copyFrom (f_X7_copyFrom M b b2) b b2) b b2) b b2) b2 4)) b2 5)) b2 6)) b2 7)) b2 8))
theorem m_X6_copyFrom (G : tvG) (M : tvM) {b : Nat} (hb : tvSB b) {b2 : Nat} (hb2 : tvSB b2) (hne : b2 ≠ b) : tvRun G yX6_copyFrom cX6_copyFrom 2 none 2 0 0 tvP0 tvP0 [.ref (G.2.1 + b), .ref (G.2.1 + b2)] M (.inl none) (f_X6_copyFrom M b b2) := by
  refine tvRun.of yk_X6_copyFrom rfl [some (.ref (G.2.1 + b)), some (.ref (G.2.1 + b2))] rfl (Nat.le_of_ble_eq_true rfl) ?_
  intro E hG C hQ; subst hG
  refine tv_aload_n C dk_X6_copyFrom_0 rfl ?_
  refine tv_getR (r := (b + 1)) C dk_X6_copyFrom_1 fl_RX6_12 (tvSB_sh hb 0 (by decide)).2 (tvSB_sh hb 0 (by decide)).1 (tvSB_rho hb (0, 0, 1) (by decide)) (fun _ _ _ _ => rfl) ?_
  refine tv_aload_n C dk_X6_copyFrom_4 rfl ?_
  refine tv_getR (r := (b2 + 1)) C dk_X6_copyFrom_5 fl_RX6_12 (tvSB_sh hb2 0 (by decide)).2 (tvSB_sh hb2 0 (by decide)).1 (tvSB_rho hb2 (0, 0, 1) (by decide)) (fun _ _ _ _ => rfl) ?_
  refine tv_cV0 C dk_X6_copyFrom_8 ml_RX6_39 yk_X7_copyFrom yi_X7_copyFrom (m_X7_copyFrom _ M hb hb2 hne) (tvSB_sh hb 1 (by decide)).2 (tvSB_sh hb 1 (by decide)).1 rfl rfl rfl (Nat.le_of_ble_eq_true rfl) (Nat.le_of_ble_eq_true rfl) (Nat.le_of_ble_eq_true rfl) (Nat.le_of_ble_eq_true rfl) (Nat.le_of_ble_eq_true rfl) ?_
  refine tv_aload_n C dk_X6_copyFrom_11 rfl ?_
  refine tv_getR (r := (b + 2)) C dk_X6_copyFrom_12 fl_RX6_21 (tvSB_sh hb 0 (by decide)).2 (tvSB_sh hb 0 (by decide)).1 (tvSB_rho hb (0, 1, 2) (by decide)) (fun _ _ _ _ => rfl) ?_
  refine tv_aload_n C dk_X6_copyFrom_15 rfl ?_
  refine tv_getR (r := (b2 + 2)) C dk_X6_copyFrom_16 fl_RX6_21 (tvSB_sh hb2 0 (by decide)).2 (tvSB_sh hb2 0 (by decide)).1 (tvSB_rho hb2 (0, 1, 2) (by decide)) (fun _ _ _ _ => rfl) ?_
  refine tv_cV0 C dk_X6_copyFrom_19 ml_RX6_43 yk_X2_copyFrom yi_X2_copyFrom (m_X2_copyFrom _ (f_X7_copyFrom M b b2) hb hb2 hne) (tvSB_sh hb 2 (by decide)).2 (tvSB_sh hb 2 (by decide)).1 rfl rfl rfl (Nat.le_of_ble_eq_true rfl) (Nat.le_of_ble_eq_true rfl) (Nat.le_of_ble_eq_true rfl) (Nat.le_of_ble_eq_true rfl) (Nat.le_of_ble_eq_true rfl) ?_
  refine tv_aload_n C dk_X6_copyFrom_22 rfl ?_
  refine tv_getR (r := (b + 6)) C dk_X6_copyFrom_23 fl_RX6_28 (tvSB_sh hb 0 (by decide)).2 (tvSB_sh hb 0 (by decide)).1 (tvSB_rho hb (0, 2, 6) (by decide)) (fun _ _ _ _ => rfl) ?_
  refine tv_aload_n C dk_X6_copyFrom_26 rfl ?_
  refine tv_getR (r := (b2 + 6)) C dk_X6_copyFrom_27 fl_RX6_28 (tvSB_sh hb2 0 (by decide)).2 (tvSB_sh hb2 0 (by decide)).1 (tvSB_rho hb2 (0, 2, 6) (by decide)) (fun _ _ _ _ => rfl) ?_
  refine tv_cV0 C dk_X6_copyFrom_30 ml_RX6_46 yk_X0_copyFrom yi_X0_copyFrom (m_X0_copyFrom _ (f_X2_copyFrom (f_X7_copyFrom M b b2) b b2) hb hb2 hne) (tvSB_sh hb 6 (by decide)).2 (tvSB_sh hb 6 (by decide)).1 rfl rfl rfl (Nat.le_of_ble_eq_true rfl) (Nat.le_of_ble_eq_true rfl) (Nat.le_of_ble_eq_true rfl) (Nat.le_of_ble_eq_true rfl) (Nat.le_of_ble_eq_true rfl) ?_
  refine tv_aload_n C dk_X6_copyFrom_33 rfl ?_
  refine tv_getR (r := (b + 16)) C dk_X6_copyFrom_34 fl_RX6_35 (tvSB_sh hb 0 (by decide)).2 (tvSB_sh hb 0 (by decide)).1 (tvSB_rho hb (0, 3, 16) (by decide)) (fun _ _ _ _ => rfl) ?_
  refine tv_aload_n C dk_X6_copyFrom_37 rfl ?_
  refine tv_getR (r := (b2 + 16)) C dk_X6_copyFrom_38 fl_RX6_35 (tvSB_sh hb2 0 (by decide)).2 (tvSB_sh hb2 0 (by decide)).1 (tvSB_rho hb2 (0, 3, 16) (by decide)) (fun _ _ _ _ => rfl) ?_
  refine tv_cV0 C dk_X6_copyFrom_41 ml_RX6_49 yk_X4_copyFrom yi_X4_copyFrom (m_X4_copyFrom _ (f_X0_copyFrom (f_X2_copyFrom (f_X7_copyFrom M b b2) b b2) b b2) hb hb2 hne) (tvSB_sh hb 16 (by decide)).2 (tvSB_sh hb 16 (by decide)).1 rfl rfl rfl (Nat.le_of_ble_eq_true rfl) (Nat.le_of_ble_eq_true rfl) (Nat.le_of_ble_eq_true rfl) (Nat.le_of_ble_eq_true rfl) (Nat.le_of_ble_eq_true rfl) ?_
  refine tv_aload_n C dk_X6_copyFrom_44 rfl ?_
  refine tv_aload_n C dk_X6_copyFrom_45 rfl ?_
  refine tv_getI C dk_X6_copyFrom_46 fl_RX6_52 (tvSB_sh hb2 0 (by decide)).2 (tvSB_sh hb2 0 (by decide)).1 (fun _ _ _ _ => rfl) ?_
  refine tv_putI C tvP0_ex dk_X6_copyFrom_49 fl_RX6_52 fw_6_4 (tvSB_sh hb 0 (by decide)).2 (tvSB_sh hb 0 (by decide)).1 rfl (fun _ _ _ _ _ => rfl) rfl rfl ?_
  refine tv_aload_n C dk_X6_copyFrom_52 rfl ?_
  refine tv_aload_n C dk_X6_copyFrom_53 rfl ?_
  refine tv_getI C dk_X6_copyFrom_54 fl_RX6_56 (tvSB_sh hb2 0 (by decide)).2 (tvSB_sh hb2 0 (by decide)).1 (fun _ _ _ _ => rfl) ?_
  refine tv_putI C tvP0_ex dk_X6_copyFrom_57 fl_RX6_56 fw_6_5 (tvSB_sh hb 0 (by decide)).2 (tvSB_sh hb 0 (by decide)).1 rfl (fun _ _ _ _ _ => rfl) rfl rfl ?_
  refine tv_aload_n C dk_X6_copyFrom_60 rfl ?_
  refine tv_aload_n C dk_X6_copyFrom_61 rfl ?_
  refine tv_getI C dk_X6_copyFrom_62 fl_RX6_59 (tvSB_sh hb2 0 (by decide)).2 (tvSB_sh hb2 0 (by decide)).1 (fun _ _ _ _ => rfl) ?_
  refine tv_putI C tvP0_ex dk_X6_copyFrom_65 fl_RX6_59 fw_6_6 (tvSB_sh hb 0 (by decide)).2 (tvSB_sh hb 0 (by decide)).1 rfl (fun _ _ _ _ _ => rfl) rfl rfl ?_
  refine tv_aload_n C dk_X6_copyFrom_68 rfl ?_
  refine tv_aload_n C dk_X6_copyFrom_69 rfl ?_
  refine tv_getI C dk_X6_copyFrom_70 fl_RX6_62 (tvSB_sh hb2 0 (by decide)).2 (tvSB_sh hb2 0 (by decide)).1 (fun _ _ _ _ => rfl) ?_
  refine tv_putI C tvP0_ex dk_X6_copyFrom_73 fl_RX6_62 fw_6_7 (tvSB_sh hb 0 (by decide)).2 (tvSB_sh hb 0 (by decide)).1 rfl (fun _ _ _ _ _ => rfl) rfl rfl ?_
  refine tv_aload_n C dk_X6_copyFrom_76 rfl ?_
  refine tv_aload_n C dk_X6_copyFrom_77 rfl ?_
  refine tv_getL C dk_X6_copyFrom_78 fl_RX6_65 (tvSB_sh hb2 0 (by decide)).2 (tvSB_sh hb2 0 (by decide)).1 (fun _ _ _ _ => rfl) ?_
  refine tv_putL C tvP0_ex dk_X6_copyFrom_81 fl_RX6_65 fw_6_8 (tvSB_sh hb 0 (by decide)).2 (tvSB_sh hb 0 (by decide)).1 rfl ?_
  exact tv_vret C hQ dk_X6_copyFrom_84 rfl (by rw [f_X6_copyFrom])
theorem f_X4_add_at {M : tvM} {b : Nat} {x1 x2 x3 : Int32} {a k : Nat} (h : a < b + 16) : tgi (f_X4_add M b x1 x2 x3) a k = tgi M a k := by
  unfold f_X4_add
  split <;> simp only [tgi_pi_ne (show a ≠ b + 16 by omega), tgi_pi_ne (show a ≠ b + 17 by omega), tgi_pi_ne (show a ≠ b + 18 by omega), tgi_pi_ne (show a ≠ b + 19 by omega)]
theorem f_X0_become_at {M : tvM} {b : Nat} {x1 x2 x3 : Int32} {a k : Nat} (h : a ≠ b + 10) (h2 : a ≠ b + 13) : tgi (f_X0_become M b x1 x2 x3) a k = tgi M a k := by
  unfold f_X0_become
  split <;> simp only [tgi_pi_ne h, tgi_pi_ne h2]
theorem f_X6_openIfDue_at {M : tvM} {b : Nat} {x1 : Int32} {a k : Nat} (h : a ≠ b + 10) (h2 : a ≠ b + 13) (h3 : a < b + 16) : tgi (f_X6_openIfDue M b x1).2 a k = tgi M a k := by
  unfold f_X6_openIfDue
  repeat' split
  all_goals simp only [f_X4_add_at h3, f_X0_become_at h h2]
theorem f_X6_shut_at {M : tvM} {b : Nat} {x1 : Int32} {a k : Nat} (h : a ≠ b + 10) (h2 : a ≠ b + 13) (h3 : a < b + 16) : tgi (f_X6_shut M b x1).2 a k = tgi M a k := by
  unfold f_X6_shut
  repeat' split
  all_goals simp only [f_X4_add_at h3, f_X0_become_at h h2]
/-- TideVault$State.minute()I -/
def sb_X6_minute (b : Nat) (j : Nat) (y1 : Int32) (y2 : Int32) (M : tvM) : (Nat × Int32 × Int32 × tvM) ⊕ (Int32 × tvM) := (if j = 0 then (if (tgi M (b + 6) 0) ≤ y2 then .inr (y1, M) else (if (f_X0_isOverdue M b y2 (tgi M b 4)) = 0 then .inl (0, y1, (y2 + 1), M) else .inl (0, y1, (y2 + 1), (f_X6_shut M b y2).2))) else (if (tgi M (b + 6) 0) ≤ y2 then .inl (0, y1, 0, M) else .inl (1, (y1 + ((f_X6_openIfDue M b y2).1)), (y2 + 1), (f_X6_openIfDue M b y2).2)))
def s_X6_minute (b : Nat) : (Nat × Int32 × Int32 × tvM) → (Nat × Int32 × Int32 × tvM) ⊕ (Int32 × tvM) := fun q => sb_X6_minute b q.1 q.2.1 q.2.2.1 q.2.2.2
def e_X6_minute (M : tvM) (b : Nat) : (Nat × Int32 × Int32 × tvM) ⊕ (Int32 × tvM) := (if (f_X6_isLow M b) = 0 then (if ((tgi (tpi M b 4 ((tgi M b 4) + 1)) b 4) - (tgi (tpi M b 4 ((tgi M b 4) + 1)) b 4) / 5 * 5) = 0 then (if (tgi (tpi M b 4 ((tgi M b 4) + 1)) b 5) ≤ 0 then (if (f_X6_isLow (tpi M b 4 ((tgi M b 4) + 1)) b) = 0 then .inl (0, 0, 0, (tpi M b 4 ((tgi M b 4) + 1))) else .inl (1, 0, 0, (tpi M b 4 ((tgi M b 4) + 1)))) else (if (f_X6_isLow (tpi (tpi M b 4 ((tgi M b 4) + 1)) b 5 ((tgi (tpi M b 4 ((tgi M b 4) + 1)) b 5) - 1)) b) = 0 then .inl (0, 0, 0, (tpi (tpi M b 4 ((tgi M b 4) + 1)) b 5 ((tgi (tpi M b 4 ((tgi M b 4) + 1)) b 5) - 1))) else .inl (1, 0, 0, (tpi (tpi M b 4 ((tgi M b 4) + 1)) b 5 ((tgi (tpi M b 4 ((tgi M b 4) + 1)) b 5) - 1))))) else (if (f_X6_isLow (tpi M b 4 ((tgi M b 4) + 1)) b) = 0 then .inl (0, 0, 0, (tpi M b 4 ((tgi M b 4) + 1))) else .inl (1, 0, 0, (tpi M b 4 ((tgi M b 4) + 1))))) else (if ((tgi (tpi (f_X0_countDown M b) b 4 ((tgi (f_X0_countDown M b) b 4) + 1)) b 4) - (tgi (tpi (f_X0_countDown M b) b 4 ((tgi (f_X0_countDown M b) b 4) + 1)) b 4) / 5 * 5) = 0 then (if (tgi (tpi (f_X0_countDown M b) b 4 ((tgi (f_X0_countDown M b) b 4) + 1)) b 5) ≤ 0 then (if (f_X6_isLow (tpi (f_X0_countDown M b) b 4 ((tgi (f_X0_countDown M b) b 4) + 1)) b) = 0 then .inl (0, 0, 0, (tpi (f_X0_countDown M b) b 4 ((tgi (f_X0_countDown M b) b 4) + 1))) else .inl (1, 0, 0, (tpi (f_X0_countDown M b) b 4 ((tgi (f_X0_countDown M b) b 4) + 1)))) else (if (f_X6_isLow (tpi (tpi (f_X0_countDown M b) b 4 ((tgi (f_X0_countDown M b) b 4) + 1)) b 5 ((tgi (tpi (f_X0_countDown M b) b 4 ((tgi (f_X0_countDown M b) b 4) + 1)) b 5) - 1)) b) = 0 then .inl (0, 0, 0, (tpi (tpi (f_X0_countDown M b) b 4 ((tgi (f_X0_countDown M b) b 4) + 1)) b 5 ((tgi (tpi (f_X0_countDown M b) b 4 ((tgi (f_X0_countDown M b) b 4) + 1)) b 5) - 1))) else .inl (1, 0, 0, (tpi (tpi (f_X0_countDown M b) b 4 ((tgi (f_X0_countDown M b) b 4) + 1)) b 5 ((tgi (tpi (f_X0_countDown M b) b 4 ((tgi (f_X0_countDown M b) b 4) + 1)) b 5) - 1))))) else (if (f_X6_isLow (tpi (f_X0_countDown M b) b 4 ((tgi (f_X0_countDown M b) b 4) + 1)) b) = 0 then .inl (0, 0, 0, (tpi (f_X0_countDown M b) b 4 ((tgi (f_X0_countDown M b) b 4) + 1))) else .inl (1, 0, 0, (tpi (f_X0_countDown M b) b 4 ((tgi (f_X0_countDown M b) b 4) + 1))))))
theorem m_X6_minute (G : tvG) (M : tvM) {b : Nat} (hb : tvSB b) (n : Nat) (r : (Int32 × tvM)) (hs : tvIter (s_X6_minute b) n (e_X6_minute M b) = some r) : tvRun G yX6_minute cX6_minute 3 (some .int) 4 0 0 tvP0 tvP0 [.ref (G.2.1 + b)] M (.inl (some (.int r.1))) r.2 := by
  refine tvRun.of yk_X6_minute rfl [some (.ref (G.2.1 + b)), none, none] rfl (Nat.le_of_ble_eq_true rfl) ?_
  intro E hG C hQ; subst hG
  have K : ∀ (n : Nat) (q : Nat × Int32 × Int32 × tvM), tvIter (s_X6_minute b) n (.inl q) = some r → (q.1 = 0 → tv_W E tvP0 0 0 q.2.2.2 88 [some (.ref (E.G.2.1 + b)), some (.int q.2.1), some (.int q.2.2.1)] []) ∧ (q.1 = 1 → tv_W E tvP0 0 0 q.2.2.2 61 [some (.ref (E.G.2.1 + b)), some (.int q.2.1), some (.int q.2.2.1)] []) := by
    intro n
    induction n with
    | zero => intro q hq; exact (tvIter_0 hq).elim
    | succ n ih =>
      intro q hq
      obtain ⟨j, y1, y2, M⟩ := q
      refine ⟨fun hj => ?_, fun hj => ?_⟩
      · have hj : j = 0 := hj; subst hj
        have hs : tvIter (s_X6_minute b) n (sb_X6_minute b (0 : Nat) y1 y2 M) = some r := tvIter_go hq
        refine tv_iload_n C dk_X6_minute_88 rfl ?_
        refine tv_aload_n C dk_X6_minute_89 rfl ?_
        refine tv_getR (r := (b + 6)) C dk_X6_minute_90 fl_RX6_28 (tvSB_sh hb 0 (by decide)).2 (tvSB_sh hb 0 (by decide)).1 (tvSB_rho hb (0, 2, 6) (by decide)) (fun _ _ _ _ => rfl) ?_
        refine tv_getI C dk_X6_minute_93 fl_RX6_79 (tvSB_sh hb 6 (by decide)).2 (tvSB_sh hb 6 (by decide)).1 (fun _ _ _ _ => rfl) ?_
        refine tv_icmp_ge C dk_X6_minute_96 (fun h101 => ?_) (fun h101 => ?_)
        · refine tv_iload_n C dk_X6_minute_126 rfl ?_
          exact tv_iret C hQ dk_X6_minute_127 rfl (by rw [sb_X6_minute, if_pos rfl, if_pos h101] at hs; rw [← tvIter_out hs]) (by rw [sb_X6_minute, if_pos rfl, if_pos h101] at hs; rw [← tvIter_out hs])
        refine tv_aload_n C dk_X6_minute_99 rfl ?_
        refine tv_getR (r := (b + 6)) C dk_X6_minute_100 fl_RX6_28 (tvSB_sh hb 0 (by decide)).2 (tvSB_sh hb 0 (by decide)).1 (tvSB_rho hb (0, 2, 6) (by decide)) (fun _ _ _ _ => rfl) ?_
        refine tv_iload_n C dk_X6_minute_103 rfl ?_
        refine tv_aload_n C dk_X6_minute_104 rfl ?_
        refine tv_getI C dk_X6_minute_105 fl_RX6_52 (tvSB_sh hb 0 (by decide)).2 (tvSB_sh hb 0 (by decide)).1 (fun _ _ _ _ => rfl) ?_
        refine tv_cV1 C dk_X6_minute_108 ml_RX6_210 yk_X0_isOverdue yi_X0_isOverdue (m_X0_isOverdue _ M hb y2 (tgi M b 4)) (tvSB_sh hb 6 (by decide)).2 (tvSB_sh hb 6 (by decide)).1 rfl rfl rfl (Nat.le_of_ble_eq_true rfl) (Nat.le_of_ble_eq_true rfl) (Nat.le_of_ble_eq_true rfl) (Nat.le_of_ble_eq_true rfl) (Nat.le_of_ble_eq_true rfl) ?_
        refine tv_if_eq C dk_X6_minute_111 (fun h102 => ?_) (fun h102 => ?_)
        · refine tv_iinc (v := (y2 + 1)) (L' := [_, _, _]) (hn := by decide) (hlt := (Nat.le_of_ble_eq_true rfl)) (hno := rfl) C dk_X6_minute_120 rfl rfl rfl ?_
          refine tv_goto C dk_X6_minute_123 ?_
          exact (ih (0, y1, (y2 + 1), M) (by rw [sb_X6_minute, if_pos rfl, if_neg h101, if_pos h102] at hs; exact hs)).1 rfl
        refine tv_aload_n C dk_X6_minute_114 rfl ?_
        refine tv_iload_n C dk_X6_minute_115 rfl ?_
        refine tv_cV1 C dk_X6_minute_116 ml_RX6_152 yk_X6_shut yi_X6_shut (m_X6_shut _ M hb y2) (tvSB_sh hb 0 (by decide)).2 (tvSB_sh hb 0 (by decide)).1 rfl rfl rfl (Nat.le_of_ble_eq_true rfl) (Nat.le_of_ble_eq_true rfl) (Nat.le_of_ble_eq_true rfl) (Nat.le_of_ble_eq_true rfl) (Nat.le_of_ble_eq_true rfl) ?_
        refine tv_pop C dk_X6_minute_119 rfl ?_
        refine tv_iinc (v := (y2 + 1)) (L' := [_, _, _]) (hn := by decide) (hlt := (Nat.le_of_ble_eq_true rfl)) (hno := rfl) C dk_X6_minute_120 rfl rfl rfl ?_
        refine tv_goto C dk_X6_minute_123 ?_
        exact (ih (0, y1, (y2 + 1), (f_X6_shut M b y2).2) (by rw [sb_X6_minute, if_pos rfl, if_neg h101, if_neg h102] at hs; exact hs)).1 rfl
      · have hj : j = 1 := hj; subst hj
        have hs : tvIter (s_X6_minute b) n (sb_X6_minute b (1 : Nat) y1 y2 M) = some r := tvIter_go hq
        refine tv_iload_n C dk_X6_minute_61 rfl ?_
        refine tv_aload_n C dk_X6_minute_62 rfl ?_
        refine tv_getR (r := (b + 6)) C dk_X6_minute_63 fl_RX6_28 (tvSB_sh hb 0 (by decide)).2 (tvSB_sh hb 0 (by decide)).1 (tvSB_rho hb (0, 2, 6) (by decide)) (fun _ _ _ _ => rfl) ?_
        refine tv_getI C dk_X6_minute_66 fl_RX6_79 (tvSB_sh hb 6 (by decide)).2 (tvSB_sh hb 6 (by decide)).1 (fun _ _ _ _ => rfl) ?_
        refine tv_icmp_ge C dk_X6_minute_69 (fun h201 => ?_) (fun h201 => ?_)
        · refine tv_iconst (v := 0) C dk_X6_minute_86 (by decide) ?_
          refine tv_istore_n (L' := [_, _, _]) (hn := by decide) (hlt := (Nat.le_of_ble_eq_true rfl)) (hno := rfl) C dk_X6_minute_87 rfl ?_
          exact (ih (0, y1, 0, M) (by rw [sb_X6_minute, if_neg (by decide), if_pos h201] at hs; exact hs)).1 rfl
        refine tv_iload_n C dk_X6_minute_72 rfl ?_
        refine tv_aload_n C dk_X6_minute_73 rfl ?_
        refine tv_iload_n C dk_X6_minute_74 rfl ?_
        refine tv_cV1 C dk_X6_minute_75 ml_RX6_173 yk_X6_openIfDue yi_X6_openIfDue (m_X6_openIfDue _ M hb y2) (tvSB_sh hb 0 (by decide)).2 (tvSB_sh hb 0 (by decide)).1 rfl rfl rfl (Nat.le_of_ble_eq_true rfl) (Nat.le_of_ble_eq_true rfl) (Nat.le_of_ble_eq_true rfl) (Nat.le_of_ble_eq_true rfl) (Nat.le_of_ble_eq_true rfl) ?_
        refine tv_iadd C dk_X6_minute_78 ?_
        refine tv_istore_n (L' := [_, _, _]) (hn := by decide) (hlt := (Nat.le_of_ble_eq_true rfl)) (hno := rfl) C dk_X6_minute_79 rfl ?_
        refine tv_iinc (v := (y2 + 1)) (L' := [_, _, _]) (hn := by decide) (hlt := (Nat.le_of_ble_eq_true rfl)) (hno := rfl) C dk_X6_minute_80 rfl rfl rfl ?_
        refine tv_goto C dk_X6_minute_83 ?_
        exact (ih (1, (y1 + ((f_X6_openIfDue M b y2).1)), (y2 + 1), (f_X6_openIfDue M b y2).2) (by rw [sb_X6_minute, if_neg (by decide), if_neg h201] at hs; exact hs)).2 rfl
  refine tv_aload_n C dk_X6_minute_0 rfl ?_
  refine tv_cV1 C dk_X6_minute_1 ml_RX6_169 yk_X6_isLow yi_X6_isLow (m_X6_isLow _ M hb) (tvSB_sh hb 0 (by decide)).2 (tvSB_sh hb 0 (by decide)).1 rfl rfl rfl (Nat.le_of_ble_eq_true rfl) (Nat.le_of_ble_eq_true rfl) (Nat.le_of_ble_eq_true rfl) (Nat.le_of_ble_eq_true rfl) (Nat.le_of_ble_eq_true rfl) ?_
  refine tv_if_eq C dk_X6_minute_4 (fun h1 => ?_) (fun h1 => ?_)
  · refine tv_aload_n C dk_X6_minute_14 rfl ?_
    refine tv_dup C dk_X6_minute_15 rfl ?_
    refine tv_getI C dk_X6_minute_16 fl_RX6_52 (tvSB_sh hb 0 (by decide)).2 (tvSB_sh hb 0 (by decide)).1 (fun _ _ _ _ => rfl) ?_
    refine tv_iconst (v := 1) C dk_X6_minute_19 (by decide) ?_
    refine tv_iadd C dk_X6_minute_20 ?_
    refine tv_putI C tvP0_ex dk_X6_minute_21 fl_RX6_52 fw_6_4 (tvSB_sh hb 0 (by decide)).2 (tvSB_sh hb 0 (by decide)).1 rfl (fun _ _ _ _ _ => rfl) rfl rfl ?_
    refine tv_aload_n C dk_X6_minute_24 rfl ?_
    refine tv_getI C dk_X6_minute_25 fl_RX6_52 (tvSB_sh hb 0 (by decide)).2 (tvSB_sh hb 0 (by decide)).1 (fun _ _ _ _ => rfl) ?_
    refine tv_iconst (v := 5) C dk_X6_minute_28 (by decide) ?_
    refine tv_irem C dk_X6_minute_29 (by decide) ?_
    refine tv_if_ne C dk_X6_minute_30 (fun h2 => ?_) (fun h2 => ?_)
    · refine tv_iconst (v := 0) C dk_X6_minute_50 (by decide) ?_
      refine tv_istore_n (L' := [_, _, _]) (hn := by decide) (hlt := (Nat.le_of_ble_eq_true rfl)) (hno := rfl) C dk_X6_minute_51 rfl ?_
      refine tv_aload_n C dk_X6_minute_52 rfl ?_
      refine tv_cV1 C dk_X6_minute_53 ml_RX6_169 yk_X6_isLow yi_X6_isLow (m_X6_isLow _ (tpi M b 4 ((tgi M b 4) + 1)) hb) (tvSB_sh hb 0 (by decide)).2 (tvSB_sh hb 0 (by decide)).1 rfl rfl rfl (Nat.le_of_ble_eq_true rfl) (Nat.le_of_ble_eq_true rfl) (Nat.le_of_ble_eq_true rfl) (Nat.le_of_ble_eq_true rfl) (Nat.le_of_ble_eq_true rfl) ?_
      refine tv_if_eq C dk_X6_minute_56 (fun h3 => ?_) (fun h3 => ?_)
      · refine tv_iconst (v := 0) C dk_X6_minute_86 (by decide) ?_
        refine tv_istore_n (L' := [_, _, _]) (hn := by decide) (hlt := (Nat.le_of_ble_eq_true rfl)) (hno := rfl) C dk_X6_minute_87 rfl ?_
        exact (K n (0, 0, 0, (tpi M b 4 ((tgi M b 4) + 1))) (by rw [e_X6_minute, if_pos h1, if_neg h2, if_pos h3] at hs; exact hs)).1 rfl
      refine tv_iconst (v := 0) C dk_X6_minute_59 (by decide) ?_
      refine tv_istore_n (L' := [_, _, _]) (hn := by decide) (hlt := (Nat.le_of_ble_eq_true rfl)) (hno := rfl) C dk_X6_minute_60 rfl ?_
      exact (K n (1, 0, 0, (tpi M b 4 ((tgi M b 4) + 1))) (by rw [e_X6_minute, if_pos h1, if_neg h2, if_neg h3] at hs; exact hs)).2 rfl
    refine tv_aload_n C dk_X6_minute_33 rfl ?_
    refine tv_getI C dk_X6_minute_34 fl_RX6_56 (tvSB_sh hb 0 (by decide)).2 (tvSB_sh hb 0 (by decide)).1 (fun _ _ _ _ => rfl) ?_
    refine tv_if_le C dk_X6_minute_37 (fun h4 => ?_) (fun h4 => ?_)
    · refine tv_iconst (v := 0) C dk_X6_minute_50 (by decide) ?_
      refine tv_istore_n (L' := [_, _, _]) (hn := by decide) (hlt := (Nat.le_of_ble_eq_true rfl)) (hno := rfl) C dk_X6_minute_51 rfl ?_
      refine tv_aload_n C dk_X6_minute_52 rfl ?_
      refine tv_cV1 C dk_X6_minute_53 ml_RX6_169 yk_X6_isLow yi_X6_isLow (m_X6_isLow _ (tpi M b 4 ((tgi M b 4) + 1)) hb) (tvSB_sh hb 0 (by decide)).2 (tvSB_sh hb 0 (by decide)).1 rfl rfl rfl (Nat.le_of_ble_eq_true rfl) (Nat.le_of_ble_eq_true rfl) (Nat.le_of_ble_eq_true rfl) (Nat.le_of_ble_eq_true rfl) (Nat.le_of_ble_eq_true rfl) ?_
      refine tv_if_eq C dk_X6_minute_56 (fun h5 => ?_) (fun h5 => ?_)
      · refine tv_iconst (v := 0) C dk_X6_minute_86 (by decide) ?_
        refine tv_istore_n (L' := [_, _, _]) (hn := by decide) (hlt := (Nat.le_of_ble_eq_true rfl)) (hno := rfl) C dk_X6_minute_87 rfl ?_
        exact (K n (0, 0, 0, (tpi M b 4 ((tgi M b 4) + 1))) (by rw [e_X6_minute, if_pos h1, if_pos h2, if_pos h4, if_pos h5] at hs; exact hs)).1 rfl
      refine tv_iconst (v := 0) C dk_X6_minute_59 (by decide) ?_
      refine tv_istore_n (L' := [_, _, _]) (hn := by decide) (hlt := (Nat.le_of_ble_eq_true rfl)) (hno := rfl) C dk_X6_minute_60 rfl ?_
      exact (K n (1, 0, 0, (tpi M b 4 ((tgi M b 4) + 1))) (by rw [e_X6_minute, if_pos h1, if_pos h2, if_pos h4, if_neg h5] at hs; exact hs)).2 rfl
    refine tv_aload_n C dk_X6_minute_40 rfl ?_
    refine tv_dup C dk_X6_minute_41 rfl ?_
    refine tv_getI C dk_X6_minute_42 fl_RX6_56 (tvSB_sh hb 0 (by decide)).2 (tvSB_sh hb 0 (by decide)).1 (fun _ _ _ _ => rfl) ?_
    refine tv_iconst (v := 1) C dk_X6_minute_45 (by decide) ?_
    refine tv_isub C dk_X6_minute_46 ?_
    refine tv_putI C tvP0_ex dk_X6_minute_47 fl_RX6_56 fw_6_5 (tvSB_sh hb 0 (by decide)).2 (tvSB_sh hb 0 (by decide)).1 rfl (fun _ _ _ _ _ => rfl) rfl rfl ?_
    refine tv_iconst (v := 0) C dk_X6_minute_50 (by decide) ?_
    refine tv_istore_n (L' := [_, _, _]) (hn := by decide) (hlt := (Nat.le_of_ble_eq_true rfl)) (hno := rfl) C dk_X6_minute_51 rfl ?_
    refine tv_aload_n C dk_X6_minute_52 rfl ?_
    refine tv_cV1 C dk_X6_minute_53 ml_RX6_169 yk_X6_isLow yi_X6_isLow (m_X6_isLow _ (tpi (tpi M b 4 ((tgi M b 4) + 1)) b 5 ((tgi (tpi M b 4 ((tgi M b 4) + 1)) b 5) - 1)) hb) (tvSB_sh hb 0 (by decide)).2 (tvSB_sh hb 0 (by decide)).1 rfl rfl rfl (Nat.le_of_ble_eq_true rfl) (Nat.le_of_ble_eq_true rfl) (Nat.le_of_ble_eq_true rfl) (Nat.le_of_ble_eq_true rfl) (Nat.le_of_ble_eq_true rfl) ?_
    refine tv_if_eq C dk_X6_minute_56 (fun h6 => ?_) (fun h6 => ?_)
    · refine tv_iconst (v := 0) C dk_X6_minute_86 (by decide) ?_
      refine tv_istore_n (L' := [_, _, _]) (hn := by decide) (hlt := (Nat.le_of_ble_eq_true rfl)) (hno := rfl) C dk_X6_minute_87 rfl ?_
      exact (K n (0, 0, 0, (tpi (tpi M b 4 ((tgi M b 4) + 1)) b 5 ((tgi (tpi M b 4 ((tgi M b 4) + 1)) b 5) - 1))) (by rw [e_X6_minute, if_pos h1, if_pos h2, if_neg h4, if_pos h6] at hs; exact hs)).1 rfl
    refine tv_iconst (v := 0) C dk_X6_minute_59 (by decide) ?_
    refine tv_istore_n (L' := [_, _, _]) (hn := by decide) (hlt := (Nat.le_of_ble_eq_true rfl)) (hno := rfl) C dk_X6_minute_60 rfl ?_
    exact (K n (1, 0, 0, (tpi (tpi M b 4 ((tgi M b 4) + 1)) b 5 ((tgi (tpi M b 4 ((tgi M b 4) + 1)) b 5) - 1))) (by rw [e_X6_minute, if_pos h1, if_pos h2, if_neg h4, if_neg h6] at hs; exact hs)).2 rfl
  refine tv_aload_n C dk_X6_minute_7 rfl ?_
  refine tv_getR (r := (b + 6)) C dk_X6_minute_8 fl_RX6_28 (tvSB_sh hb 0 (by decide)).2 (tvSB_sh hb 0 (by decide)).1 (tvSB_rho hb (0, 2, 6) (by decide)) (fun _ _ _ _ => rfl) ?_
  refine tv_cV0 C dk_X6_minute_11 ml_RX6_207 yk_X0_countDown yi_X0_countDown (n_X0_countDown _ M hb) (tvSB_sh hb 6 (by decide)).2 (tvSB_sh hb 6 (by decide)).1 rfl rfl rfl (Nat.le_of_ble_eq_true rfl) (Nat.le_of_ble_eq_true rfl) (Nat.le_of_ble_eq_true rfl) (Nat.le_of_ble_eq_true rfl) (Nat.le_of_ble_eq_true rfl) ?_
  refine tv_aload_n C dk_X6_minute_14 rfl ?_
  refine tv_dup C dk_X6_minute_15 rfl ?_
  refine tv_getI C dk_X6_minute_16 fl_RX6_52 (tvSB_sh hb 0 (by decide)).2 (tvSB_sh hb 0 (by decide)).1 (fun _ _ _ _ => rfl) ?_
  refine tv_iconst (v := 1) C dk_X6_minute_19 (by decide) ?_
  refine tv_iadd C dk_X6_minute_20 ?_
  refine tv_putI C tvP0_ex dk_X6_minute_21 fl_RX6_52 fw_6_4 (tvSB_sh hb 0 (by decide)).2 (tvSB_sh hb 0 (by decide)).1 rfl (fun _ _ _ _ _ => rfl) rfl rfl ?_
  refine tv_aload_n C dk_X6_minute_24 rfl ?_
  refine tv_getI C dk_X6_minute_25 fl_RX6_52 (tvSB_sh hb 0 (by decide)).2 (tvSB_sh hb 0 (by decide)).1 (fun _ _ _ _ => rfl) ?_
  refine tv_iconst (v := 5) C dk_X6_minute_28 (by decide) ?_
  refine tv_irem C dk_X6_minute_29 (by decide) ?_
  refine tv_if_ne C dk_X6_minute_30 (fun h7 => ?_) (fun h7 => ?_)
  · refine tv_iconst (v := 0) C dk_X6_minute_50 (by decide) ?_
    refine tv_istore_n (L' := [_, _, _]) (hn := by decide) (hlt := (Nat.le_of_ble_eq_true rfl)) (hno := rfl) C dk_X6_minute_51 rfl ?_
    refine tv_aload_n C dk_X6_minute_52 rfl ?_
    refine tv_cV1 C dk_X6_minute_53 ml_RX6_169 yk_X6_isLow yi_X6_isLow (m_X6_isLow _ (tpi (f_X0_countDown M b) b 4 ((tgi (f_X0_countDown M b) b 4) + 1)) hb) (tvSB_sh hb 0 (by decide)).2 (tvSB_sh hb 0 (by decide)).1 rfl rfl rfl (Nat.le_of_ble_eq_true rfl) (Nat.le_of_ble_eq_true rfl) (Nat.le_of_ble_eq_true rfl) (Nat.le_of_ble_eq_true rfl) (Nat.le_of_ble_eq_true rfl) ?_
    refine tv_if_eq C dk_X6_minute_56 (fun h8 => ?_) (fun h8 => ?_)
    · refine tv_iconst (v := 0) C dk_X6_minute_86 (by decide) ?_
      refine tv_istore_n (L' := [_, _, _]) (hn := by decide) (hlt := (Nat.le_of_ble_eq_true rfl)) (hno := rfl) C dk_X6_minute_87 rfl ?_
      exact (K n (0, 0, 0, (tpi (f_X0_countDown M b) b 4 ((tgi (f_X0_countDown M b) b 4) + 1))) (by rw [e_X6_minute, if_neg h1, if_neg h7, if_pos h8] at hs; exact hs)).1 rfl
    refine tv_iconst (v := 0) C dk_X6_minute_59 (by decide) ?_
    refine tv_istore_n (L' := [_, _, _]) (hn := by decide) (hlt := (Nat.le_of_ble_eq_true rfl)) (hno := rfl) C dk_X6_minute_60 rfl ?_
    exact (K n (1, 0, 0, (tpi (f_X0_countDown M b) b 4 ((tgi (f_X0_countDown M b) b 4) + 1))) (by rw [e_X6_minute, if_neg h1, if_neg h7, if_neg h8] at hs; exact hs)).2 rfl
  refine tv_aload_n C dk_X6_minute_33 rfl ?_
  refine tv_getI C dk_X6_minute_34 fl_RX6_56 (tvSB_sh hb 0 (by decide)).2 (tvSB_sh hb 0 (by decide)).1 (fun _ _ _ _ => rfl) ?_
  refine tv_if_le C dk_X6_minute_37 (fun h9 => ?_) (fun h9 => ?_)
  · refine tv_iconst (v := 0) C dk_X6_minute_50 (by decide) ?_
    refine tv_istore_n (L' := [_, _, _]) (hn := by decide) (hlt := (Nat.le_of_ble_eq_true rfl)) (hno := rfl) C dk_X6_minute_51 rfl ?_
    refine tv_aload_n C dk_X6_minute_52 rfl ?_
    refine tv_cV1 C dk_X6_minute_53 ml_RX6_169 yk_X6_isLow yi_X6_isLow (m_X6_isLow _ (tpi (f_X0_countDown M b) b 4 ((tgi (f_X0_countDown M b) b 4) + 1)) hb) (tvSB_sh hb 0 (by decide)).2 (tvSB_sh hb 0 (by decide)).1 rfl rfl rfl (Nat.le_of_ble_eq_true rfl) (Nat.le_of_ble_eq_true rfl) (Nat.le_of_ble_eq_true rfl) (Nat.le_of_ble_eq_true rfl) (Nat.le_of_ble_eq_true rfl) ?_
    refine tv_if_eq C dk_X6_minute_56 (fun h10 => ?_) (fun h10 => ?_)
    · refine tv_iconst (v := 0) C dk_X6_minute_86 (by decide) ?_
      refine tv_istore_n (L' := [_, _, _]) (hn := by decide) (hlt := (Nat.le_of_ble_eq_true rfl)) (hno := rfl) C dk_X6_minute_87 rfl ?_
      exact (K n (0, 0, 0, (tpi (f_X0_countDown M b) b 4 ((tgi (f_X0_countDown M b) b 4) + 1))) (by rw [e_X6_minute, if_neg h1, if_pos h7, if_pos h9, if_pos h10] at hs; exact hs)).1 rfl
    refine tv_iconst (v := 0) C dk_X6_minute_59 (by decide) ?_
    refine tv_istore_n (L' := [_, _, _]) (hn := by decide) (hlt := (Nat.le_of_ble_eq_true rfl)) (hno := rfl) C dk_X6_minute_60 rfl ?_
    exact (K n (1, 0, 0, (tpi (f_X0_countDown M b) b 4 ((tgi (f_X0_countDown M b) b 4) + 1))) (by rw [e_X6_minute, if_neg h1, if_pos h7, if_pos h9, if_neg h10] at hs; exact hs)).2 rfl
  refine tv_aload_n C dk_X6_minute_40 rfl ?_
  refine tv_dup C dk_X6_minute_41 rfl ?_
  refine tv_getI C dk_X6_minute_42 fl_RX6_56 (tvSB_sh hb 0 (by decide)).2 (tvSB_sh hb 0 (by decide)).1 (fun _ _ _ _ => rfl) ?_
  refine tv_iconst (v := 1) C dk_X6_minute_45 (by decide) ?_
  refine tv_isub C dk_X6_minute_46 ?_
  refine tv_putI C tvP0_ex dk_X6_minute_47 fl_RX6_56 fw_6_5 (tvSB_sh hb 0 (by decide)).2 (tvSB_sh hb 0 (by decide)).1 rfl (fun _ _ _ _ _ => rfl) rfl rfl ?_
  refine tv_iconst (v := 0) C dk_X6_minute_50 (by decide) ?_
  refine tv_istore_n (L' := [_, _, _]) (hn := by decide) (hlt := (Nat.le_of_ble_eq_true rfl)) (hno := rfl) C dk_X6_minute_51 rfl ?_
  refine tv_aload_n C dk_X6_minute_52 rfl ?_
  refine tv_cV1 C dk_X6_minute_53 ml_RX6_169 yk_X6_isLow yi_X6_isLow (m_X6_isLow _ (tpi (tpi (f_X0_countDown M b) b 4 ((tgi (f_X0_countDown M b) b 4) + 1)) b 5 ((tgi (tpi (f_X0_countDown M b) b 4 ((tgi (f_X0_countDown M b) b 4) + 1)) b 5) - 1)) hb) (tvSB_sh hb 0 (by decide)).2 (tvSB_sh hb 0 (by decide)).1 rfl rfl rfl (Nat.le_of_ble_eq_true rfl) (Nat.le_of_ble_eq_true rfl) (Nat.le_of_ble_eq_true rfl) (Nat.le_of_ble_eq_true rfl) (Nat.le_of_ble_eq_true rfl) ?_
  refine tv_if_eq C dk_X6_minute_56 (fun h11 => ?_) (fun h11 => ?_)
  · refine tv_iconst (v := 0) C dk_X6_minute_86 (by decide) ?_
    refine tv_istore_n (L' := [_, _, _]) (hn := by decide) (hlt := (Nat.le_of_ble_eq_true rfl)) (hno := rfl) C dk_X6_minute_87 rfl ?_
    exact (K n (0, 0, 0, (tpi (tpi (f_X0_countDown M b) b 4 ((tgi (f_X0_countDown M b) b 4) + 1)) b 5 ((tgi (tpi (f_X0_countDown M b) b 4 ((tgi (f_X0_countDown M b) b 4) + 1)) b 5) - 1))) (by rw [e_X6_minute, if_neg h1, if_pos h7, if_neg h9, if_pos h11] at hs; exact hs)).1 rfl
  refine tv_iconst (v := 0) C dk_X6_minute_59 (by decide) ?_
  refine tv_istore_n (L' := [_, _, _]) (hn := by decide) (hlt := (Nat.le_of_ble_eq_true rfl)) (hno := rfl) C dk_X6_minute_60 rfl ?_
  exact (K n (1, 0, 0, (tpi (tpi (f_X0_countDown M b) b 4 ((tgi (f_X0_countDown M b) b 4) + 1)) b 5 ((tgi (tpi (f_X0_countDown M b) b 4 ((tgi (f_X0_countDown M b) b 4) + 1)) b 5) - 1))) (by rw [e_X6_minute, if_neg h1, if_pos h7, if_neg h9, if_neg h11] at hs; exact hs)).2 rfl
def tvMiA (M : tvM) (b : Nat) : tvM := if f_X6_isLow M b = 0 then M else f_X0_countDown M b
def tvMiT (N : tvM) (b : Nat) : tvM := if tgi N b 4 - tgi N b 4 / 5 * 5 = 0 then (if tgi N b 5 ≤ 0 then N else tpi N b 5 (tgi N b 5 - 1)) else N
def tvMi (M : tvM) (b : Nat) : tvM := tvMiT (tpi (tvMiA M b) b 4 (tgi (tvMiA M b) b 4 + 1)) b
def tvOp (M : tvM) (b : Nat) : Nat → Int32 × tvM
  | 0 => (0, M)
  | i + 1 => ((tvOp M b i).1 + (f_X6_openIfDue (tvOp M b i).2 b (nI i)).1, (f_X6_openIfDue (tvOp M b i).2 b (nI i)).2)
def tvSt (M : tvM) (b : Nat) : Nat → tvM
  | 0 => M
  | i + 1 => if f_X0_isOverdue (tvSt M b i) b (nI i) (tgi (tvSt M b i) b 4) = 0 then tvSt M b i else (f_X6_shut (tvSt M b i) b (nI i)).2
theorem tvOp_at (M : tvM) (b : Nat) (i : Nat) {a k : Nat} (h : a ≠ b + 10) (h2 : a ≠ b + 13) (h3 : a < b + 16) : tgi (tvOp M b i).2 a k = tgi M a k := by
  induction i with
  | zero => rfl
  | succ i ih => simp only [tvOp, f_X6_openIfDue_at h h2 h3, ih]
theorem tvSt_at (M : tvM) (b : Nat) (i : Nat) {a k : Nat} (h : a ≠ b + 10) (h2 : a ≠ b + 13) (h3 : a < b + 16) : tgi (tvSt M b i) a k = tgi M a k := by
  induction i with
  | zero => rfl
  | succ i ih =>
    simp only [tvSt]
    split
    · exact ih
    · rw [f_X6_shut_at h h2 h3, ih]
def tvMo (M : tvM) (b : Nat) : Int32 × tvM := if f_X6_isLow M b = 0 then (0, M) else tvOp M b (tgi M (b + 6) 0).toNatClampNeg
def tvMs (M : tvM) (b : Nat) : tvM := tvSt M b (tgi M (b + 6) 0).toNatClampNeg
def f_X6_minute (M : tvM) (b : Nat) : Int32 × tvM := ((tvMo (tvMi M b) b).1, tvMs (tvMo (tvMi M b) b).2 b)
def tvEn2 (M : tvM) (b : Nat) : (Nat × Int32 × Int32 × tvM) ⊕ (Int32 × tvM) := if f_X6_isLow M b = 0 then .inl (0, 0, 0, M) else .inl (1, 0, 0, M)
theorem e_X6_minute_eq (M : tvM) (b : Nat) : e_X6_minute M b = tvEn2 (tvMi M b) b := by
  unfold e_X6_minute tvMi tvMiA
  by_cases h1 : f_X6_isLow M b = 0
  · rw [if_pos h1, if_pos h1]
    unfold tvMiT
    generalize tpi M b 4 (tgi M b 4 + 1) = N
    split
    · split
      · rfl
      · rfl
    · rfl
  · rw [if_neg h1, if_neg h1]
    unfold tvMiT
    generalize tpi (f_X0_countDown M b) b 4 (tgi (f_X0_countDown M b) b 4 + 1) = N
    split
    · split
      · rfl
      · rfl
    · rfl
theorem s_X6_minute_1 (b : Nat) (y : Int32) (M : tvM) : ∃ n, tvIter (s_X6_minute b) n (.inl (0, y, 0, M)) = some (y, tvMs M b) := by
  refine tvIter_for (s_X6_minute b) (fun i => (0, y, nI i, tvSt M b i)) (tgi M (b + 6) 0).toNatClampNeg _ (fun i hi => ?_) ?_
  · have h0 : ¬ tgi (tvSt M b i) (b + 6) 0 ≤ nI i := by rw [tvSt_at M b i (by omega) (by omega) (by omega)]; exact tv_nle hi
    simp only [s_X6_minute, sb_X6_minute, if_true, if_neg h0, tvSt, nI_1]
    split <;> rfl
  · have h0 : tgi (tvSt M b (tgi M (b + 6) 0).toNatClampNeg) (b + 6) 0 ≤ nI (tgi M (b + 6) 0).toNatClampNeg := by rw [tvSt_at M b _ (by omega) (by omega) (by omega)]; exact tv_le
    simp only [s_X6_minute, sb_X6_minute, if_true, if_pos h0, tvMs]
theorem r_X6_minute (M : tvM) (b : Nat) : ∃ n, tvIter (s_X6_minute b) n (e_X6_minute M b) = some (f_X6_minute M b) := by
  rw [e_X6_minute_eq]
  unfold tvEn2 f_X6_minute tvMo
  generalize tvMi M b = N
  split
  · exact s_X6_minute_1 b 0 N
  · refine tvIter_seg (s_X6_minute b) (fun i => (1, (tvOp N b i).1, nI i, (tvOp N b i).2)) (tgi N (b + 6) 0).toNatClampNeg _ (fun i hi => ?_) (tvIter_1 (s' := (0, (tvOp N b (tgi N (b + 6) 0).toNatClampNeg).1, 0, (tvOp N b (tgi N (b + 6) 0).toNatClampNeg).2)) ?_ (s_X6_minute_1 b _ _))
    · have h0 : ¬ tgi (tvOp N b i).2 (b + 6) 0 ≤ nI i := by rw [tvOp_at N b i (by omega) (by omega) (by omega)]; exact tv_nle hi
      simp only [s_X6_minute, sb_X6_minute, if_neg (show ¬ (1 : Nat) = 0 by decide), if_neg h0, tvOp, nI_1]
    · have h0 : tgi (tvOp N b (tgi N (b + 6) 0).toNatClampNeg).2 (b + 6) 0 ≤ nI (tgi N (b + 6) 0).toNatClampNeg := by rw [tvOp_at N b _ (by omega) (by omega) (by omega)]; exact tv_le
      simp only [s_X6_minute, sb_X6_minute, if_neg (show ¬ (1 : Nat) = 0 by decide), if_pos h0]
theorem n_X6_minute (G : tvG) (M : tvM) {b : Nat} (hb : tvSB b) : tvRun G yX6_minute cX6_minute 3 (some .int) 4 0 0 tvP0 tvP0 [.ref (G.2.1 + b)] M (.inl (some (.int (f_X6_minute M b).1))) ((f_X6_minute M b).2) := by
  obtain ⟨n, hn⟩ := r_X6_minute M b 
  exact m_X6_minute G M hb n _ hn
/-- TideVault$State.letPass(I)I -/
def sb_X6_letPass (b : Nat) (x1 : Int32) (y2 : Int32) (y3 : Int32) (M : tvM) : (Int32 × Int32 × tvM) ⊕ (Int32 × tvM) := (if x1 ≤ y3 then .inr (y2, M) else .inl ((y2 + ((f_X6_minute M b).1)), (y3 + 1), (f_X6_minute M b).2))
def s_X6_letPass (b : Nat) (x1 : Int32) : (Int32 × Int32 × tvM) → (Int32 × Int32 × tvM) ⊕ (Int32 × tvM) := fun q => sb_X6_letPass b x1 q.1 q.2.1 q.2.2
def e_X6_letPass (M : tvM) (b : Nat) (x1 : Int32) : (Int32 × Int32 × tvM) ⊕ (Int32 × tvM) := .inl (0, 0, M)
theorem m_X6_letPass (G : tvG) (M : tvM) {b : Nat} (hb : tvSB b) (x1 : Int32) (n : Nat) (r : (Int32 × tvM)) (hs : tvIter (s_X6_letPass b x1) n (e_X6_letPass M b x1) = some r) : tvRun G yX6_letPass cX6_letPass 4 (some .int) 5 0 0 tvP0 tvP0 [.ref (G.2.1 + b), .int x1] M (.inl (some (.int r.1))) r.2 := by
  refine tvRun.of yk_X6_letPass rfl [some (.ref (G.2.1 + b)), some (.int x1), none, none] rfl (Nat.le_of_ble_eq_true rfl) ?_
  intro E hG C hQ; subst hG
  have K : ∀ (n : Nat) (q : Int32 × Int32 × tvM), tvIter (s_X6_letPass b x1) n (.inl q) = some r → tv_W E tvP0 0 0 q.2.2 4 [some (.ref (E.G.2.1 + b)), some (.int x1), some (.int q.1), some (.int q.2.1)] [] := by
    intro n
    induction n with
    | zero => intro q hq; exact (tvIter_0 hq).elim
    | succ n ih =>
      intro q hq
      obtain ⟨y2, y3, M⟩ := q
      have hs : tvIter (s_X6_letPass b x1) n (sb_X6_letPass b x1 y2 y3 M) = some r := tvIter_go hq
      refine tv_iload_n C dk_X6_letPass_4 rfl ?_
      refine tv_iload_n C dk_X6_letPass_5 rfl ?_
      refine tv_icmp_ge C dk_X6_letPass_6 (fun h101 => ?_) (fun h101 => ?_)
      · refine tv_iload_n C dk_X6_letPass_22 rfl ?_
        exact tv_iret C hQ dk_X6_letPass_23 rfl (by rw [sb_X6_letPass, if_pos h101] at hs; rw [← tvIter_out hs]) (by rw [sb_X6_letPass, if_pos h101] at hs; rw [← tvIter_out hs])
      refine tv_iload_n C dk_X6_letPass_9 rfl ?_
      refine tv_aload_n C dk_X6_letPass_10 rfl ?_
      refine tv_cV1 C dk_X6_letPass_11 ml_RX6_203 yk_X6_minute yi_X6_minute (n_X6_minute _ M hb) (tvSB_sh hb 0 (by decide)).2 (tvSB_sh hb 0 (by decide)).1 rfl rfl rfl (Nat.le_of_ble_eq_true rfl) (Nat.le_of_ble_eq_true rfl) (Nat.le_of_ble_eq_true rfl) (Nat.le_of_ble_eq_true rfl) (Nat.le_of_ble_eq_true rfl) ?_
      refine tv_iadd C dk_X6_letPass_14 ?_
      refine tv_istore_n (L' := [_, _, _, _]) (hn := by decide) (hlt := (Nat.le_of_ble_eq_true rfl)) (hno := rfl) C dk_X6_letPass_15 rfl ?_
      refine tv_iinc (v := (y3 + 1)) (L' := [_, _, _, _]) (hn := by decide) (hlt := (Nat.le_of_ble_eq_true rfl)) (hno := rfl) C dk_X6_letPass_16 rfl rfl rfl ?_
      refine tv_goto C dk_X6_letPass_19 ?_
      exact (ih ((y2 + ((f_X6_minute M b).1)), (y3 + 1), (f_X6_minute M b).2) (by rw [sb_X6_letPass, if_neg h101] at hs; exact hs))
  refine tv_iconst (v := 0) C dk_X6_letPass_0 (by decide) ?_
  refine tv_istore_n (L' := [_, _, _, _]) (hn := by decide) (hlt := (Nat.le_of_ble_eq_true rfl)) (hno := rfl) C dk_X6_letPass_1 rfl ?_
  refine tv_iconst (v := 0) C dk_X6_letPass_2 (by decide) ?_
  refine tv_istore_n (L' := [_, _, _, _]) (hn := by decide) (hlt := (Nat.le_of_ble_eq_true rfl)) (hno := rfl) C dk_X6_letPass_3 rfl ?_
  exact (K n (0, 0, M) (by rw [e_X6_letPass] at hs; exact hs))
def tvLp (M : tvM) (b : Nat) : Nat → Int32 × tvM
  | 0 => (0, M)
  | i + 1 => ((tvLp M b i).1 + (f_X6_minute (tvLp M b i).2 b).1, (f_X6_minute (tvLp M b i).2 b).2)
def f_X6_letPass (M : tvM) (b : Nat) (x1 : Int32) : Int32 × tvM := tvLp M b x1.toNatClampNeg
theorem r_X6_letPass (M : tvM) (b : Nat) (x1 : Int32) : ∃ n, tvIter (s_X6_letPass b x1) n (e_X6_letPass M b x1) = some (f_X6_letPass M b x1) := by
  refine tvIter_for (s_X6_letPass b x1) (fun i => ((tvLp M b i).1, nI i, (tvLp M b i).2)) x1.toNatClampNeg _ (fun i hi => ?_) ?_
  · simp only [s_X6_letPass, sb_X6_letPass, if_neg (tv_nle hi), tvLp, nI_1]
  · simp only [s_X6_letPass, sb_X6_letPass, if_pos tv_le, f_X6_letPass]
theorem n_X6_letPass (G : tvG) (M : tvM) {b : Nat} (hb : tvSB b) (x1 : Int32) : tvRun G yX6_letPass cX6_letPass 4 (some .int) 5 0 0 tvP0 tvP0 [.ref (G.2.1 + b), .int x1] M (.inl (some (.int (f_X6_letPass M b x1).1))) ((f_X6_letPass M b x1).2) := by
  obtain ⟨n, hn⟩ := r_X6_letPass M b x1 
  exact m_X6_letPass G M hb x1 n _ hn
/-- TideVault$State.searchOpening(I)I -/
def sb_X6_searchOpening (M : tvM) (b : Nat) (x1 : Int32) (y2 : Int32) (y3 : Int32) (y4 : Int32) (y5 : Int32) : (Int32 × Int32 × Int32 × Int32) ⊕ Int32 := (if y5 ≤ 0 then .inr (y4 + 1) else (if y3 ≤ (f_X7_lowByFormula M b (tgi M b 4) ((y4 + y5) + 1)) then .inl (y2, y3, y4, (y5 / 2)) else .inl (y2, y3, (y4 + y5), (y5 / 2))))
def s_X6_searchOpening (M : tvM) (b : Nat) (x1 : Int32) : (Int32 × Int32 × Int32 × Int32) → (Int32 × Int32 × Int32 × Int32) ⊕ Int32 := fun q => sb_X6_searchOpening M b x1 q.1 q.2.1 q.2.2.1 q.2.2.2
def e_X6_searchOpening (M : tvM) (b : Nat) (x1 : Int32) : (Int32 × Int32 × Int32 × Int32) ⊕ Int32 := (if (f_X0_remainingOf M b x1) = 0 then (if (f_X6_isLow M b) = 0 then .inl ((f_X0_remainingOf M b x1), ((f_X0_remainingOf M b x1) + 1), 0, 2048) else .inl ((f_X0_remainingOf M b x1), 2, 0, 2048)) else .inl ((f_X0_remainingOf M b x1), ((f_X0_remainingOf M b x1) + 1), 0, 2048))
theorem m_X6_searchOpening (G : tvG) (M : tvM) {b : Nat} (hb : tvSB b) (x1 : Int32) (n : Nat) (r : Int32) (hs : tvIter (s_X6_searchOpening M b x1) n (e_X6_searchOpening M b x1) = some r) : tvRun G yX6_searchOpening cX6_searchOpening 6 (some .int) 4 0 0 tvP0 tvP0 [.ref (G.2.1 + b), .int x1] M (.inl (some (.int r))) M := by
  refine tvRun.of yk_X6_searchOpening rfl [some (.ref (G.2.1 + b)), some (.int x1), none, none, none, none] rfl (Nat.le_of_ble_eq_true rfl) ?_
  intro E hG C hQ; subst hG
  have K : ∀ (n : Nat) (q : Int32 × Int32 × Int32 × Int32), tvIter (s_X6_searchOpening M b x1) n (.inl q) = some r → tv_W E tvP0 0 0 M 36 [some (.ref (E.G.2.1 + b)), some (.int x1), some (.int q.1), some (.int q.2.1), some (.int q.2.2.1), some (.int q.2.2.2)] [] := by
    intro n
    induction n with
    | zero => intro q hq; exact (tvIter_0 hq).elim
    | succ n ih =>
      intro q hq
      obtain ⟨y2, y3, y4, y5⟩ := q
      have hs : tvIter (s_X6_searchOpening M b x1) n (sb_X6_searchOpening M b x1 y2 y3 y4 y5) = some r := tvIter_go hq
      refine tv_iload C dk_X6_searchOpening_36 rfl ?_
      refine tv_if_le C dk_X6_searchOpening_38 (fun h101 => ?_) (fun h101 => ?_)
      · refine tv_iload C dk_X6_searchOpening_79 rfl ?_
        refine tv_iconst (v := 1) C dk_X6_searchOpening_81 (by decide) ?_
        refine tv_iadd C dk_X6_searchOpening_82 ?_
        exact tv_iret C hQ dk_X6_searchOpening_83 rfl (by rw [sb_X6_searchOpening, if_pos h101] at hs; rw [← tvIter_out hs]) rfl
      refine tv_aload_n C dk_X6_searchOpening_41 rfl ?_
      refine tv_getR (r := (b + 1)) C dk_X6_searchOpening_42 fl_RX6_12 (tvSB_sh hb 0 (by decide)).2 (tvSB_sh hb 0 (by decide)).1 (tvSB_rho hb (0, 0, 1) (by decide)) (fun _ _ _ _ => rfl) ?_
      refine tv_aload_n C dk_X6_searchOpening_45 rfl ?_
      refine tv_getI C dk_X6_searchOpening_46 fl_RX6_52 (tvSB_sh hb 0 (by decide)).2 (tvSB_sh hb 0 (by decide)).1 (fun _ _ _ _ => rfl) ?_
      refine tv_iload C dk_X6_searchOpening_49 rfl ?_
      refine tv_iload C dk_X6_searchOpening_51 rfl ?_
      refine tv_iadd C dk_X6_searchOpening_53 ?_
      refine tv_iconst (v := 1) C dk_X6_searchOpening_54 (by decide) ?_
      refine tv_iadd C dk_X6_searchOpening_55 ?_
      refine tv_cV1 C dk_X6_searchOpening_56 ml_RX6_216 yk_X7_lowByFormula yi_X7_lowByFormula (m_X7_lowByFormula _ M hb (tgi M b 4) ((y4 + y5) + 1)) (tvSB_sh hb 1 (by decide)).2 (tvSB_sh hb 1 (by decide)).1 rfl rfl rfl (Nat.le_of_ble_eq_true rfl) (Nat.le_of_ble_eq_true rfl) (Nat.le_of_ble_eq_true rfl) (Nat.le_of_ble_eq_true rfl) (Nat.le_of_ble_eq_true rfl) ?_
      refine tv_iload_n C dk_X6_searchOpening_59 rfl ?_
      refine tv_icmp_ge C dk_X6_searchOpening_60 (fun h102 => ?_) (fun h102 => ?_)
      · refine tv_iload C dk_X6_searchOpening_70 rfl ?_
        refine tv_iconst (v := 2) C dk_X6_searchOpening_72 (by decide) ?_
        refine tv_idiv C dk_X6_searchOpening_73 (by decide) ?_
        refine tv_istore (L' := [_, _, _, _, _, _]) (hn := by decide) (hlt := (Nat.le_of_ble_eq_true rfl)) (hno := rfl) C dk_X6_searchOpening_74 rfl ?_
        refine tv_goto C dk_X6_searchOpening_76 ?_
        exact (ih (y2, y3, y4, (y5 / 2)) (by rw [sb_X6_searchOpening, if_neg h101, if_pos h102] at hs; exact hs))
      refine tv_iload C dk_X6_searchOpening_63 rfl ?_
      refine tv_iload C dk_X6_searchOpening_65 rfl ?_
      refine tv_iadd C dk_X6_searchOpening_67 ?_
      refine tv_istore (L' := [_, _, _, _, _, _]) (hn := by decide) (hlt := (Nat.le_of_ble_eq_true rfl)) (hno := rfl) C dk_X6_searchOpening_68 rfl ?_
      refine tv_iload C dk_X6_searchOpening_70 rfl ?_
      refine tv_iconst (v := 2) C dk_X6_searchOpening_72 (by decide) ?_
      refine tv_idiv C dk_X6_searchOpening_73 (by decide) ?_
      refine tv_istore (L' := [_, _, _, _, _, _]) (hn := by decide) (hlt := (Nat.le_of_ble_eq_true rfl)) (hno := rfl) C dk_X6_searchOpening_74 rfl ?_
      refine tv_goto C dk_X6_searchOpening_76 ?_
      exact (ih (y2, y3, (y4 + y5), (y5 / 2)) (by rw [sb_X6_searchOpening, if_neg h101, if_neg h102] at hs; exact hs))
  refine tv_aload_n C dk_X6_searchOpening_0 rfl ?_
  refine tv_getR (r := (b + 6)) C dk_X6_searchOpening_1 fl_RX6_28 (tvSB_sh hb 0 (by decide)).2 (tvSB_sh hb 0 (by decide)).1 (tvSB_rho hb (0, 2, 6) (by decide)) (fun _ _ _ _ => rfl) ?_
  refine tv_iload_n C dk_X6_searchOpening_4 rfl ?_
  refine tv_cV1 C dk_X6_searchOpening_5 ml_RX6_213 yk_X0_remainingOf yi_X0_remainingOf (m_X0_remainingOf _ M hb x1) (tvSB_sh hb 6 (by decide)).2 (tvSB_sh hb 6 (by decide)).1 rfl rfl rfl (Nat.le_of_ble_eq_true rfl) (Nat.le_of_ble_eq_true rfl) (Nat.le_of_ble_eq_true rfl) (Nat.le_of_ble_eq_true rfl) (Nat.le_of_ble_eq_true rfl) ?_
  refine tv_istore_n (L' := [_, _, _, _, _, _]) (hn := by decide) (hlt := (Nat.le_of_ble_eq_true rfl)) (hno := rfl) C dk_X6_searchOpening_8 rfl ?_
  refine tv_iload_n C dk_X6_searchOpening_9 rfl ?_
  refine tv_if_ne C dk_X6_searchOpening_10 (fun h1 => ?_) (fun h1 => ?_)
  · refine tv_iload_n C dk_X6_searchOpening_24 rfl ?_
    refine tv_iconst (v := 1) C dk_X6_searchOpening_25 (by decide) ?_
    refine tv_iadd C dk_X6_searchOpening_26 ?_
    refine tv_istore_n (L' := [_, _, _, _, _, _]) (hn := by decide) (hlt := (Nat.le_of_ble_eq_true rfl)) (hno := rfl) C dk_X6_searchOpening_27 rfl ?_
    refine tv_iconst (v := 0) C dk_X6_searchOpening_28 (by decide) ?_
    refine tv_istore (L' := [_, _, _, _, _, _]) (hn := by decide) (hlt := (Nat.le_of_ble_eq_true rfl)) (hno := rfl) C dk_X6_searchOpening_29 rfl ?_
    refine tv_sipush (v := 2048) C dk_X6_searchOpening_31 (by decide) ?_
    refine tv_istore (L' := [_, _, _, _, _, _]) (hn := by decide) (hlt := (Nat.le_of_ble_eq_true rfl)) (hno := rfl) C dk_X6_searchOpening_34 rfl ?_
    exact (K n ((f_X0_remainingOf M b x1), ((f_X0_remainingOf M b x1) + 1), 0, 2048) (by rw [e_X6_searchOpening, if_neg h1] at hs; exact hs))
  refine tv_aload_n C dk_X6_searchOpening_13 rfl ?_
  refine tv_cV1 C dk_X6_searchOpening_14 ml_RX6_169 yk_X6_isLow yi_X6_isLow (m_X6_isLow _ M hb) (tvSB_sh hb 0 (by decide)).2 (tvSB_sh hb 0 (by decide)).1 rfl rfl rfl (Nat.le_of_ble_eq_true rfl) (Nat.le_of_ble_eq_true rfl) (Nat.le_of_ble_eq_true rfl) (Nat.le_of_ble_eq_true rfl) (Nat.le_of_ble_eq_true rfl) ?_
  refine tv_if_eq C dk_X6_searchOpening_17 (fun h2 => ?_) (fun h2 => ?_)
  · refine tv_iload_n C dk_X6_searchOpening_24 rfl ?_
    refine tv_iconst (v := 1) C dk_X6_searchOpening_25 (by decide) ?_
    refine tv_iadd C dk_X6_searchOpening_26 ?_
    refine tv_istore_n (L' := [_, _, _, _, _, _]) (hn := by decide) (hlt := (Nat.le_of_ble_eq_true rfl)) (hno := rfl) C dk_X6_searchOpening_27 rfl ?_
    refine tv_iconst (v := 0) C dk_X6_searchOpening_28 (by decide) ?_
    refine tv_istore (L' := [_, _, _, _, _, _]) (hn := by decide) (hlt := (Nat.le_of_ble_eq_true rfl)) (hno := rfl) C dk_X6_searchOpening_29 rfl ?_
    refine tv_sipush (v := 2048) C dk_X6_searchOpening_31 (by decide) ?_
    refine tv_istore (L' := [_, _, _, _, _, _]) (hn := by decide) (hlt := (Nat.le_of_ble_eq_true rfl)) (hno := rfl) C dk_X6_searchOpening_34 rfl ?_
    exact (K n ((f_X0_remainingOf M b x1), ((f_X0_remainingOf M b x1) + 1), 0, 2048) (by rw [e_X6_searchOpening, if_pos h1, if_pos h2] at hs; exact hs))
  refine tv_iconst (v := 2) C dk_X6_searchOpening_20 (by decide) ?_
  refine tv_goto C dk_X6_searchOpening_21 ?_
  refine tv_istore_n (L' := [_, _, _, _, _, _]) (hn := by decide) (hlt := (Nat.le_of_ble_eq_true rfl)) (hno := rfl) C dk_X6_searchOpening_27 rfl ?_
  refine tv_iconst (v := 0) C dk_X6_searchOpening_28 (by decide) ?_
  refine tv_istore (L' := [_, _, _, _, _, _]) (hn := by decide) (hlt := (Nat.le_of_ble_eq_true rfl)) (hno := rfl) C dk_X6_searchOpening_29 rfl ?_
  refine tv_sipush (v := 2048) C dk_X6_searchOpening_31 (by decide) ?_
  refine tv_istore (L' := [_, _, _, _, _, _]) (hn := by decide) (hlt := (Nat.le_of_ble_eq_true rfl)) (hno := rfl) C dk_X6_searchOpening_34 rfl ?_
  exact (K n ((f_X0_remainingOf M b x1), 2, 0, 2048) (by rw [e_X6_searchOpening, if_pos h1, if_neg h2] at hs; exact hs))
def tvSo (p : Nat → Bool) : Nat → Nat → Nat
  | 0, a => a
  | n + 1, a => if p (a + 2 ^ n) then tvSo p n (a + 2 ^ n) else tvSo p n a
def tvLt (M : tvM) (b : Nat) (x1 : Int32) : Int32 := if f_X0_remainingOf M b x1 = 0 then (if f_X6_isLow M b = 0 then f_X0_remainingOf M b x1 + 1 else 2) else f_X0_remainingOf M b x1 + 1
def tvSp (M : tvM) (b : Nat) (x1 : Int32) (k : Nat) : Bool := decide (f_X7_lowByFormula M b (tgi M b 4) (nI (k + 1)) < tvLt M b x1)
def f_X6_searchOpening (M : tvM) (b : Nat) (x1 : Int32) : Int32 := nI (tvSo (tvSp M b x1) 12 0 + 1)
theorem tvSo_run (M : tvM) (b : Nat) (x1 y2 : Int32) : ∀ n a : Nat, n ≤ 12 → ∃ k, tvIter (s_X6_searchOpening M b x1) k (.inl (y2, tvLt M b x1, nI a, nI (2 ^ n / 2))) = some (nI (tvSo (tvSp M b x1) n a + 1)) := by
  intro n
  induction n with
  | zero =>
    intro a h1
    have h4 : nI (2 ^ 0 / 2) ≤ 0 := by decide
    exact tvIter_e (by simp only [s_X6_searchOpening, sb_X6_searchOpening, if_pos h4, tvSo, nI_1])
  | succ n ih =>
    intro a h1
    have e0 : 2 ^ (n + 1) / 2 = 2 ^ n := by rw [Nat.pow_succ]; omega
    have hp : 2 ^ n ≤ 2 ^ 11 := Nat.pow_le_pow_right (by omega) (by omega)
    have hp0 : 0 < 2 ^ n := Nat.pow_pos (by omega)
    have e1 : (2 : Nat) ^ 11 = 2048 := by decide
    rw [e0]
    generalize hm : 2 ^ n = m at *
    have h4 : ¬ nI m ≤ 0 := nI_ge (a := 0) (b := m) (by omega) (by omega)
    have hd : nI m / 2 = nI (m / 2) := by
      rw [show (2 : Int32) = nI 2 from rfl, pk_div (by omega) (by omega) (by omega)]
    have hs : s_X6_searchOpening M b x1 (y2, tvLt M b x1, nI a, nI m) = if tvSp M b x1 (a + m) then .inl (y2, tvLt M b x1, nI (a + m), nI (m / 2)) else .inl (y2, tvLt M b x1, nI a, nI (m / 2)) := by
      simp only [s_X6_searchOpening, sb_X6_searchOpening, if_neg h4, hd, nI_add, nI_1, tvSp, decide_eq_true_eq]
      by_cases hq : f_X7_lowByFormula M b (tgi M b 4) (nI (a + m + 1)) < tvLt M b x1
      · rw [if_neg (by rw [Int32.not_le]; exact hq), if_pos hq]
      · rw [if_pos (by rw [← Int32.not_lt]; exact hq), if_neg hq]
    rw [tvSo, hm]
    by_cases hq : tvSp M b x1 (a + m) = true
    · rw [if_pos hq] at hs ⊢
      exact tvIter_1 hs (ih _ (by omega))
    · rw [if_neg hq] at hs ⊢
      exact tvIter_1 hs (ih _ (by omega))
theorem r_X6_searchOpening (M : tvM) (b : Nat) (x1 : Int32) : ∃ n, tvIter (s_X6_searchOpening M b x1) n (e_X6_searchOpening M b x1) = some (f_X6_searchOpening M b x1) := by
  have h := tvSo_run M b x1 (f_X0_remainingOf M b x1) 12 0 (by omega)
  have he : e_X6_searchOpening M b x1 = .inl (f_X0_remainingOf M b x1, tvLt M b x1, nI 0, nI (2 ^ 12 / 2)) := by
    unfold e_X6_searchOpening tvLt
    split
    · split <;> rfl
    · rfl
  rw [he]
  exact h
theorem n_X6_searchOpening (G : tvG) (M : tvM) {b : Nat} (hb : tvSB b) (x1 : Int32) : tvRun G yX6_searchOpening cX6_searchOpening 6 (some .int) 4 0 0 tvP0 tvP0 [.ref (G.2.1 + b), .int x1] M (.inl (some (.int (f_X6_searchOpening M b x1)))) M := by
  obtain ⟨n, hn⟩ := r_X6_searchOpening M b x1 
  exact m_X6_searchOpening G M hb x1 n _ hn
/-- TideVault$State.waitForOpening(I)I -/
def sb_X6_waitForOpening (b : Nat) (x1 : Int32) (y2 : Int32) (M : tvM) : (Int32 × tvM) ⊕ (Int32 × tvM) := (if 3840 < y2 then .inr ((-1), M) else (if (f_X6_hasJustOpened ((f_X6_minute M b).2) b x1) = 0 then .inl ((y2 + 1), (f_X6_minute M b).2) else .inr (y2, (f_X6_minute M b).2)))
def s_X6_waitForOpening (b : Nat) (x1 : Int32) : (Int32 × tvM) → (Int32 × tvM) ⊕ (Int32 × tvM) := fun q => sb_X6_waitForOpening b x1 q.1 q.2
def e_X6_waitForOpening (M : tvM) (b : Nat) (x1 : Int32) : (Int32 × tvM) ⊕ (Int32 × tvM) := .inl (1, M)
theorem m_X6_waitForOpening (G : tvG) (M : tvM) {b : Nat} (hb : tvSB b) (x1 : Int32) (n : Nat) (r : (Int32 × tvM)) (hs : tvIter (s_X6_waitForOpening b x1) n (e_X6_waitForOpening M b x1) = some r) : tvRun G yX6_waitForOpening cX6_waitForOpening 3 (some .int) 5 0 0 tvP0 tvP0 [.ref (G.2.1 + b), .int x1] M (.inl (some (.int r.1))) r.2 := by
  refine tvRun.of yk_X6_waitForOpening rfl [some (.ref (G.2.1 + b)), some (.int x1), none] rfl (Nat.le_of_ble_eq_true rfl) ?_
  intro E hG C hQ; subst hG
  have K : ∀ (n : Nat) (q : Int32 × tvM), tvIter (s_X6_waitForOpening b x1) n (.inl q) = some r → tv_W E tvP0 0 0 q.2 2 [some (.ref (E.G.2.1 + b)), some (.int x1), some (.int q.1)] [] := by
    intro n
    induction n with
    | zero => intro q hq; exact (tvIter_0 hq).elim
    | succ n ih =>
      intro q hq
      obtain ⟨y2, M⟩ := q
      have hs : tvIter (s_X6_waitForOpening b x1) n (sb_X6_waitForOpening b x1 y2 M) = some r := tvIter_go hq
      refine tv_iload_n C dk_X6_waitForOpening_2 rfl ?_
      refine tv_sipush (v := 3840) C dk_X6_waitForOpening_3 (by decide) ?_
      refine tv_icmp_gt C dk_X6_waitForOpening_6 (fun h101 => ?_) (fun h101 => ?_)
      · refine tv_iconst (v := (-1)) C dk_X6_waitForOpening_30 (by decide) ?_
        exact tv_iret C hQ dk_X6_waitForOpening_31 rfl (by rw [sb_X6_waitForOpening, if_pos h101] at hs; rw [← tvIter_out hs]) (by rw [sb_X6_waitForOpening, if_pos h101] at hs; rw [← tvIter_out hs])
      refine tv_aload_n C dk_X6_waitForOpening_9 rfl ?_
      refine tv_cV1 C dk_X6_waitForOpening_10 ml_RX6_203 yk_X6_minute yi_X6_minute (n_X6_minute _ M hb) (tvSB_sh hb 0 (by decide)).2 (tvSB_sh hb 0 (by decide)).1 rfl rfl rfl (Nat.le_of_ble_eq_true rfl) (Nat.le_of_ble_eq_true rfl) (Nat.le_of_ble_eq_true rfl) (Nat.le_of_ble_eq_true rfl) (Nat.le_of_ble_eq_true rfl) ?_
      refine tv_pop C dk_X6_waitForOpening_13 rfl ?_
      refine tv_aload_n C dk_X6_waitForOpening_14 rfl ?_
      refine tv_iload_n C dk_X6_waitForOpening_15 rfl ?_
      refine tv_cV1 C dk_X6_waitForOpening_16 ml_RX6_219 yk_X6_hasJustOpened yi_X6_hasJustOpened (m_X6_hasJustOpened _ ((f_X6_minute M b).2) hb x1) (tvSB_sh hb 0 (by decide)).2 (tvSB_sh hb 0 (by decide)).1 rfl rfl rfl (Nat.le_of_ble_eq_true rfl) (Nat.le_of_ble_eq_true rfl) (Nat.le_of_ble_eq_true rfl) (Nat.le_of_ble_eq_true rfl) (Nat.le_of_ble_eq_true rfl) ?_
      refine tv_if_eq C dk_X6_waitForOpening_19 (fun h102 => ?_) (fun h102 => ?_)
      · refine tv_iinc (v := (y2 + 1)) (L' := [_, _, _]) (hn := by decide) (hlt := (Nat.le_of_ble_eq_true rfl)) (hno := rfl) C dk_X6_waitForOpening_24 rfl rfl rfl ?_
        refine tv_goto C dk_X6_waitForOpening_27 ?_
        exact (ih ((y2 + 1), (f_X6_minute M b).2) (by rw [sb_X6_waitForOpening, if_neg h101, if_pos h102] at hs; exact hs))
      refine tv_iload_n C dk_X6_waitForOpening_22 rfl ?_
      exact tv_iret C hQ dk_X6_waitForOpening_23 rfl (by rw [sb_X6_waitForOpening, if_neg h101, if_neg h102] at hs; rw [← tvIter_out hs]) (by rw [sb_X6_waitForOpening, if_neg h101, if_neg h102] at hs; rw [← tvIter_out hs])
  refine tv_iconst (v := 1) C dk_X6_waitForOpening_0 (by decide) ?_
  refine tv_istore_n (L' := [_, _, _]) (hn := by decide) (hlt := (Nat.le_of_ble_eq_true rfl)) (hno := rfl) C dk_X6_waitForOpening_1 rfl ?_
  exact (K n (1, M) (by rw [e_X6_waitForOpening] at hs; exact hs))
def tvWf (b : Nat) (x1 : Int32) : Nat → Nat → tvM → Int32 × tvM
  | 0, _, M => (-1, M)
  | n + 1, k, M => if f_X6_hasJustOpened (f_X6_minute M b).2 b x1 = 0 then tvWf b x1 n (k + 1) (f_X6_minute M b).2 else (nI k, (f_X6_minute M b).2)
def f_X6_waitForOpening (M : tvM) (b : Nat) (x1 : Int32) : Int32 × tvM := tvWf b x1 3840 1 M
theorem r_X6_waitForOpening (M : tvM) (b : Nat) (x1 : Int32) : ∃ n, tvIter (s_X6_waitForOpening b x1) n (e_X6_waitForOpening M b x1) = some (f_X6_waitForOpening M b x1) := by
  have key : ∀ n k (M : tvM), n + k = 3841 → ∃ m, tvIter (s_X6_waitForOpening b x1) m (.inl (nI k, M)) = some (tvWf b x1 n k M) := by
    intro n
    induction n with
    | zero =>
      intro k M hk
      have h : (3840 : Int32) < nI k := nI_lt (a := 3840) (by omega) (by omega)
      exact tvIter_e (by simp only [s_X6_waitForOpening, sb_X6_waitForOpening, if_pos h, tvWf])
    | succ n ih =>
      intro k M hk
      have h : ¬ (3840 : Int32) < nI k := nI_nlt (a := 3840) (by omega) (by omega)
      by_cases h2 : f_X6_hasJustOpened (f_X6_minute M b).2 b x1 = 0
      · refine tvIter_1 (s' := (nI (k + 1), (f_X6_minute M b).2)) (by simp only [s_X6_waitForOpening, sb_X6_waitForOpening, if_neg h, if_pos h2, nI_1]) ?_
        rw [tvWf, if_pos h2]
        exact ih _ _ (by omega)
      · exact tvIter_e (by simp only [s_X6_waitForOpening, sb_X6_waitForOpening, if_neg h, if_neg h2, tvWf])
  exact key 3840 1 M (by omega)
theorem n_X6_waitForOpening (G : tvG) (M : tvM) {b : Nat} (hb : tvSB b) (x1 : Int32) : tvRun G yX6_waitForOpening cX6_waitForOpening 3 (some .int) 5 0 0 tvP0 tvP0 [.ref (G.2.1 + b), .int x1] M (.inl (some (.int (f_X6_waitForOpening M b x1).1))) ((f_X6_waitForOpening M b x1).2) := by
  obtain ⟨n, hn⟩ := r_X6_waitForOpening M b x1 
  exact m_X6_waitForOpening G M hb x1 n _ hn
/-- TideVault$State.doLowMinutesAgree()Z -/
def sb_X6_doLowMinutesAgree (M : tvM) (b : Nat) (y1 : Int32) : (Int32) ⊕ Int32 := (if 1000 < y1 then .inr 1 else (if (f_X7_lowByFormula M b (tgi M b 4) y1) = (f_X7_lowByCounting M b (tgi M b 4) y1) then .inl (y1 + 50) else .inr 0))
def s_X6_doLowMinutesAgree (M : tvM) (b : Nat) : (Int32) → (Int32) ⊕ Int32 := fun q => sb_X6_doLowMinutesAgree M b q
def e_X6_doLowMinutesAgree (M : tvM) (b : Nat) : (Int32) ⊕ Int32 := .inl 0
theorem m_X6_doLowMinutesAgree (G : tvG) (M : tvM) {b : Nat} (hb : tvSB b) (n : Nat) (r : Int32) (hs : tvIter (s_X6_doLowMinutesAgree M b) n (e_X6_doLowMinutesAgree M b) = some r) : tvRun G yX6_doLowMinutesAgree cX6_doLowMinutesAgree 2 (some .boolean) 4 0 0 tvP0 tvP0 [.ref (G.2.1 + b)] M (.inl (some (.int r))) M := by
  refine tvRun.of yk_X6_doLowMinutesAgree rfl [some (.ref (G.2.1 + b)), none] rfl (Nat.le_of_ble_eq_true rfl) ?_
  intro E hG C hQ; subst hG
  have K : ∀ (n : Nat) (q : Int32), tvIter (s_X6_doLowMinutesAgree M b) n (.inl q) = some r → tv_W E tvP0 0 0 M 2 [some (.ref (E.G.2.1 + b)), some (.int q)] [] := by
    intro n
    induction n with
    | zero => intro q hq; exact (tvIter_0 hq).elim
    | succ n ih =>
      intro q hq
      obtain ⟨y1, rfl⟩ : ∃ z, z = q := ⟨_, rfl⟩
      have hs : tvIter (s_X6_doLowMinutesAgree M b) n (sb_X6_doLowMinutesAgree M b y1) = some r := tvIter_go hq
      refine tv_iload_n C dk_X6_doLowMinutesAgree_2 rfl ?_
      refine tv_sipush (v := 1000) C dk_X6_doLowMinutesAgree_3 (by decide) ?_
      refine tv_icmp_gt C dk_X6_doLowMinutesAgree_6 (fun h101 => ?_) (fun h101 => ?_)
      · refine tv_iconst (v := 1) C dk_X6_doLowMinutesAgree_44 (by decide) ?_
        exact tv_iret C hQ dk_X6_doLowMinutesAgree_45 rfl (by rw [sb_X6_doLowMinutesAgree, if_pos h101] at hs; rw [← tvIter_out hs]) rfl
      refine tv_aload_n C dk_X6_doLowMinutesAgree_9 rfl ?_
      refine tv_getR (r := (b + 1)) C dk_X6_doLowMinutesAgree_10 fl_RX6_12 (tvSB_sh hb 0 (by decide)).2 (tvSB_sh hb 0 (by decide)).1 (tvSB_rho hb (0, 0, 1) (by decide)) (fun _ _ _ _ => rfl) ?_
      refine tv_aload_n C dk_X6_doLowMinutesAgree_13 rfl ?_
      refine tv_getI C dk_X6_doLowMinutesAgree_14 fl_RX6_52 (tvSB_sh hb 0 (by decide)).2 (tvSB_sh hb 0 (by decide)).1 (fun _ _ _ _ => rfl) ?_
      refine tv_iload_n C dk_X6_doLowMinutesAgree_17 rfl ?_
      refine tv_cV1 C dk_X6_doLowMinutesAgree_18 ml_RX6_216 yk_X7_lowByFormula yi_X7_lowByFormula (m_X7_lowByFormula _ M hb (tgi M b 4) y1) (tvSB_sh hb 1 (by decide)).2 (tvSB_sh hb 1 (by decide)).1 rfl rfl rfl (Nat.le_of_ble_eq_true rfl) (Nat.le_of_ble_eq_true rfl) (Nat.le_of_ble_eq_true rfl) (Nat.le_of_ble_eq_true rfl) (Nat.le_of_ble_eq_true rfl) ?_
      refine tv_aload_n C dk_X6_doLowMinutesAgree_21 rfl ?_
      refine tv_getR (r := (b + 1)) C dk_X6_doLowMinutesAgree_22 fl_RX6_12 (tvSB_sh hb 0 (by decide)).2 (tvSB_sh hb 0 (by decide)).1 (tvSB_rho hb (0, 0, 1) (by decide)) (fun _ _ _ _ => rfl) ?_
      refine tv_aload_n C dk_X6_doLowMinutesAgree_25 rfl ?_
      refine tv_getI C dk_X6_doLowMinutesAgree_26 fl_RX6_52 (tvSB_sh hb 0 (by decide)).2 (tvSB_sh hb 0 (by decide)).1 (fun _ _ _ _ => rfl) ?_
      refine tv_iload_n C dk_X6_doLowMinutesAgree_29 rfl ?_
      refine tv_cV1 C dk_X6_doLowMinutesAgree_30 ml_RX6_225 yk_X7_lowByCounting yi_X7_lowByCounting (n_X7_lowByCounting _ M hb (tgi M b 4) y1) (tvSB_sh hb 1 (by decide)).2 (tvSB_sh hb 1 (by decide)).1 rfl rfl rfl (Nat.le_of_ble_eq_true rfl) (Nat.le_of_ble_eq_true rfl) (Nat.le_of_ble_eq_true rfl) (Nat.le_of_ble_eq_true rfl) (Nat.le_of_ble_eq_true rfl) ?_
      refine tv_icmp_eq C dk_X6_doLowMinutesAgree_33 (fun h102 => ?_) (fun h102 => ?_)
      · refine tv_iinc (v := (y1 + 50)) (L' := [_, _]) (hn := by decide) (hlt := (Nat.le_of_ble_eq_true rfl)) (hno := rfl) C dk_X6_doLowMinutesAgree_38 rfl rfl rfl ?_
        refine tv_goto C dk_X6_doLowMinutesAgree_41 ?_
        exact (ih ((y1 + 50)) (by rw [sb_X6_doLowMinutesAgree, if_neg h101, if_pos h102] at hs; exact hs))
      refine tv_iconst (v := 0) C dk_X6_doLowMinutesAgree_36 (by decide) ?_
      exact tv_iret C hQ dk_X6_doLowMinutesAgree_37 rfl (by rw [sb_X6_doLowMinutesAgree, if_neg h101, if_neg h102] at hs; rw [← tvIter_out hs]) rfl
  refine tv_iconst (v := 0) C dk_X6_doLowMinutesAgree_0 (by decide) ?_
  refine tv_istore_n (L' := [_, _]) (hn := by decide) (hlt := (Nat.le_of_ble_eq_true rfl)) (hno := rfl) C dk_X6_doLowMinutesAgree_1 rfl ?_
  exact (K n (0) (by rw [e_X6_doLowMinutesAgree] at hs; exact hs))
def tvAg (M : tvM) (b : Nat) (i : Nat) : Bool := !decide (f_X7_lowByFormula M b (tgi M b 4) (nI (50 * i)) = f_X7_lowByCounting M b (tgi M b 4) (nI (50 * i)))
def f_X6_doLowMinutesAgree (M : tvM) (b : Nat) : Int32 := if fa_first (tvAg M b) 21 < 21 then 0 else 1
theorem r_X6_doLowMinutesAgree (M : tvM) (b : Nat) : ∃ n, tvIter (s_X6_doLowMinutesAgree M b) n (e_X6_doLowMinutesAgree M b) = some (f_X6_doLowMinutesAgree M b) := by
  have h2 := fa_first_le (tvAg M b) 21
  refine tvIter_for (s_X6_doLowMinutesAgree M b) (fun i => nI (50 * i)) (fa_first (tvAg M b) 21) _ (fun i hi => ?_) ?_
  · have h1 := fa_first_no _ _ _ hi
    have h3 : ¬ (1000 : Int32) < nI (50 * i) := nI_nlt (a := 1000) (b := 50 * i) (by omega) (by omega)
    simp only [tvAg, Bool.not_eq_false', decide_eq_true_eq] at h1
    simp only [s_X6_doLowMinutesAgree, sb_X6_doLowMinutesAgree, if_neg h3, if_pos h1]
    rw [show (50 : Int32) = nI 50 from rfl, nI_add]
    rfl
  · by_cases h : fa_first (tvAg M b) 21 < 21
    · have h1 := fa_first_yes _ _ h
      have h3 : ¬ (1000 : Int32) < nI (50 * fa_first (tvAg M b) 21) := nI_nlt (a := 1000) (b := 50 * _) (by omega) (by omega)
      simp only [tvAg, Bool.not_eq_true', decide_eq_false_iff_not] at h1
      simp only [s_X6_doLowMinutesAgree, sb_X6_doLowMinutesAgree, if_neg h3, f_X6_doLowMinutesAgree, if_pos h]
      exact if_neg h1
    · have h3 : fa_first (tvAg M b) 21 = 21 := by omega
      simp only [s_X6_doLowMinutesAgree, sb_X6_doLowMinutesAgree, f_X6_doLowMinutesAgree, if_neg h]
      rw [h3]
      exact if_pos (by decide)
theorem n_X6_doLowMinutesAgree (G : tvG) (M : tvM) {b : Nat} (hb : tvSB b) : tvRun G yX6_doLowMinutesAgree cX6_doLowMinutesAgree 2 (some .boolean) 4 0 0 tvP0 tvP0 [.ref (G.2.1 + b)] M (.inl (some (.int (f_X6_doLowMinutesAgree M b)))) M := by
  obtain ⟨n, hn⟩ := r_X6_doLowMinutesAgree M b 
  exact m_X6_doLowMinutesAgree G M hb n _ hn
theorem fz_X6_doLowMinutesAgree {M : tvM} {b : Nat} : narrow .boolean (.int (f_X6_doLowMinutesAgree M b)) = .int (f_X6_doLowMinutesAgree M b) := by unfold f_X6_doLowMinutesAgree; split <;> rfl
