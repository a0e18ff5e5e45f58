/-- TideVaultModel.sets(III)V -/
def f_X9_sets (M : tvM) (x1 : Int32) (x2 : Int32) (x3 : Int32) : tvM := (tpi M 250 ((36 + (13 * x1)) + x2).toNatClampNeg x3)
def q_X9_sets (M : tvM) (x1 : Int32) (x2 : Int32) (x3 : Int32) : Prop := (vp_in ((36 + (13 * x1)) + x2) 202 ∧ True)
theorem m_X9_sets (G : tvG) (M : tvM) (x1 : Int32) (x2 : Int32) (x3 : Int32) (hq : q_X9_sets M x1 x2 x3) : tvRun G yX9_sets cX9_sets 4 none 1 0 0 tvP0 tvP0 [.ref (G.2.1 + 249), .int x1, .int x2, .int x3] M (.inl none) (f_X9_sets M x1 x2 x3) := by
  refine tvRun.of yk_X9_sets rfl [some (.ref (G.2.1 + 249)), some (.int x1), some (.int x2), some (.int x3)] rfl (Nat.le_of_ble_eq_true rfl) ?_
  intro E hG C hQ; subst hG
  refine tv_aload_n C dk_X9_sets_0 rfl ?_
  refine tv_getR (r := 250) C dk_X9_sets_1 fl_RX9_9 (Nat.le_of_ble_eq_true rfl) rfl rfl (fun _ _ _ _ => rfl) ?_
  refine tv_bipush (v := 36) C dk_X9_sets_4 (by decide) ?_
  refine tv_bipush (v := 13) C dk_X9_sets_6 (by decide) ?_
  refine tv_iload_n C dk_X9_sets_8 rfl ?_
  refine tv_imul C dk_X9_sets_9 ?_
  refine tv_iadd C dk_X9_sets_10 ?_
  refine tv_iload_n C dk_X9_sets_11 rfl ?_
  refine tv_iadd C dk_X9_sets_12 ?_
  refine tv_iload_n C dk_X9_sets_13 rfl ?_
  have q1 := hq.2
  refine tv_iast (j := ((36 + (13 * x1)) + x2).toNatClampNeg) rfl C tvP0_ex dk_X9_sets_14 (Nat.le_of_ble_eq_true rfl) rfl hq.1 ?_
  exact tv_vret C hQ dk_X9_sets_15 rfl (by rw [f_X9_sets])
/-- TideVaultModel.isHolder(I)Z -/
def f_X9_isHolder (M : tvM) (x1 : Int32) : Int32 := (f_X9_isIn M x1 0 ((tgi M 250 9) - 1))
theorem m_X9_isHolder (G : tvG) (M : tvM) (x1 : Int32) : tvRun G yX9_isHolder cX9_isHolder 2 (some .boolean) 2 0 0 tvP0 tvP0 [.ref (G.2.1 + 249), .int x1] M (.inl (some (.int (f_X9_isHolder M x1)))) M := by
  refine tvRun.of yk_X9_isHolder rfl [some (.ref (G.2.1 + 249)), some (.int x1)] rfl (Nat.le_of_ble_eq_true rfl) ?_
  intro E hG C hQ; subst hG
  refine tv_iload_n C dk_X9_isHolder_0 rfl ?_
  refine tv_iconst (v := 0) C dk_X9_isHolder_1 (by decide) ?_
  refine tv_aload_n C dk_X9_isHolder_2 rfl ?_
  refine tv_getR (r := 250) C dk_X9_isHolder_3 fl_RX9_9 (Nat.le_of_ble_eq_true rfl) rfl rfl (fun _ _ _ _ => rfl) ?_
  refine tv_bipush (v := 9) C dk_X9_isHolder_6 (by decide) ?_
  refine tv_iald (j := 9) rfl C dk_X9_isHolder_8 (Nat.le_of_ble_eq_true rfl) rfl (vp_in_nI (n := 9) (by decide) (by decide)) ?_
  refine tv_iconst (v := 1) C dk_X9_isHolder_9 (by decide) ?_
  refine tv_isub C dk_X9_isHolder_10 ?_
  refine tv_cS1 C dk_X9_isHolder_11 ml_RX9_51 yk_X9_isIn yi_X9_isIn (m_X9_isIn _ M x1 0 ((tgi M 250 9) - 1)) rfl rfl (Nat.le_of_ble_eq_true rfl) (Nat.le_of_ble_eq_true rfl) (Nat.le_of_ble_eq_true rfl) (Nat.le_of_ble_eq_true rfl) (Nat.le_of_ble_eq_true rfl) ?_
  exact tv_iret C hQ dk_X9_isHolder_14 (fz_X9_isIn) (by rw [f_X9_isHolder]) rfl
theorem fz_X9_isHolder {M : tvM} {x1 : Int32} : narrow .boolean (.int (f_X9_isHolder M x1)) = .int (f_X9_isHolder M x1) := by
  unfold f_X9_isHolder; repeat' split
  all_goals first | rfl | exact (fz_X9_isIn)
/-- TideVaultModel.isBox(I)Z -/
def f_X9_isBox (M : tvM) (x1 : Int32) : Int32 := (f_X9_isIn M x1 0 ((tgi M 250 10) - 1))
theorem m_X9_isBox (G : tvG) (M : tvM) (x1 : Int32) : tvRun G yX9_isBox cX9_isBox 2 (some .boolean) 2 0 0 tvP0 tvP0 [.ref (G.2.1 + 249), .int x1] M (.inl (some (.int (f_X9_isBox M x1)))) M := by
  refine tvRun.of yk_X9_isBox rfl [some (.ref (G.2.1 + 249)), some (.int x1)] rfl (Nat.le_of_ble_eq_true rfl) ?_
  intro E hG C hQ; subst hG
  refine tv_iload_n C dk_X9_isBox_0 rfl ?_
  refine tv_iconst (v := 0) C dk_X9_isBox_1 (by decide) ?_
  refine tv_aload_n C dk_X9_isBox_2 rfl ?_
  refine tv_getR (r := 250) C dk_X9_isBox_3 fl_RX9_9 (Nat.le_of_ble_eq_true rfl) rfl rfl (fun _ _ _ _ => rfl) ?_
  refine tv_bipush (v := 10) C dk_X9_isBox_6 (by decide) ?_
  refine tv_iald (j := 10) rfl C dk_X9_isBox_8 (Nat.le_of_ble_eq_true rfl) rfl (vp_in_nI (n := 10) (by decide) (by decide)) ?_
  refine tv_iconst (v := 1) C dk_X9_isBox_9 (by decide) ?_
  refine tv_isub C dk_X9_isBox_10 ?_
  refine tv_cS1 C dk_X9_isBox_11 ml_RX9_51 yk_X9_isIn yi_X9_isIn (m_X9_isIn _ M x1 0 ((tgi M 250 10) - 1)) rfl rfl (Nat.le_of_ble_eq_true rfl) (Nat.le_of_ble_eq_true rfl) (Nat.le_of_ble_eq_true rfl) (Nat.le_of_ble_eq_true rfl) (Nat.le_of_ble_eq_true rfl) ?_
  exact tv_iret C hQ dk_X9_isBox_14 (fz_X9_isIn) (by rw [f_X9_isBox]) rfl
theorem fz_X9_isBox {M : tvM} {x1 : Int32} : narrow .boolean (.int (f_X9_isBox M x1)) = .int (f_X9_isBox M x1) := by
  unfold f_X9_isBox; repeat' split
  all_goals first | rfl | exact (fz_X9_isIn)
/-- TideVaultModel.isOf(II)Z -/
def f_X9_isOf (M : tvM) (x1 : Int32) (x2 : Int32) : Int32 := (if (f_X9_of M x1 0) = x2 then 1 else (if (f_X9_of M x1 1) = x2 then 1 else 0))
def q_X9_isOf (M : tvM) (x1 : Int32) (x2 : Int32) : Prop := ((q_X9_of M x1 0) ∧ (((f_X9_of M x1 0) = x2 → True) ∧ (¬ (f_X9_of M x1 0) = x2 → ((q_X9_of M x1 1) ∧ (((f_X9_of M x1 1) = x2 → True) ∧ (¬ (f_X9_of M x1 1) = x2 → True))))))
theorem m_X9_isOf (G : tvG) (M : tvM) (x1 : Int32) (x2 : Int32) (hq : q_X9_isOf M x1 x2) : tvRun G yX9_isOf cX9_isOf 3 (some .boolean) 2 0 0 tvP0 tvP0 [.ref (G.2.1 + 249), .int x1, .int x2] M (.inl (some (.int (f_X9_isOf M x1 x2)))) M := by
  refine tvRun.of yk_X9_isOf rfl [some (.ref (G.2.1 + 249)), some (.int x1), some (.int x2)] rfl (Nat.le_of_ble_eq_true rfl) ?_
  intro E hG C hQ; subst hG
  refine tv_aload_n C dk_X9_isOf_0 rfl ?_
  refine tv_iload_n C dk_X9_isOf_1 rfl ?_
  refine tv_iconst (v := 0) C dk_X9_isOf_2 (by decide) ?_
  have q1 := hq.2
  refine tv_cV1 C dk_X9_isOf_3 ml_RX9_55 yk_X9_of yi_X9_of (m_X9_of _ M x1 0 hq.1) (Nat.le_of_ble_eq_true rfl) rfl rfl rfl rfl (Nat.le_of_ble_eq_true rfl) (Nat.le_of_ble_eq_true rfl) (Nat.le_of_ble_eq_true rfl) (Nat.le_of_ble_eq_true rfl) (Nat.le_of_ble_eq_true rfl) ?_
  refine tv_iload_n C dk_X9_isOf_6 rfl ?_
  refine tv_icmp_eq C dk_X9_isOf_7 (fun h1 => ?_) (fun h1 => ?_)
  · have q2 := q1.1 h1
    refine tv_iconst (v := 1) C dk_X9_isOf_20 (by decide) ?_
    refine tv_goto C dk_X9_isOf_21 ?_
    exact tv_iret C hQ dk_X9_isOf_25 rfl (by rw [f_X9_isOf, if_pos h1]) rfl
  have q3 := q1.2 h1
  refine tv_aload_n C dk_X9_isOf_10 rfl ?_
  refine tv_iload_n C dk_X9_isOf_11 rfl ?_
  refine tv_iconst (v := 1) C dk_X9_isOf_12 (by decide) ?_
  have q4 := q3.2
  refine tv_cV1 C dk_X9_isOf_13 ml_RX9_55 yk_X9_of yi_X9_of (m_X9_of _ M x1 1 q3.1) (Nat.le_of_ble_eq_true rfl) rfl rfl rfl rfl (Nat.le_of_ble_eq_true rfl) (Nat.le_of_ble_eq_true rfl) (Nat.le_of_ble_eq_true rfl) (Nat.le_of_ble_eq_true rfl) (Nat.le_of_ble_eq_true rfl) ?_
  refine tv_iload_n C dk_X9_isOf_16 rfl ?_
  refine tv_icmp_ne C dk_X9_isOf_17 (fun h2 => ?_) (fun h2 => ?_)
  · have q5 := q4.2 h2
    refine tv_iconst (v := 0) C dk_X9_isOf_24 (by decide) ?_
    exact tv_iret C hQ dk_X9_isOf_25 rfl (by rw [f_X9_isOf, if_neg h1, if_neg h2]) rfl
  have q6 := q4.1 h2
  refine tv_iconst (v := 1) C dk_X9_isOf_20 (by decide) ?_
  refine tv_goto C dk_X9_isOf_21 ?_
  exact tv_iret C hQ dk_X9_isOf_25 rfl (by rw [f_X9_isOf, if_neg h1, if_pos h2]) rfl
theorem fz_X9_isOf {M : tvM} {x1 : Int32} {x2 : Int32} : narrow .boolean (.int (f_X9_isOf M x1 x2)) = .int (f_X9_isOf M x1 x2) := by
  unfold f_X9_isOf; repeat' split
  all_goals first | rfl
/-- TideVaultModel.low(I)Z -/
def f_X9_low (M : tvM) (x1 : Int32) : Int32 := (if (tgi M 250 2) ≤ (x1 - x1 / (tgi M 250 1) * (tgi M 250 1)) then 0 else 1)
def q_X9_low (M : tvM) (x1 : Int32) : Prop := (¬ (tgi M 250 1) = 0 ∧ (((tgi M 250 2) ≤ (x1 - x1 / (tgi M 250 1) * (tgi M 250 1)) → True) ∧ (¬ (tgi M 250 2) ≤ (x1 - x1 / (tgi M 250 1) * (tgi M 250 1)) → True)))
theorem m_X9_low (G : tvG) (M : tvM) (x1 : Int32) (hq : q_X9_low M x1) : tvRun G yX9_low cX9_low 2 (some .boolean) 1 0 0 tvP0 tvP0 [.ref (G.2.1 + 249), .int x1] M (.inl (some (.int (f_X9_low M x1)))) M := by
  refine tvRun.of yk_X9_low rfl [some (.ref (G.2.1 + 249)), some (.int x1)] rfl (Nat.le_of_ble_eq_true rfl) ?_
  intro E hG C hQ; subst hG
  refine tv_iload_n C dk_X9_low_0 rfl ?_
  refine tv_aload_n C dk_X9_low_1 rfl ?_
  refine tv_getR (r := 250) C dk_X9_low_2 fl_RX9_9 (Nat.le_of_ble_eq_true rfl) rfl rfl (fun _ _ _ _ => rfl) ?_
  refine tv_iconst (v := 1) C dk_X9_low_5 (by decide) ?_
  refine tv_iald (j := 1) rfl C dk_X9_low_6 (Nat.le_of_ble_eq_true rfl) rfl (vp_in_nI (n := 1) (by decide) (by decide)) ?_
  have q1 := hq.2
  refine tv_irem C dk_X9_low_7 hq.1 ?_
  refine tv_aload_n C dk_X9_low_8 rfl ?_
  refine tv_getR (r := 250) C dk_X9_low_9 fl_RX9_9 (Nat.le_of_ble_eq_true rfl) rfl rfl (fun _ _ _ _ => rfl) ?_
  refine tv_iconst (v := 2) C dk_X9_low_12 (by decide) ?_
  refine tv_iald (j := 2) rfl C dk_X9_low_13 (Nat.le_of_ble_eq_true rfl) rfl (vp_in_nI (n := 2) (by decide) (by decide)) ?_
  refine tv_icmp_ge C dk_X9_low_14 (fun h1 => ?_) (fun h1 => ?_)
  · have q2 := q1.1 h1
    refine tv_iconst (v := 0) C dk_X9_low_21 (by decide) ?_
    exact tv_iret C hQ dk_X9_low_22 rfl (by rw [f_X9_low, if_pos h1]) rfl
  have q3 := q1.2 h1
  refine tv_iconst (v := 1) C dk_X9_low_17 (by decide) ?_
  refine tv_goto C dk_X9_low_18 ?_
  exact tv_iret C hQ dk_X9_low_22 rfl (by rw [f_X9_low, if_neg h1]) rfl
theorem fz_X9_low {M : tvM} {x1 : Int32} : narrow .boolean (.int (f_X9_low M x1)) = .int (f_X9_low M x1) := by
  unfold f_X9_low; repeat' split
  all_goals first | rfl
/-- TideVaultModel.locked(I)Z -/
def f_X9_locked (M : tvM) (x1 : Int32) : Int32 := (if (f_X9_ofHolder M x1 2) ≤ (tgi M 250 0) then 0 else 1)
def q_X9_locked (M : tvM) (x1 : Int32) : Prop := ((q_X9_ofHolder M x1 2) ∧ (((f_X9_ofHolder M x1 2) ≤ (tgi M 250 0) → True) ∧ (¬ (f_X9_ofHolder M x1 2) ≤ (tgi M 250 0) → True)))
theorem m_X9_locked (G : tvG) (M : tvM) (x1 : Int32) (hq : q_X9_locked M x1) : tvRun G yX9_locked cX9_locked 2 (some .boolean) 2 0 0 tvP0 tvP0 [.ref (G.2.1 + 249), .int x1] M (.inl (some (.int (f_X9_locked M x1)))) M := by
  refine tvRun.of yk_X9_locked rfl [some (.ref (G.2.1 + 249)), some (.int x1)] rfl (Nat.le_of_ble_eq_true rfl) ?_
  intro E hG C hQ; subst hG
  refine tv_aload_n C dk_X9_locked_0 rfl ?_
  refine tv_getR (r := 250) C dk_X9_locked_1 fl_RX9_9 (Nat.le_of_ble_eq_true rfl) rfl rfl (fun _ _ _ _ => rfl) ?_
  refine tv_iconst (v := 0) C dk_X9_locked_4 (by decide) ?_
  refine tv_iald (j := 0) rfl C dk_X9_locked_5 (Nat.le_of_ble_eq_true rfl) rfl (vp_in_nI (n := 0) (by decide) (by decide)) ?_
  refine tv_aload_n C dk_X9_locked_6 rfl ?_
  refine tv_iload_n C dk_X9_locked_7 rfl ?_
  refine tv_iconst (v := 2) C dk_X9_locked_8 (by decide) ?_
  have q1 := hq.2
  refine tv_cV1 C dk_X9_locked_9 ml_RX9_59 yk_X9_ofHolder yi_X9_ofHolder (m_X9_ofHolder _ M x1 2 hq.1) (Nat.le_of_ble_eq_true rfl) rfl rfl rfl rfl (Nat.le_of_ble_eq_true rfl) (Nat.le_of_ble_eq_true rfl) (Nat.le_of_ble_eq_true rfl) (Nat.le_of_ble_eq_true rfl) (Nat.le_of_ble_eq_true rfl) ?_
  refine tv_icmp_ge C dk_X9_locked_12 (fun h1 => ?_) (fun h1 => ?_)
  · have q2 := q1.1 h1
    refine tv_iconst (v := 0) C dk_X9_locked_19 (by decide) ?_
    exact tv_iret C hQ dk_X9_locked_20 rfl (by rw [f_X9_locked, if_pos h1]) rfl
  have q3 := q1.2 h1
  refine tv_iconst (v := 1) C dk_X9_locked_15 (by decide) ?_
  refine tv_goto C dk_X9_locked_16 ?_
  exact tv_iret C hQ dk_X9_locked_20 rfl (by rw [f_X9_locked, if_neg h1]) rfl
theorem fz_X9_locked {M : tvM} {x1 : Int32} : narrow .boolean (.int (f_X9_locked M x1)) = .int (f_X9_locked M x1) := by
  unfold f_X9_locked; repeat' split
  all_goals first | rfl
