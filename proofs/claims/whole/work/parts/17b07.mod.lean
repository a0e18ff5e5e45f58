/-- TideVaultModel.type(C)I -/
def f_X9_type (M : tvM) (x1 : Int32) : Int32 × tvM := (if (tgi M 249 15) = 60 then (0, (f_X9_isThrown M 1 1).2) else ((tgi (tpi (tpi ((f_X9_isThrown M 0 1).2) 255 (tgi ((f_X9_isThrown M 0 1).2) 249 15).toNatClampNeg x1) 249 15 ((tgi (tpi ((f_X9_isThrown M 0 1).2) 255 (tgi ((f_X9_isThrown M 0 1).2) 249 15).toNatClampNeg x1) 249 15) + 1)) 249 15), (tpi (tpi ((f_X9_isThrown M 0 1).2) 255 (tgi ((f_X9_isThrown M 0 1).2) 249 15).toNatClampNeg x1) 249 15 ((tgi (tpi ((f_X9_isThrown M 0 1).2) 255 (tgi ((f_X9_isThrown M 0 1).2) 249 15).toNatClampNeg x1) 249 15) + 1))))
def q_X9_type (M : tvM) (x1 : Int32) : Prop := (((tgi M 249 15) = 60 → True) ∧ (¬ (tgi M 249 15) = 60 → (vp_in (tgi ((f_X9_isThrown M 0 1).2) 249 15) 60 ∧ True)))
theorem m_X9_type (G : tvG) (M : tvM) (x1 : Int32) (hq : q_X9_type M x1) : tvRun G yX9_type cX9_type 2 (some .int) 2 0 0 tvP0 tvP0 [.ref (G.2.1 + 249), .int x1] M (.inl (some (.int (f_X9_type M x1).1))) ((f_X9_type M x1).2) := by
  refine tvRun.of yk_X9_type rfl [some (.ref (G.2.1 + 249)), some (.int x1)] rfl (Nat.le_of_ble_eq_true rfl) ?_
  intro E hG C hQ; subst hG
  refine tv_aload_n C dk_X9_type_0 rfl ?_
  refine tv_aload_n C dk_X9_type_1 rfl ?_
  refine tv_getI C dk_X9_type_2 fl_RX9_196 (Nat.le_of_ble_eq_true rfl) rfl (fun _ _ _ _ => rfl) ?_
  refine tv_bipush (v := 60) C dk_X9_type_5 (by decide) ?_
  refine tv_icmp_ne C dk_X9_type_7 (fun h1 => ?_) (fun h1 => ?_)
  · have q1 := hq.2 h1
    refine tv_iconst (v := 0) C dk_X9_type_14 (by decide) ?_
    refine tv_iconst (v := 1) C dk_X9_type_15 (by decide) ?_
    refine tv_cV1 C dk_X9_type_16 ml_RX9_62 yk_X9_isThrown yi_X9_isThrown (m_X9_isThrown _ M 0 1 (tv_qt0 _ _)) (Nat.le_of_ble_eq_true rfl) rfl rfl rfl rfl (Nat.le_of_ble_eq_true rfl) (Nat.le_of_ble_eq_true rfl) (Nat.le_of_ble_eq_true rfl) (Nat.le_of_ble_eq_true rfl) (Nat.le_of_ble_eq_true rfl) ?_
    refine tv_ti (v := 0) rfl ?_
    refine tv_if_eq C dk_X9_type_19 (fun _ => ?_) (fun h => absurd h (by decide))
    refine tv_aload_n C dk_X9_type_24 rfl ?_
    refine tv_getR (r := 255) C dk_X9_type_25 fl_RX9_32 (Nat.le_of_ble_eq_true rfl) rfl rfl (fun _ _ _ _ => rfl) ?_
    refine tv_aload_n C dk_X9_type_28 rfl ?_
    refine tv_getI C dk_X9_type_29 fl_RX9_196 (Nat.le_of_ble_eq_true rfl) rfl (fun _ _ _ _ => rfl) ?_
    refine tv_iload_n C dk_X9_type_32 rfl ?_
    have q2 := q1.2
    refine tv_iast (j := (tgi ((f_X9_isThrown M 0 1).2) 249 15).toNatClampNeg) rfl C tvP0_ex dk_X9_type_33 (Nat.le_of_ble_eq_true rfl) rfl q1.1 ?_
    refine tv_aload_n C dk_X9_type_34 rfl ?_
    refine tv_dup C dk_X9_type_35 rfl ?_
    refine tv_getI C dk_X9_type_36 fl_RX9_196 (Nat.le_of_ble_eq_true rfl) rfl (fun _ _ _ _ => rfl) ?_
    refine tv_iconst (v := 1) C dk_X9_type_39 (by decide) ?_
    refine tv_iadd C dk_X9_type_40 ?_
    refine tv_putI C tvP0_ex dk_X9_type_41 fl_RX9_196 fw_9_15 (Nat.le_of_ble_eq_true rfl) rfl rfl (fun _ _ _ _ _ => rfl) rfl rfl ?_
    refine tv_aload_n C dk_X9_type_44 rfl ?_
    refine tv_getI C dk_X9_type_45 fl_RX9_196 (Nat.le_of_ble_eq_true rfl) rfl (fun _ _ _ _ => rfl) ?_
    exact tv_iret C hQ dk_X9_type_48 rfl (by rw [f_X9_type, if_neg h1]) (by rw [f_X9_type, if_neg h1])
  have q3 := hq.1 h1
  refine tv_iconst (v := 1) C dk_X9_type_10 (by decide) ?_
  refine tv_goto C dk_X9_type_11 ?_
  refine tv_iconst (v := 1) C dk_X9_type_15 (by decide) ?_
  refine tv_cV1 C dk_X9_type_16 ml_RX9_62 yk_X9_isThrown yi_X9_isThrown (m_X9_isThrown _ M 1 1 (tv_qt1 _ _)) (Nat.le_of_ble_eq_true rfl) rfl rfl rfl rfl (Nat.le_of_ble_eq_true rfl) (Nat.le_of_ble_eq_true rfl) (Nat.le_of_ble_eq_true rfl) (Nat.le_of_ble_eq_true rfl) (Nat.le_of_ble_eq_true rfl) ?_
  refine tv_ti (v := 1) rfl ?_
  refine tv_if_eq C dk_X9_type_19 (fun h => absurd h (by decide)) (fun _ => ?_)
  refine tv_iconst (v := 0) C dk_X9_type_22 (by decide) ?_
  exact tv_iret C hQ dk_X9_type_23 rfl (by rw [f_X9_type, if_pos h1]) (by rw [f_X9_type, if_pos h1])
/-- TideVaultModel.now()I -/
def f_X9_now (M : tvM) : Int32 := (if (tgi M 249 15) ≤ (tgi M 249 16) then (-1) else (tgi M 255 (tgi M 249 16).toNatClampNeg))
def q_X9_now (M : tvM) : Prop := (((tgi M 249 15) ≤ (tgi M 249 16) → True) ∧ (¬ (tgi M 249 15) ≤ (tgi M 249 16) → (vp_in (tgi M 249 16) 60 ∧ True)))
theorem m_X9_now (G : tvG) (M : tvM) (hq : q_X9_now M) : tvRun G yX9_now cX9_now 1 (some .int) 1 0 0 tvP0 tvP0 [.ref (G.2.1 + 249)] M (.inl (some (.int (f_X9_now M)))) M := by
  refine tvRun.of yk_X9_now rfl [some (.ref (G.2.1 + 249))] rfl (Nat.le_of_ble_eq_true rfl) ?_
  intro E hG C hQ; subst hG
  refine tv_aload_n C dk_X9_now_0 rfl ?_
  refine tv_getI C dk_X9_now_1 fl_RX9_199 (Nat.le_of_ble_eq_true rfl) rfl (fun _ _ _ _ => rfl) ?_
  refine tv_aload_n C dk_X9_now_4 rfl ?_
  refine tv_getI C dk_X9_now_5 fl_RX9_196 (Nat.le_of_ble_eq_true rfl) rfl (fun _ _ _ _ => rfl) ?_
  refine tv_icmp_ge C dk_X9_now_8 (fun h1 => ?_) (fun h1 => ?_)
  · have q1 := hq.1 h1
    refine tv_iconst (v := (-1)) C dk_X9_now_23 (by decide) ?_
    exact tv_iret C hQ dk_X9_now_24 rfl (by rw [f_X9_now, if_pos h1]) rfl
  have q2 := hq.2 h1
  refine tv_aload_n C dk_X9_now_11 rfl ?_
  refine tv_getR (r := 255) C dk_X9_now_12 fl_RX9_32 (Nat.le_of_ble_eq_true rfl) rfl rfl (fun _ _ _ _ => rfl) ?_
  refine tv_aload_n C dk_X9_now_15 rfl ?_
  refine tv_getI C dk_X9_now_16 fl_RX9_199 (Nat.le_of_ble_eq_true rfl) rfl (fun _ _ _ _ => rfl) ?_
  have q3 := q2.2
  refine tv_iald (j := (tgi M 249 16).toNatClampNeg) rfl C dk_X9_now_19 (Nat.le_of_ble_eq_true rfl) rfl q2.1 ?_
  refine tv_goto C dk_X9_now_20 ?_
  exact tv_iret C hQ dk_X9_now_24 rfl (by rw [f_X9_now, if_neg h1]) rfl
/-- TideVaultModel.isSign(I)Z -/
def f_X9_isSign (M : tvM) (x1 : Int32) : Int32 × tvM := (if (f_X9_now M) = x1 then (1, (tpi M 249 16 ((tgi M 249 16) + 1))) else (0, (tpi M 249 16 ((tgi M 249 16) + 0))))
def q_X9_isSign (M : tvM) (x1 : Int32) : Prop := ((q_X9_now M) ∧ (((f_X9_now M) = x1 → True) ∧ (¬ (f_X9_now M) = x1 → True)))
theorem m_X9_isSign (G : tvG) (M : tvM) (x1 : Int32) (hq : q_X9_isSign M x1) : tvRun G yX9_isSign cX9_isSign 3 (some .boolean) 2 0 0 tvP0 tvP0 [.ref (G.2.1 + 249), .int x1] M (.inl (some (.int (f_X9_isSign M x1).1))) ((f_X9_isSign M x1).2) := by
  refine tvRun.of yk_X9_isSign rfl [some (.ref (G.2.1 + 249)), some (.int x1), none] rfl (Nat.le_of_ble_eq_true rfl) ?_
  intro E hG C hQ; subst hG
  refine tv_aload_n C dk_X9_isSign_0 rfl ?_
  have q1 := hq.2
  refine tv_cV1 C dk_X9_isSign_1 ml_RX9_202 yk_X9_now yi_X9_now (m_X9_now _ M hq.1) (Nat.le_of_ble_eq_true rfl) rfl rfl rfl rfl (Nat.le_of_ble_eq_true rfl) (Nat.le_of_ble_eq_true rfl) (Nat.le_of_ble_eq_true rfl) (Nat.le_of_ble_eq_true rfl) (Nat.le_of_ble_eq_true rfl) ?_
  refine tv_iload_n C dk_X9_isSign_4 rfl ?_
  refine tv_icmp_ne C dk_X9_isSign_5 (fun h1 => ?_) (fun h1 => ?_)
  · have q2 := q1.2 h1
    refine tv_iconst (v := 0) C dk_X9_isSign_12 (by decide) ?_
    refine tv_istore_n (L' := [_, _, _]) (hn := by decide) (hlt := (Nat.le_of_ble_eq_true rfl)) (hno := rfl) C dk_X9_isSign_13 rfl ?_
    refine tv_aload_n C dk_X9_isSign_14 rfl ?_
    refine tv_dup C dk_X9_isSign_15 rfl ?_
    refine tv_getI C dk_X9_isSign_16 fl_RX9_199 (Nat.le_of_ble_eq_true rfl) rfl (fun _ _ _ _ => rfl) ?_
    refine tv_iload_n C dk_X9_isSign_19 rfl ?_
    refine tv_if_eq C dk_X9_isSign_20 (fun _ => ?_) (fun h => absurd h (by decide))
    refine tv_iconst (v := 0) C dk_X9_isSign_27 (by decide) ?_
    refine tv_iadd C dk_X9_isSign_28 ?_
    refine tv_putI C tvP0_ex dk_X9_isSign_29 fl_RX9_199 fw_9_16 (Nat.le_of_ble_eq_true rfl) rfl rfl (fun _ _ _ _ _ => rfl) rfl rfl ?_
    refine tv_iload_n C dk_X9_isSign_32 rfl ?_
    exact tv_iret C hQ dk_X9_isSign_33 rfl (by rw [f_X9_isSign, if_neg h1]) (by rw [f_X9_isSign, if_neg h1])
  have q3 := q1.1 h1
  refine tv_iconst (v := 1) C dk_X9_isSign_8 (by decide) ?_
  refine tv_goto C dk_X9_isSign_9 ?_
  refine tv_istore_n (L' := [_, _, _]) (hn := by decide) (hlt := (Nat.le_of_ble_eq_true rfl)) (hno := rfl) C dk_X9_isSign_13 rfl ?_
  refine tv_aload_n C dk_X9_isSign_14 rfl ?_
  refine tv_dup C dk_X9_isSign_15 rfl ?_
  refine tv_getI C dk_X9_isSign_16 fl_RX9_199 (Nat.le_of_ble_eq_true rfl) rfl (fun _ _ _ _ => rfl) ?_
  refine tv_iload_n C dk_X9_isSign_19 rfl ?_
  refine tv_if_eq C dk_X9_isSign_20 (fun h => absurd h (by decide)) (fun _ => ?_)
  refine tv_iconst (v := 1) C dk_X9_isSign_23 (by decide) ?_
  refine tv_goto C dk_X9_isSign_24 ?_
  refine tv_iadd C dk_X9_isSign_28 ?_
  refine tv_putI C tvP0_ex dk_X9_isSign_29 fl_RX9_199 fw_9_16 (Nat.le_of_ble_eq_true rfl) rfl rfl (fun _ _ _ _ _ => rfl) rfl rfl ?_
  refine tv_iload_n C dk_X9_isSign_32 rfl ?_
  exact tv_iret C hQ dk_X9_isSign_33 rfl (by rw [f_X9_isSign, if_pos h1]) (by rw [f_X9_isSign, if_pos h1])
theorem fz_X9_isSign {M : tvM} {x1 : Int32} : narrow .boolean (.int (f_X9_isSign M x1).1) = .int ((f_X9_isSign M x1).1) := by
  unfold f_X9_isSign; repeat' split
  all_goals try dsimp only
  all_goals first | rfl
/-- TideVaultModel.isFirst(I)Z -/
def f_X9_isFirst (M : tvM) (x1 : Int32) : Int32 := (if x1 = 104 then 1 else (if x1 = 98 then 1 else (if x1 = 116 then 1 else (if x1 = 99 then 1 else (if x1 = 112 then 1 else (if x1 = 119 then 1 else 0))))))
theorem m_X9_isFirst (G : tvG) (M : tvM) (x1 : Int32) : tvRun G yX9_isFirst cX9_isFirst 1 (some .boolean) 1 0 0 tvP0 tvP0 [.int x1] M (.inl (some (.int (f_X9_isFirst M x1)))) M := by
  refine tvRun.of yk_X9_isFirst rfl [some (.int x1)] rfl (Nat.le_of_ble_eq_true rfl) ?_
  intro E hG C hQ; subst hG
  refine tv_iload_n C dk_X9_isFirst_0 rfl ?_
  refine tv_bipush (v := 104) C dk_X9_isFirst_1 (by decide) ?_
  refine tv_icmp_eq C dk_X9_isFirst_3 (fun h1 => ?_) (fun h1 => ?_)
  · refine tv_iconst (v := 1) C dk_X9_isFirst_36 (by decide) ?_
    refine tv_goto C dk_X9_isFirst_37 ?_
    exact tv_iret C hQ dk_X9_isFirst_41 rfl (by rw [f_X9_isFirst, if_pos h1]) rfl
  refine tv_iload_n C dk_X9_isFirst_6 rfl ?_
  refine tv_bipush (v := 98) C dk_X9_isFirst_7 (by decide) ?_
  refine tv_icmp_eq C dk_X9_isFirst_9 (fun h2 => ?_) (fun h2 => ?_)
  · refine tv_iconst (v := 1) C dk_X9_isFirst_36 (by decide) ?_
    refine tv_goto C dk_X9_isFirst_37 ?_
    exact tv_iret C hQ dk_X9_isFirst_41 rfl (by rw [f_X9_isFirst, if_neg h1, if_pos h2]) rfl
  refine tv_iload_n C dk_X9_isFirst_12 rfl ?_
  refine tv_bipush (v := 116) C dk_X9_isFirst_13 (by decide) ?_
  refine tv_icmp_eq C dk_X9_isFirst_15 (fun h3 => ?_) (fun h3 => ?_)
  · refine tv_iconst (v := 1) C dk_X9_isFirst_36 (by decide) ?_
    refine tv_goto C dk_X9_isFirst_37 ?_
    exact tv_iret C hQ dk_X9_isFirst_41 rfl (by rw [f_X9_isFirst, if_neg h1, if_neg h2, if_pos h3]) rfl
  refine tv_iload_n C dk_X9_isFirst_18 rfl ?_
  refine tv_bipush (v := 99) C dk_X9_isFirst_19 (by decide) ?_
  refine tv_icmp_eq C dk_X9_isFirst_21 (fun h4 => ?_) (fun h4 => ?_)
  · refine tv_iconst (v := 1) C dk_X9_isFirst_36 (by decide) ?_
    refine tv_goto C dk_X9_isFirst_37 ?_
    exact tv_iret C hQ dk_X9_isFirst_41 rfl (by rw [f_X9_isFirst, if_neg h1, if_neg h2, if_neg h3, if_pos h4]) rfl
  refine tv_iload_n C dk_X9_isFirst_24 rfl ?_
  refine tv_bipush (v := 112) C dk_X9_isFirst_25 (by decide) ?_
  refine tv_icmp_eq C dk_X9_isFirst_27 (fun h5 => ?_) (fun h5 => ?_)
  · refine tv_iconst (v := 1) C dk_X9_isFirst_36 (by decide) ?_
    refine tv_goto C dk_X9_isFirst_37 ?_
    exact tv_iret C hQ dk_X9_isFirst_41 rfl (by rw [f_X9_isFirst, if_neg h1, if_neg h2, if_neg h3, if_neg h4, if_pos h5]) rfl
  refine tv_iload_n C dk_X9_isFirst_30 rfl ?_
  refine tv_bipush (v := 119) C dk_X9_isFirst_31 (by decide) ?_
  refine tv_icmp_ne C dk_X9_isFirst_33 (fun h6 => ?_) (fun h6 => ?_)
  · refine tv_iconst (v := 0) C dk_X9_isFirst_40 (by decide) ?_
    exact tv_iret C hQ dk_X9_isFirst_41 rfl (by rw [f_X9_isFirst, if_neg h1, if_neg h2, if_neg h3, if_neg h4, if_neg h5, if_neg h6]) rfl
  refine tv_iconst (v := 1) C dk_X9_isFirst_36 (by decide) ?_
  refine tv_goto C dk_X9_isFirst_37 ?_
  exact tv_iret C hQ dk_X9_isFirst_41 rfl (by rw [f_X9_isFirst, if_neg h1, if_neg h2, if_neg h3, if_neg h4, if_neg h5, if_pos h6]) rfl
theorem fz_X9_isFirst {M : tvM} {x1 : Int32} : narrow .boolean (.int (f_X9_isFirst M x1)) = .int (f_X9_isFirst M x1) := by
  unfold f_X9_isFirst; repeat' split
  all_goals first | rfl
/-- TideVaultModel.errorPosition()I -/
def f_X9_errorPosition (M : tvM) : Int32 × tvM := (if 0 ≤ (tgi M 249 6) then ((tgi ((f_X9_isThrown M 0 1).2) 249 6), (f_X9_isThrown M 0 1).2) else (0, (f_X9_isThrown M 1 1).2))
theorem m_X9_errorPosition (G : tvG) (M : tvM) : tvRun G yX9_errorPosition cX9_errorPosition 1 (some .int) 2 0 0 tvP0 tvP0 [.ref (G.2.1 + 249)] M (.inl (some (.int (f_X9_errorPosition M).1))) ((f_X9_errorPosition M).2) := by
  refine tvRun.of yk_X9_errorPosition rfl [some (.ref (G.2.1 + 249))] rfl (Nat.le_of_ble_eq_true rfl) ?_
  intro E hG C hQ; subst hG
  refine tv_aload_n C dk_X9_errorPosition_0 rfl ?_
  refine tv_aload_n C dk_X9_errorPosition_1 rfl ?_
  refine tv_getI C dk_X9_errorPosition_2 fl_RX9_22 (Nat.le_of_ble_eq_true rfl) rfl (fun _ _ _ _ => rfl) ?_
  refine tv_if_ge C dk_X9_errorPosition_5 (fun h1 => ?_) (fun h1 => ?_)
  · refine tv_iconst (v := 0) C dk_X9_errorPosition_12 (by decide) ?_
    refine tv_iconst (v := 1) C dk_X9_errorPosition_13 (by decide) ?_
    refine tv_cV1 C dk_X9_errorPosition_14 ml_RX9_62 yk_X9_isThrown yi_X9_isThrown (m_X9_isThrown _ M 0 1 (tv_qt0 _ _)) (Nat.le_of_ble_eq_true rfl) rfl rfl rfl rfl (Nat.le_of_ble_eq_true rfl) (Nat.le_of_ble_eq_true rfl) (Nat.le_of_ble_eq_true rfl) (Nat.le_of_ble_eq_true rfl) (Nat.le_of_ble_eq_true rfl) ?_
    refine tv_ti (v := 0) rfl ?_
    refine tv_if_eq C dk_X9_errorPosition_17 (fun _ => ?_) (fun h => absurd h (by decide))
    refine tv_aload_n C dk_X9_errorPosition_24 rfl ?_
    refine tv_getI C dk_X9_errorPosition_25 fl_RX9_22 (Nat.le_of_ble_eq_true rfl) rfl (fun _ _ _ _ => rfl) ?_
    exact tv_iret C hQ dk_X9_errorPosition_28 rfl (by rw [f_X9_errorPosition, if_pos h1]) (by rw [f_X9_errorPosition, if_pos h1])
  refine tv_iconst (v := 1) C dk_X9_errorPosition_8 (by decide) ?_
  refine tv_goto C dk_X9_errorPosition_9 ?_
  refine tv_iconst (v := 1) C dk_X9_errorPosition_13 (by decide) ?_
  refine tv_cV1 C dk_X9_errorPosition_14 ml_RX9_62 yk_X9_isThrown yi_X9_isThrown (m_X9_isThrown _ M 1 1 (tv_qt1 _ _)) (Nat.le_of_ble_eq_true rfl) rfl rfl rfl rfl (Nat.le_of_ble_eq_true rfl) (Nat.le_of_ble_eq_true rfl) (Nat.le_of_ble_eq_true rfl) (Nat.le_of_ble_eq_true rfl) (Nat.le_of_ble_eq_true rfl) ?_
  refine tv_ti (v := 1) rfl ?_
  refine tv_if_eq C dk_X9_errorPosition_17 (fun h => absurd h (by decide)) (fun _ => ?_)
  refine tv_iconst (v := 0) C dk_X9_errorPosition_20 (by decide) ?_
  refine tv_goto C dk_X9_errorPosition_21 ?_
  exact tv_iret C hQ dk_X9_errorPosition_28 rfl (by rw [f_X9_errorPosition, if_neg h1]) (by rw [f_X9_errorPosition, if_neg h1])
/-- TideVaultModel.failedCommand()I -/
def f_X9_failedCommand (M : tvM) : Int32 × tvM := (if 0 ≤ (tgi M 249 7) then ((tgi ((f_X9_isThrown M 0 1).2) 249 7), (f_X9_isThrown M 0 1).2) else (0, (f_X9_isThrown M 1 1).2))
theorem m_X9_failedCommand (G : tvG) (M : tvM) : tvRun G yX9_failedCommand cX9_failedCommand 1 (some .int) 2 0 0 tvP0 tvP0 [.ref (G.2.1 + 249)] M (.inl (some (.int (f_X9_failedCommand M).1))) ((f_X9_failedCommand M).2) := by
  refine tvRun.of yk_X9_failedCommand rfl [some (.ref (G.2.1 + 249))] rfl (Nat.le_of_ble_eq_true rfl) ?_
  intro E hG C hQ; subst hG
  refine tv_aload_n C dk_X9_failedCommand_0 rfl ?_
  refine tv_aload_n C dk_X9_failedCommand_1 rfl ?_
  refine tv_getI C dk_X9_failedCommand_2 fl_RX9_26 (Nat.le_of_ble_eq_true rfl) rfl (fun _ _ _ _ => rfl) ?_
  refine tv_if_ge C dk_X9_failedCommand_5 (fun h1 => ?_) (fun h1 => ?_)
  · refine tv_iconst (v := 0) C dk_X9_failedCommand_12 (by decide) ?_
    refine tv_iconst (v := 1) C dk_X9_failedCommand_13 (by decide) ?_
    refine tv_cV1 C dk_X9_failedCommand_14 ml_RX9_62 yk_X9_isThrown yi_X9_isThrown (m_X9_isThrown _ M 0 1 (tv_qt0 _ _)) (Nat.le_of_ble_eq_true rfl) rfl rfl rfl rfl (Nat.le_of_ble_eq_true rfl) (Nat.le_of_ble_eq_true rfl) (Nat.le_of_ble_eq_true rfl) (Nat.le_of_ble_eq_true rfl) (Nat.le_of_ble_eq_true rfl) ?_
    refine tv_ti (v := 0) rfl ?_
    refine tv_if_eq C dk_X9_failedCommand_17 (fun _ => ?_) (fun h => absurd h (by decide))
    refine tv_aload_n C dk_X9_failedCommand_24 rfl ?_
    refine tv_getI C dk_X9_failedCommand_25 fl_RX9_26 (Nat.le_of_ble_eq_true rfl) rfl (fun _ _ _ _ => rfl) ?_
    exact tv_iret C hQ dk_X9_failedCommand_28 rfl (by rw [f_X9_failedCommand, if_pos h1]) (by rw [f_X9_failedCommand, if_pos h1])
  refine tv_iconst (v := 1) C dk_X9_failedCommand_8 (by decide) ?_
  refine tv_goto C dk_X9_failedCommand_9 ?_
  refine tv_iconst (v := 1) C dk_X9_failedCommand_13 (by decide) ?_
  refine tv_cV1 C dk_X9_failedCommand_14 ml_RX9_62 yk_X9_isThrown yi_X9_isThrown (m_X9_isThrown _ M 1 1 (tv_qt1 _ _)) (Nat.le_of_ble_eq_true rfl) rfl rfl rfl rfl (Nat.le_of_ble_eq_true rfl) (Nat.le_of_ble_eq_true rfl) (Nat.le_of_ble_eq_true rfl) (Nat.le_of_ble_eq_true rfl) (Nat.le_of_ble_eq_true rfl) ?_
  refine tv_ti (v := 1) rfl ?_
  refine tv_if_eq C dk_X9_failedCommand_17 (fun h => absurd h (by decide)) (fun _ => ?_)
  refine tv_iconst (v := 0) C dk_X9_failedCommand_20 (by decide) ?_
  refine tv_goto C dk_X9_failedCommand_21 ?_
  exact tv_iret C hQ dk_X9_failedCommand_28 rfl (by rw [f_X9_failedCommand, if_neg h1]) (by rw [f_X9_failedCommand, if_neg h1])
