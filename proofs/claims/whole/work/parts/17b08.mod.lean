/-- TideVaultModel.wasWrongCode()Z -/
def f_X9_wasWrongCode (M : tvM) : Int32 × tvM := (if 0 ≤ (tgi M 249 7) then (if (tgi ((f_X9_isThrown M 0 1).2) 249 10) = 0 then (0, (f_X9_isThrown M 0 1).2) else (1, (f_X9_isThrown M 0 1).2)) else (0, (f_X9_isThrown M 1 1).2))
theorem m_X9_wasWrongCode (G : tvG) (M : tvM) : tvRun G yX9_wasWrongCode cX9_wasWrongCode 1 (some .boolean) 2 0 0 tvP0 tvP0 [.ref (G.2.1 + 249)] M (.inl (some (.int (f_X9_wasWrongCode M).1))) ((f_X9_wasWrongCode M).2) := by
  refine tvRun.of yk_X9_wasWrongCode rfl [some (.ref (G.2.1 + 249))] rfl (Nat.le_of_ble_eq_true rfl) ?_
  intro E hG C hQ; subst hG
  refine tv_aload_n C dk_X9_wasWrongCode_0 rfl ?_
  refine tv_aload_n C dk_X9_wasWrongCode_1 rfl ?_
  refine tv_getI C dk_X9_wasWrongCode_2 fl_RX9_26 (Nat.le_of_ble_eq_true rfl) rfl (fun _ _ _ _ => rfl) ?_
  refine tv_if_ge C dk_X9_wasWrongCode_5 (fun h1 => ?_) (fun h1 => ?_)
  · refine tv_iconst (v := 0) C dk_X9_wasWrongCode_12 (by decide) ?_
    refine tv_iconst (v := 1) C dk_X9_wasWrongCode_13 (by decide) ?_
    refine tv_cV1 C dk_X9_wasWrongCode_14 ml_RX9_62 yk_X9_isThrown yi_X9_isThrown (m_X9_isThrown _ M 0 1 (tv_qt0 _ _)) (Nat.le_of_ble_eq_true rfl) rfl rfl rfl rfl (Nat.le_of_ble_eq_true rfl) (Nat.le_of_ble_eq_true rfl) (Nat.le_of_ble_eq_true rfl) (Nat.le_of_ble_eq_true rfl) (Nat.le_of_ble_eq_true rfl) ?_
    refine tv_ti (v := 0) rfl ?_
    refine tv_if_ne C dk_X9_wasWrongCode_17 (fun h => absurd h (by decide)) (fun _ => ?_)
    refine tv_aload_n C dk_X9_wasWrongCode_20 rfl ?_
    refine tv_getI C dk_X9_wasWrongCode_21 fl_RX9_269 (Nat.le_of_ble_eq_true rfl) rfl (fun _ _ _ _ => rfl) ?_
    refine tv_if_eq C dk_X9_wasWrongCode_24 (fun h2 => ?_) (fun h2 => ?_)
    · refine tv_iconst (v := 0) C dk_X9_wasWrongCode_31 (by decide) ?_
      exact tv_iret C hQ dk_X9_wasWrongCode_32 rfl (by rw [f_X9_wasWrongCode, if_pos h1, if_pos h2]) (by rw [f_X9_wasWrongCode, if_pos h1, if_pos h2])
    refine tv_iconst (v := 1) C dk_X9_wasWrongCode_27 (by decide) ?_
    refine tv_goto C dk_X9_wasWrongCode_28 ?_
    exact tv_iret C hQ dk_X9_wasWrongCode_32 rfl (by rw [f_X9_wasWrongCode, if_pos h1, if_neg h2]) (by rw [f_X9_wasWrongCode, if_pos h1, if_neg h2])
  refine tv_iconst (v := 1) C dk_X9_wasWrongCode_8 (by decide) ?_
  refine tv_goto C dk_X9_wasWrongCode_9 ?_
  refine tv_iconst (v := 1) C dk_X9_wasWrongCode_13 (by decide) ?_
  refine tv_cV1 C dk_X9_wasWrongCode_14 ml_RX9_62 yk_X9_isThrown yi_X9_isThrown (m_X9_isThrown _ M 1 1 (tv_qt1 _ _)) (Nat.le_of_ble_eq_true rfl) rfl rfl rfl rfl (Nat.le_of_ble_eq_true rfl) (Nat.le_of_ble_eq_true rfl) (Nat.le_of_ble_eq_true rfl) (Nat.le_of_ble_eq_true rfl) (Nat.le_of_ble_eq_true rfl) ?_
  refine tv_ti (v := 1) rfl ?_
  refine tv_if_ne C dk_X9_wasWrongCode_17 (fun _ => ?_) (fun h => absurd h (by decide))
  refine tv_iconst (v := 0) C dk_X9_wasWrongCode_31 (by decide) ?_
  exact tv_iret C hQ dk_X9_wasWrongCode_32 rfl (by rw [f_X9_wasWrongCode, if_neg h1]) (by rw [f_X9_wasWrongCode, if_neg h1])
theorem fz_X9_wasWrongCode {M : tvM} : narrow .boolean (.int (f_X9_wasWrongCode M).1) = .int ((f_X9_wasWrongCode M).1) := by
  unfold f_X9_wasWrongCode; repeat' split
  all_goals try dsimp only
  all_goals first | rfl
