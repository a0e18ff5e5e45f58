/-- TideVault.isConsistent()Z -/
def f_X8_isConsistent (M : tvM) : Int32 × tvM := (if (f_X8_doOpeningsAgree M).1 = 0 then (0, (f_X8_doOpeningsAgree M).2) else (if (f_X6_doLowMinutesAgree ((f_X8_doOpeningsAgree M).2) 1) = 0 then (0, (f_X8_doOpeningsAgree M).2) else (if (lg_cmp (f_X0_sumOfAll ((f_X8_doOpeningsAgree M).2) 1) (tgl ((f_X8_doOpeningsAgree M).2) 1 8)) = 0 then (1, (f_X8_doOpeningsAgree M).2) else (0, (f_X8_doOpeningsAgree M).2))))
theorem m_X8_isConsistent (G : tvG) (M : tvM) : tvRun G yX8_isConsistent cX8_isConsistent 1 (some .boolean) 6 0 0 tvP0 tvP0 [.ref (G.2.1 + 0)] M (.inl (some (.int (f_X8_isConsistent M).1))) ((f_X8_isConsistent M).2) := by
  refine tvRun.of yk_X8_isConsistent rfl [some (.ref (G.2.1 + 0))] rfl (Nat.le_of_ble_eq_true rfl) ?_
  intro E hG C hQ; subst hG
  refine tv_aload_n C dk_X8_isConsistent_0 rfl ?_
  refine tv_cV1 C dk_X8_isConsistent_1 ml_RX8_276 yk_X8_doOpeningsAgree yi_X8_doOpeningsAgree (n_X8_doOpeningsAgree _ M) (Nat.le_of_ble_eq_true rfl) rfl rfl rfl rfl (Nat.le_of_ble_eq_true rfl) (Nat.le_of_ble_eq_true rfl) (Nat.le_of_ble_eq_true rfl) (Nat.le_of_ble_eq_true rfl) (Nat.le_of_ble_eq_true rfl) ?_
  refine tv_if_eq C dk_X8_isConsistent_4 (fun h1 => ?_) (fun h1 => ?_)
  · refine tv_iconst (v := 0) C dk_X8_isConsistent_42 (by decide) ?_
    exact tv_iret C hQ dk_X8_isConsistent_43 rfl (by rw [f_X8_isConsistent, if_pos h1]) (by rw [f_X8_isConsistent, if_pos h1])
  refine tv_aload_n C dk_X8_isConsistent_7 rfl ?_
  refine tv_getR (r := 1) C dk_X8_isConsistent_8 fl_RX8_12 (Nat.le_of_ble_eq_true rfl) rfl rfl (fun _ _ _ _ => rfl) ?_
  refine tv_cV1 C dk_X8_isConsistent_11 ml_RX8_279 yk_X6_doLowMinutesAgree yi_X6_doLowMinutesAgree (n_X6_doLowMinutesAgree _ ((f_X8_doOpeningsAgree M).2) tvSBn_1) (tvSB_sh tvSBn_1 0 (by decide)).2 (tvSB_sh tvSBn_1 0 (by decide)).1 rfl rfl rfl (Nat.le_of_ble_eq_true rfl) (Nat.le_of_ble_eq_true rfl) (Nat.le_of_ble_eq_true rfl) (Nat.le_of_ble_eq_true rfl) (Nat.le_of_ble_eq_true rfl) ?_
  refine tv_if_eq C dk_X8_isConsistent_14 (fun h2 => ?_) (fun h2 => ?_)
  · refine tv_iconst (v := 0) C dk_X8_isConsistent_42 (by decide) ?_
    exact tv_iret C hQ dk_X8_isConsistent_43 rfl (by rw [f_X8_isConsistent, if_neg h1, if_pos h2]) (by rw [f_X8_isConsistent, if_neg h1, if_pos h2])
  refine tv_aload_n C dk_X8_isConsistent_17 rfl ?_
  refine tv_getR (r := 1) C dk_X8_isConsistent_18 fl_RX8_12 (Nat.le_of_ble_eq_true rfl) rfl rfl (fun _ _ _ _ => rfl) ?_
  refine tv_getR (r := (1 + 6)) C dk_X8_isConsistent_21 fl_RX8_75 (tvSB_sh tvSBn_1 0 (by decide)).2 (tvSB_sh tvSBn_1 0 (by decide)).1 (tvSB_rho tvSBn_1 (0, 2, 6) (by decide)) (fun _ _ _ _ => rfl) ?_
  refine tv_cV1 C dk_X8_isConsistent_24 ml_RX8_232 yk_X0_sumOfAll yi_X0_sumOfAll (n_X0_sumOfAll _ ((f_X8_doOpeningsAgree M).2) tvSBn_1) (tvSB_sh tvSBn_1 6 (by decide)).2 (tvSB_sh tvSBn_1 6 (by decide)).1 rfl rfl rfl (Nat.le_of_ble_eq_true rfl) (Nat.le_of_ble_eq_true rfl) (Nat.le_of_ble_eq_true rfl) (Nat.le_of_ble_eq_true rfl) (Nat.le_of_ble_eq_true rfl) ?_
  refine tv_aload_n C dk_X8_isConsistent_27 rfl ?_
  refine tv_getR (r := 1) C dk_X8_isConsistent_28 fl_RX8_12 (Nat.le_of_ble_eq_true rfl) rfl rfl (fun _ _ _ _ => rfl) ?_
  refine tv_getL C dk_X8_isConsistent_31 fl_RX8_236 (tvSB_sh tvSBn_1 0 (by decide)).2 (tvSB_sh tvSBn_1 0 (by decide)).1 (fun _ _ _ _ => rfl) ?_
  refine tv_lcmp C dk_X8_isConsistent_34 ?_
  refine tv_if_ne C dk_X8_isConsistent_35 (fun h3 => ?_) (fun h3 => ?_)
  · refine tv_iconst (v := 0) C dk_X8_isConsistent_42 (by decide) ?_
    exact tv_iret C hQ dk_X8_isConsistent_43 rfl (by rw [f_X8_isConsistent, if_neg h1, if_neg h2, if_neg h3]) (by rw [f_X8_isConsistent, if_neg h1, if_neg h2, if_neg h3])
  refine tv_iconst (v := 1) C dk_X8_isConsistent_38 (by decide) ?_
  refine tv_goto C dk_X8_isConsistent_39 ?_
  exact tv_iret C hQ dk_X8_isConsistent_43 rfl (by rw [f_X8_isConsistent, if_neg h1, if_neg h2, if_pos h3]) (by rw [f_X8_isConsistent, if_neg h1, if_neg h2, if_pos h3])
theorem fz_X8_isConsistent {M : tvM} : narrow .boolean (.int (f_X8_isConsistent M).1) = .int ((f_X8_isConsistent M).1) := by
  unfold f_X8_isConsistent; repeat' split
  all_goals try dsimp only
  all_goals first | rfl
