/-- TideVault.meanValue()D -/
def f_X8_meanValue (M : tvM) : Option String × UInt64 × tvM := (if (f_X0_pearlsInAll M 1) = 0 then ((some "java/lang/ArithmeticException"), 0, M) else (none, (FP.ddiv (FP.l2d (f_X0_sumOfAll M 1)) (FP.i2d (f_X0_pearlsInAll M 1))), M))
theorem m_X8_meanValue (G : tvG) (M : tvM) (hnn : ¬ (f_X0_pearlsInAll M 1) = 0 → vf_n64 (FP.ddiv (FP.l2d (f_X0_sumOfAll M 1)) (FP.i2d (f_X0_pearlsInAll M 1)))) : tvRun G yX8_meanValue cX8_meanValue 2 (some .double) 6 1 6 tvP0 tvP0 [.ref (G.2.1 + 0)] M (tvOx (some (.double (f_X8_meanValue M).2.1)) (f_X8_meanValue M).1) M := by
  refine tvRun.of yk_X8_meanValue rfl [some (.ref (G.2.1 + 0)), none] rfl (Nat.le_of_ble_eq_true rfl) ?_
  intro E hG C hQ; subst hG
  refine tv_aload_n C dk_X8_meanValue_0 rfl ?_
  refine tv_getR (r := 1) C dk_X8_meanValue_1 fl_RX8_12 (Nat.le_of_ble_eq_true rfl) rfl rfl (fun _ _ _ _ => rfl) ?_
  refine tv_getR (r := (1 + 6)) C dk_X8_meanValue_4 fl_RX8_75 (tvSB_sh tvSBn_1 0 (by decide)).2 (tvSB_sh tvSBn_1 0 (by decide)).1 (tvSB_rho tvSBn_1 (0, 2, 6) (by decide)) (fun _ _ _ _ => rfl) ?_
  refine tv_cV1 C dk_X8_meanValue_7 ml_RX8_240 yk_X0_pearlsInAll yi_X0_pearlsInAll (n_X0_pearlsInAll _ M tvSBn_1) (tvSB_sh tvSBn_1 6 (by decide)).2 (tvSB_sh tvSBn_1 6 (by decide)).1 rfl rfl rfl (Nat.le_of_ble_eq_true rfl) (Nat.le_of_ble_eq_true rfl) (Nat.le_of_ble_eq_true rfl) (Nat.le_of_ble_eq_true rfl) (Nat.le_of_ble_eq_true rfl) ?_
  refine tv_istore_n (L' := [_, _]) (hn := by decide) (hlt := (Nat.le_of_ble_eq_true rfl)) (hno := rfl) C dk_X8_meanValue_10 rfl ?_
  refine tv_iload_n C dk_X8_meanValue_11 rfl ?_
  refine tv_if_ne C dk_X8_meanValue_12 (fun h1 => ?_) (fun h1 => ?_)
  · refine tv_aload_n C dk_X8_meanValue_25 rfl ?_
    refine tv_getR (r := 1) C dk_X8_meanValue_26 fl_RX8_12 (Nat.le_of_ble_eq_true rfl) rfl rfl (fun _ _ _ _ => rfl) ?_
    refine tv_getR (r := (1 + 6)) C dk_X8_meanValue_29 fl_RX8_75 (tvSB_sh tvSBn_1 0 (by decide)).2 (tvSB_sh tvSBn_1 0 (by decide)).1 (tvSB_rho tvSBn_1 (0, 2, 6) (by decide)) (fun _ _ _ _ => rfl) ?_
    refine tv_cV1 C dk_X8_meanValue_32 ml_RX8_232 yk_X0_sumOfAll yi_X0_sumOfAll (n_X0_sumOfAll _ M tvSBn_1) (tvSB_sh tvSBn_1 6 (by decide)).2 (tvSB_sh tvSBn_1 6 (by decide)).1 rfl rfl rfl (Nat.le_of_ble_eq_true rfl) (Nat.le_of_ble_eq_true rfl) (Nat.le_of_ble_eq_true rfl) (Nat.le_of_ble_eq_true rfl) (Nat.le_of_ble_eq_true rfl) ?_
    refine tv_l2d C dk_X8_meanValue_35 ?_
    refine tv_iload_n C dk_X8_meanValue_36 rfl ?_
    refine tv_i2d C dk_X8_meanValue_37 ?_
    refine tv_ddiv C dk_X8_meanValue_38 (hnn h1) ?_
    exact tv_dret C hQ dk_X8_meanValue_39 (by rw [f_X8_meanValue, if_neg h1]; rfl) rfl
  exact tv_throw C tvP0_ex hQ th_RX8_244_246 dk_X8_meanValue_15 dk_X8_meanValue_18 dk_X8_meanValue_19 dk_X8_meanValue_21 dk_X8_meanValue_24 (Nat.le_of_ble_eq_true rfl) (Nat.le_of_ble_eq_true rfl) (by rw [f_X8_meanValue, if_pos h1]; rfl) (rfl)
/-- TideVault.failureRate()F -/
def f_X8_failureRate (M : tvM) : Option String × UInt32 × tvM := (if (tgi M 1 6) = 0 then ((some "java/lang/ArithmeticException"), 0, M) else (none, (FP.fdiv (FP.i2f (tgi M 1 7)) (FP.i2f (tgi M 1 6))), M))
theorem m_X8_failureRate (G : tvG) (M : tvM) (hnn : ¬ (tgi M 1 6) = 0 → vf_n32 (FP.fdiv (FP.i2f (tgi M 1 7)) (FP.i2f (tgi M 1 6)))) : tvRun G yX8_failureRate cX8_failureRate 1 (some .float) 6 1 6 tvP0 tvP0 [.ref (G.2.1 + 0)] M (tvOx (some (.float (f_X8_failureRate M).2.1)) (f_X8_failureRate M).1) M := by
  refine tvRun.of yk_X8_failureRate rfl [some (.ref (G.2.1 + 0))] rfl (Nat.le_of_ble_eq_true rfl) ?_
  intro E hG C hQ; subst hG
  refine tv_aload_n C dk_X8_failureRate_0 rfl ?_
  refine tv_getR (r := 1) C dk_X8_failureRate_1 fl_RX8_12 (Nat.le_of_ble_eq_true rfl) rfl rfl (fun _ _ _ _ => rfl) ?_
  refine tv_getI C dk_X8_failureRate_4 fl_RX8_249 (tvSB_sh tvSBn_1 0 (by decide)).2 (tvSB_sh tvSBn_1 0 (by decide)).1 (fun _ _ _ _ => rfl) ?_
  refine tv_if_ne C dk_X8_failureRate_7 (fun h1 => ?_) (fun h1 => ?_)
  · refine tv_aload_n C dk_X8_failureRate_20 rfl ?_
    refine tv_getR (r := 1) C dk_X8_failureRate_21 fl_RX8_12 (Nat.le_of_ble_eq_true rfl) rfl rfl (fun _ _ _ _ => rfl) ?_
    refine tv_getI C dk_X8_failureRate_24 fl_RX8_254 (tvSB_sh tvSBn_1 0 (by decide)).2 (tvSB_sh tvSBn_1 0 (by decide)).1 (fun _ _ _ _ => rfl) ?_
    refine tv_i2f C dk_X8_failureRate_27 ?_
    refine tv_aload_n C dk_X8_failureRate_28 rfl ?_
    refine tv_getR (r := 1) C dk_X8_failureRate_29 fl_RX8_12 (Nat.le_of_ble_eq_true rfl) rfl rfl (fun _ _ _ _ => rfl) ?_
    refine tv_getI C dk_X8_failureRate_32 fl_RX8_249 (tvSB_sh tvSBn_1 0 (by decide)).2 (tvSB_sh tvSBn_1 0 (by decide)).1 (fun _ _ _ _ => rfl) ?_
    refine tv_i2f C dk_X8_failureRate_35 ?_
    refine tv_fdiv C dk_X8_failureRate_36 (hnn h1) ?_
    exact tv_fret C hQ dk_X8_failureRate_37 (by rw [f_X8_failureRate, if_neg h1]; rfl) rfl
  exact tv_throw C tvP0_ex hQ th_RX8_244_252 dk_X8_failureRate_10 dk_X8_failureRate_13 dk_X8_failureRate_14 dk_X8_failureRate_16 dk_X8_failureRate_19 (Nat.le_of_ble_eq_true rfl) (Nat.le_of_ble_eq_true rfl) (by rw [f_X8_failureRate, if_pos h1]; rfl) (rfl)
