/-- TideVault.pass(I)I -/
def f_X8_pass (M : tvM) (x1 : Int32) : Option String × Int32 × tvM := (if (f_X8_refuse M (f_X6_refusalOfWait M 1 x1)).1 = none then (none, (f_X6_letPass (f_X1_keep M) 1 x1).1, (f_X6_letPass (f_X1_keep M) 1 x1).2) else ((f_X8_refuse M (f_X6_refusalOfWait M 1 x1)).1, 0, M))
theorem m_X8_pass (G : tvG) (M : tvM) (x1 : Int32) : tvRun G yX8_pass cX8_pass 2 (some .int) 7 1 6 tvP0 tvP0 [.ref (G.2.1 + 0), .int x1] M (tvOx (some (.int (f_X8_pass M x1).2.1)) (f_X8_pass M x1).1) ((f_X8_pass M x1).2.2) := by
  refine tvRun.of yk_X8_pass rfl [some (.ref (G.2.1 + 0)), some (.int x1)] rfl (Nat.le_of_ble_eq_true rfl) ?_
  intro E hG C hQ; subst hG
  refine tv_aload_n C dk_X8_pass_0 rfl ?_
  refine tv_getR (r := 1) C dk_X8_pass_1 fl_RX8_12 (Nat.le_of_ble_eq_true rfl) rfl rfl (fun _ _ _ _ => rfl) ?_
  refine tv_iload_n C dk_X8_pass_4 rfl ?_
  refine tv_cV1 C dk_X8_pass_5 ml_RX8_131 yk_X6_refusalOfWait yi_X6_refusalOfWait (m_X6_refusalOfWait _ M tvSBn_1 x1) (tvSB_sh tvSBn_1 0 (by decide)).2 (tvSB_sh tvSBn_1 0 (by decide)).1 rfl rfl rfl (Nat.le_of_ble_eq_true rfl) (Nat.le_of_ble_eq_true rfl) (Nat.le_of_ble_eq_true rfl) (Nat.le_of_ble_eq_true rfl) (Nat.le_of_ble_eq_true rfl) ?_
  refine tv_cSx C dk_X8_pass_8 ml_RX8_54 yk_X8_refuse yi_X8_refuse (n_X8_refuse _ M (f_X6_refusalOfWait M 1 x1)) rfl rfl (Nat.le_of_ble_eq_true rfl) (Nat.le_of_ble_eq_true rfl) (Nat.le_of_ble_eq_true rfl) (Nat.le_of_ble_eq_true rfl) (Nat.le_of_ble_eq_true rfl) rfl rfl rfl (fun _ h1e => tv_out C hQ (by rw [f_X8_pass, if_neg (tv_sn h1e)]; rw [h1e]; rfl) (by rw [f_X8_pass, if_neg (tv_sn h1e)])) (fun h1 => ?_)
  refine tv_aload_n C dk_X8_pass_11 rfl ?_
  refine tv_getR (r := 61) C dk_X8_pass_12 fl_RX8_25 (Nat.le_of_ble_eq_true rfl) rfl rfl (fun _ _ _ _ => rfl) ?_
  refine tv_aload_n C dk_X8_pass_15 rfl ?_
  refine tv_getR (r := 1) C dk_X8_pass_16 fl_RX8_12 (Nat.le_of_ble_eq_true rfl) rfl rfl (fun _ _ _ _ => rfl) ?_
  refine tv_cV0 C dk_X8_pass_19 ml_RX8_58 yk_X1_keep yi_X1_keep (m_X1_keep _ M) (Nat.le_of_ble_eq_true rfl) rfl rfl rfl rfl (Nat.le_of_ble_eq_true rfl) (Nat.le_of_ble_eq_true rfl) (Nat.le_of_ble_eq_true rfl) (Nat.le_of_ble_eq_true rfl) (Nat.le_of_ble_eq_true rfl) ?_
  refine tv_aload_n C dk_X8_pass_22 rfl ?_
  refine tv_getR (r := 1) C dk_X8_pass_23 fl_RX8_12 (Nat.le_of_ble_eq_true rfl) rfl rfl (fun _ _ _ _ => rfl) ?_
  refine tv_iload_n C dk_X8_pass_26 rfl ?_
  refine tv_cV1 C dk_X8_pass_27 ml_RX8_134 yk_X6_letPass yi_X6_letPass (n_X6_letPass _ (f_X1_keep M) tvSBn_1 x1) (tvSB_sh tvSBn_1 0 (by decide)).2 (tvSB_sh tvSBn_1 0 (by decide)).1 rfl rfl rfl (Nat.le_of_ble_eq_true rfl) (Nat.le_of_ble_eq_true rfl) (Nat.le_of_ble_eq_true rfl) (Nat.le_of_ble_eq_true rfl) (Nat.le_of_ble_eq_true rfl) ?_
  exact tv_iret C hQ dk_X8_pass_30 rfl (by rw [f_X8_pass, if_pos h1]; rfl) (by rw [f_X8_pass, if_pos h1])
/-- TideVault.time()I -/
def f_X8_time (M : tvM) : Int32 := (tgi M 1 4)
theorem m_X8_time (G : tvG) (M : tvM) : tvRun G yX8_time cX8_time 1 (some .int) 1 0 0 tvP0 tvP0 [.ref (G.2.1 + 0)] M (.inl (some (.int (f_X8_time M)))) M := by
  refine tvRun.of yk_X8_time rfl [some (.ref (G.2.1 + 0))] rfl (Nat.le_of_ble_eq_true rfl) ?_
  intro E hG C hQ; subst hG
  refine tv_aload_n C dk_X8_time_0 rfl ?_
  refine tv_getR (r := 1) C dk_X8_time_1 fl_RX8_12 (Nat.le_of_ble_eq_true rfl) rfl rfl (fun _ _ _ _ => rfl) ?_
  refine tv_getI C dk_X8_time_4 fl_RX8_137 (tvSB_sh tvSBn_1 0 (by decide)).2 (tvSB_sh tvSBn_1 0 (by decide)).1 (fun _ _ _ _ => rfl) ?_
  exact tv_iret C hQ dk_X8_time_7 rfl (by rw [f_X8_time]) rfl
/-- TideVault.isLowTide()Z -/
def f_X8_isLowTide (M : tvM) : Int32 := (f_X6_isLow M 1)
theorem m_X8_isLowTide (G : tvG) (M : tvM) : tvRun G yX8_isLowTide cX8_isLowTide 1 (some .boolean) 3 0 0 tvP0 tvP0 [.ref (G.2.1 + 0)] M (.inl (some (.int (f_X8_isLowTide M)))) M := by
  refine tvRun.of yk_X8_isLowTide rfl [some (.ref (G.2.1 + 0))] rfl (Nat.le_of_ble_eq_true rfl) ?_
  intro E hG C hQ; subst hG
  refine tv_aload_n C dk_X8_isLowTide_0 rfl ?_
  refine tv_getR (r := 1) C dk_X8_isLowTide_1 fl_RX8_12 (Nat.le_of_ble_eq_true rfl) rfl rfl (fun _ _ _ _ => rfl) ?_
  refine tv_cV1 C dk_X8_isLowTide_4 ml_RX8_140 yk_X6_isLow yi_X6_isLow (m_X6_isLow _ M tvSBn_1) (tvSB_sh tvSBn_1 0 (by decide)).2 (tvSB_sh tvSBn_1 0 (by decide)).1 rfl rfl rfl (Nat.le_of_ble_eq_true rfl) (Nat.le_of_ble_eq_true rfl) (Nat.le_of_ble_eq_true rfl) (Nat.le_of_ble_eq_true rfl) (Nat.le_of_ble_eq_true rfl) ?_
  exact tv_iret C hQ dk_X8_isLowTide_7 (fz_X6_isLow) (by rw [f_X8_isLowTide]) rfl
theorem fz_X8_isLowTide {M : tvM} : narrow .boolean (.int (f_X8_isLowTide M)) = .int (f_X8_isLowTide M) := by
  unfold f_X8_isLowTide; repeat' split
  all_goals first | rfl | exact (fz_X6_isLow)
/-- TideVault.lowMinutes(I)I -/
def f_X8_lowMinutes (M : tvM) (x1 : Int32) : Option String × Int32 × tvM := (if (f_X8_refuse M (f_X8_refusalOfLowMinutes M x1)).1 = none then (none, (f_X7_lowByFormula M 1 (tgi M 1 4) x1), M) else ((f_X8_refuse M (f_X8_refusalOfLowMinutes M x1)).1, 0, M))
theorem m_X8_lowMinutes (G : tvG) (M : tvM) (x1 : Int32) : tvRun G yX8_lowMinutes cX8_lowMinutes 2 (some .int) 7 1 6 tvP0 tvP0 [.ref (G.2.1 + 0), .int x1] M (tvOx (some (.int (f_X8_lowMinutes M x1).2.1)) (f_X8_lowMinutes M x1).1) M := by
  refine tvRun.of yk_X8_lowMinutes rfl [some (.ref (G.2.1 + 0)), some (.int x1)] rfl (Nat.le_of_ble_eq_true rfl) ?_
  intro E hG C hQ; subst hG
  refine tv_aload_n C dk_X8_lowMinutes_0 rfl ?_
  refine tv_iload_n C dk_X8_lowMinutes_1 rfl ?_
  refine tv_cV1 C dk_X8_lowMinutes_2 ml_RX8_144 yk_X8_refusalOfLowMinutes yi_X8_refusalOfLowMinutes (m_X8_refusalOfLowMinutes _ M x1) (Nat.le_of_ble_eq_true rfl) rfl rfl rfl rfl (Nat.le_of_ble_eq_true rfl) (Nat.le_of_ble_eq_true rfl) (Nat.le_of_ble_eq_true rfl) (Nat.le_of_ble_eq_true rfl) (Nat.le_of_ble_eq_true rfl) ?_
  refine tv_cSx C dk_X8_lowMinutes_5 ml_RX8_54 yk_X8_refuse yi_X8_refuse (n_X8_refuse _ M (f_X8_refusalOfLowMinutes M x1)) rfl rfl (Nat.le_of_ble_eq_true rfl) (Nat.le_of_ble_eq_true rfl) (Nat.le_of_ble_eq_true rfl) (Nat.le_of_ble_eq_true rfl) (Nat.le_of_ble_eq_true rfl) rfl rfl rfl (fun _ h1e => tv_out C hQ (by rw [f_X8_lowMinutes, if_neg (tv_sn h1e)]; rw [h1e]; rfl) (rfl)) (fun h1 => ?_)
  refine tv_aload_n C dk_X8_lowMinutes_8 rfl ?_
  refine tv_getR (r := 1) C dk_X8_lowMinutes_9 fl_RX8_12 (Nat.le_of_ble_eq_true rfl) rfl rfl (fun _ _ _ _ => rfl) ?_
  refine tv_getR (r := (1 + 1)) C dk_X8_lowMinutes_12 fl_RX8_87 (tvSB_sh tvSBn_1 0 (by decide)).2 (tvSB_sh tvSBn_1 0 (by decide)).1 (tvSB_rho tvSBn_1 (0, 0, 1) (by decide)) (fun _ _ _ _ => rfl) ?_
  refine tv_aload_n C dk_X8_lowMinutes_15 rfl ?_
  refine tv_getR (r := 1) C dk_X8_lowMinutes_16 fl_RX8_12 (Nat.le_of_ble_eq_true rfl) rfl rfl (fun _ _ _ _ => rfl) ?_
  refine tv_getI C dk_X8_lowMinutes_19 fl_RX8_137 (tvSB_sh tvSBn_1 0 (by decide)).2 (tvSB_sh tvSBn_1 0 (by decide)).1 (fun _ _ _ _ => rfl) ?_
  refine tv_iload_n C dk_X8_lowMinutes_22 rfl ?_
  refine tv_cV1 C dk_X8_lowMinutes_23 ml_RX8_147 yk_X7_lowByFormula yi_X7_lowByFormula (m_X7_lowByFormula _ M tvSBn_1 (tgi M 1 4) x1) (tvSB_sh tvSBn_1 1 (by decide)).2 (tvSB_sh tvSBn_1 1 (by decide)).1 rfl rfl rfl (Nat.le_of_ble_eq_true rfl) (Nat.le_of_ble_eq_true rfl) (Nat.le_of_ble_eq_true rfl) (Nat.le_of_ble_eq_true rfl) (Nat.le_of_ble_eq_true rfl) ?_
  exact tv_iret C hQ dk_X8_lowMinutes_26 rfl (by rw [f_X8_lowMinutes, if_pos h1]; rfl) rfl
