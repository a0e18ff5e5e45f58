/-- TideVault.minutesUntilOpenBySimulation(I)I -/
def f_X8_minutesUntilOpenBySimulation (M : tvM) (x1 : Int32) : Option String × Int32 × tvM := (if (f_X8_refuse M (f_X8_refusalUnless M 112 x1)).1 = none then (none, (f_X6_waitForOpening (f_X6_copyFrom M 21 1) 21 x1).1, (f_X6_waitForOpening (f_X6_copyFrom M 21 1) 21 x1).2) else ((f_X8_refuse M (f_X8_refusalUnless M 112 x1)).1, 0, M))
theorem m_X8_minutesUntilOpenBySimulation (G : tvG) (M : tvM) (x1 : Int32) : tvRun G yX8_minutesUntilOpenBySimulation cX8_minutesUntilOpenBySimulation 2 (some .int) 7 1 6 tvP0 tvP0 [.ref (G.2.1 + 0), .int x1] M (tvOx (some (.int (f_X8_minutesUntilOpenBySimulation M x1).2.1)) (f_X8_minutesUntilOpenBySimulation M x1).1) ((f_X8_minutesUntilOpenBySimulation M x1).2.2) := by
  refine tvRun.of yk_X8_minutesUntilOpenBySimulation rfl [some (.ref (G.2.1 + 0)), some (.int x1)] rfl (Nat.le_of_ble_eq_true rfl) ?_
  intro E hG C hQ; subst hG
  refine tv_aload_n C dk_X8_minutesUntilOpenBySimulation_0 rfl ?_
  refine tv_bipush (v := 112) C dk_X8_minutesUntilOpenBySimulation_1 (by decide) ?_
  refine tv_iload_n C dk_X8_minutesUntilOpenBySimulation_3 rfl ?_
  refine tv_cV1 C dk_X8_minutesUntilOpenBySimulation_4 ml_RX8_193 yk_X8_refusalUnless yi_X8_refusalUnless (m_X8_refusalUnless _ M 112 x1) (Nat.le_of_ble_eq_true rfl) rfl rfl rfl rfl (Nat.le_of_ble_eq_true rfl) (Nat.le_of_ble_eq_true rfl) (Nat.le_of_ble_eq_true rfl) (Nat.le_of_ble_eq_true rfl) (Nat.le_of_ble_eq_true rfl) ?_
  refine tv_cSx C dk_X8_minutesUntilOpenBySimulation_7 ml_RX8_54 yk_X8_refuse yi_X8_refuse (n_X8_refuse _ M (f_X8_refusalUnless M 112 x1)) rfl rfl (Nat.le_of_ble_eq_true rfl) (Nat.le_of_ble_eq_true rfl) (Nat.le_of_ble_eq_true rfl) (Nat.le_of_ble_eq_true rfl) (Nat.le_of_ble_eq_true rfl) rfl rfl rfl (fun _ h1e => tv_out C hQ (by rw [f_X8_minutesUntilOpenBySimulation, if_neg (tv_sn h1e)]; rw [h1e]; rfl) (by rw [f_X8_minutesUntilOpenBySimulation, if_neg (tv_sn h1e)])) (fun h1 => ?_)
  refine tv_aload_n C dk_X8_minutesUntilOpenBySimulation_10 rfl ?_
  refine tv_getR (r := 21) C dk_X8_minutesUntilOpenBySimulation_11 fl_RX8_16 (Nat.le_of_ble_eq_true rfl) rfl rfl (fun _ _ _ _ => rfl) ?_
  refine tv_aload_n C dk_X8_minutesUntilOpenBySimulation_14 rfl ?_
  refine tv_getR (r := 1) C dk_X8_minutesUntilOpenBySimulation_15 fl_RX8_12 (Nat.le_of_ble_eq_true rfl) rfl rfl (fun _ _ _ _ => rfl) ?_
  refine tv_cV0 C dk_X8_minutesUntilOpenBySimulation_18 ml_RX8_206 yk_X6_copyFrom yi_X6_copyFrom (m_X6_copyFrom _ M tvSBn_21 tvSBn_1 (by decide)) (tvSB_sh tvSBn_21 0 (by decide)).2 (tvSB_sh tvSBn_21 0 (by decide)).1 rfl rfl rfl (Nat.le_of_ble_eq_true rfl) (Nat.le_of_ble_eq_true rfl) (Nat.le_of_ble_eq_true rfl) (Nat.le_of_ble_eq_true rfl) (Nat.le_of_ble_eq_true rfl) ?_
  refine tv_aload_n C dk_X8_minutesUntilOpenBySimulation_21 rfl ?_
  refine tv_getR (r := 21) C dk_X8_minutesUntilOpenBySimulation_22 fl_RX8_16 (Nat.le_of_ble_eq_true rfl) rfl rfl (fun _ _ _ _ => rfl) ?_
  refine tv_iload_n C dk_X8_minutesUntilOpenBySimulation_25 rfl ?_
  refine tv_cV1 C dk_X8_minutesUntilOpenBySimulation_26 ml_RX8_209 yk_X6_waitForOpening yi_X6_waitForOpening (n_X6_waitForOpening _ (f_X6_copyFrom M 21 1) tvSBn_21 x1) (tvSB_sh tvSBn_21 0 (by decide)).2 (tvSB_sh tvSBn_21 0 (by decide)).1 rfl rfl rfl (Nat.le_of_ble_eq_true rfl) (Nat.le_of_ble_eq_true rfl) (Nat.le_of_ble_eq_true rfl) (Nat.le_of_ble_eq_true rfl) (Nat.le_of_ble_eq_true rfl) ?_
  exact tv_iret C hQ dk_X8_minutesUntilOpenBySimulation_29 rfl (by rw [f_X8_minutesUntilOpenBySimulation, if_pos h1]; rfl) (by rw [f_X8_minutesUntilOpenBySimulation, if_pos h1])
/-- TideVault.pearls(I)I -/
def f_X8_pearls (M : tvM) (x1 : Int32) : Option String × Int32 × tvM := (if (f_X8_refuse M (f_X8_refusalOfBoxNumber M x1)).1 = none then (none, (f_X0_pearlsIn M 1 x1), M) else ((f_X8_refuse M (f_X8_refusalOfBoxNumber M x1)).1, 0, M))
theorem m_X8_pearls (G : tvG) (M : tvM) (x1 : Int32) : tvRun G yX8_pearls cX8_pearls 2 (some .int) 7 1 6 tvP0 tvP0 [.ref (G.2.1 + 0), .int x1] M (tvOx (some (.int (f_X8_pearls M x1).2.1)) (f_X8_pearls M x1).1) M := by
  refine tvRun.of yk_X8_pearls rfl [some (.ref (G.2.1 + 0)), some (.int x1)] rfl (Nat.le_of_ble_eq_true rfl) ?_
  intro E hG C hQ; subst hG
  refine tv_aload_n C dk_X8_pearls_0 rfl ?_
  refine tv_iload_n C dk_X8_pearls_1 rfl ?_
  refine tv_cV1 C dk_X8_pearls_2 ml_RX8_172 yk_X8_refusalOfBoxNumber yi_X8_refusalOfBoxNumber (m_X8_refusalOfBoxNumber _ M x1) (Nat.le_of_ble_eq_true rfl) rfl rfl rfl rfl (Nat.le_of_ble_eq_true rfl) (Nat.le_of_ble_eq_true rfl) (Nat.le_of_ble_eq_true rfl) (Nat.le_of_ble_eq_true rfl) (Nat.le_of_ble_eq_true rfl) ?_
  refine tv_cSx C dk_X8_pearls_5 ml_RX8_54 yk_X8_refuse yi_X8_refuse (n_X8_refuse _ M (f_X8_refusalOfBoxNumber M x1)) rfl rfl (Nat.le_of_ble_eq_true rfl) (Nat.le_of_ble_eq_true rfl) (Nat.le_of_ble_eq_true rfl) (Nat.le_of_ble_eq_true rfl) (Nat.le_of_ble_eq_true rfl) rfl rfl rfl (fun _ h1e => tv_out C hQ (by rw [f_X8_pearls, if_neg (tv_sn h1e)]; rw [h1e]; rfl) (rfl)) (fun h1 => ?_)
  refine tv_aload_n C dk_X8_pearls_8 rfl ?_
  refine tv_getR (r := 1) C dk_X8_pearls_9 fl_RX8_12 (Nat.le_of_ble_eq_true rfl) rfl rfl (fun _ _ _ _ => rfl) ?_
  refine tv_getR (r := (1 + 6)) C dk_X8_pearls_12 fl_RX8_75 (tvSB_sh tvSBn_1 0 (by decide)).2 (tvSB_sh tvSBn_1 0 (by decide)).1 (tvSB_rho tvSBn_1 (0, 2, 6) (by decide)) (fun _ _ _ _ => rfl) ?_
  refine tv_iload_n C dk_X8_pearls_15 rfl ?_
  refine tv_cV1 C dk_X8_pearls_16 ml_RX8_212 yk_X0_pearlsIn yi_X0_pearlsIn (m_X0_pearlsIn _ M tvSBn_1 x1) (tvSB_sh tvSBn_1 6 (by decide)).2 (tvSB_sh tvSBn_1 6 (by decide)).1 rfl rfl rfl (Nat.le_of_ble_eq_true rfl) (Nat.le_of_ble_eq_true rfl) (Nat.le_of_ble_eq_true rfl) (Nat.le_of_ble_eq_true rfl) (Nat.le_of_ble_eq_true rfl) ?_
  exact tv_iret C hQ dk_X8_pearls_19 rfl (by rw [f_X8_pearls, if_pos h1]; rfl) rfl
/-- TideVault.pearl(II)I -/
def f_X8_pearl (M : tvM) (x1 : Int32) (x2 : Int32) : Option String × Int32 × tvM := (if (f_X8_refuse M (f_X8_refusalOfBoxNumber M x1)).1 = none then (if x2 < 0 then ((some "java/util/NoSuchElementException"), 0, M) else (if x2 < (f_X0_pearlsIn M 1 x1) then (none, (f_X0_valueOf M 1 x1 x2), M) else ((some "java/util/NoSuchElementException"), 0, M))) else ((f_X8_refuse M (f_X8_refusalOfBoxNumber M x1)).1, 0, M))
theorem m_X8_pearl (G : tvG) (M : tvM) (x1 : Int32) (x2 : Int32) : tvRun G yX8_pearl cX8_pearl 3 (some .int) 7 2 12 tvP0 tvP0 [.ref (G.2.1 + 0), .int x1, .int x2] M (tvOx (some (.int (f_X8_pearl M x1 x2).2.1)) (f_X8_pearl M x1 x2).1) M := by
  refine tvRun.of yk_X8_pearl rfl [some (.ref (G.2.1 + 0)), some (.int x1), some (.int x2)] rfl (Nat.le_of_ble_eq_true rfl) ?_
  intro E hG C hQ; subst hG
  refine tv_aload_n C dk_X8_pearl_0 rfl ?_
  refine tv_iload_n C dk_X8_pearl_1 rfl ?_
  refine tv_cV1 C dk_X8_pearl_2 ml_RX8_172 yk_X8_refusalOfBoxNumber yi_X8_refusalOfBoxNumber (m_X8_refusalOfBoxNumber _ M x1) (Nat.le_of_ble_eq_true rfl) rfl rfl rfl rfl (Nat.le_of_ble_eq_true rfl) (Nat.le_of_ble_eq_true rfl) (Nat.le_of_ble_eq_true rfl) (Nat.le_of_ble_eq_true rfl) (Nat.le_of_ble_eq_true rfl) ?_
  refine tv_cSx C dk_X8_pearl_5 ml_RX8_54 yk_X8_refuse yi_X8_refuse (n_X8_refuse _ M (f_X8_refusalOfBoxNumber M x1)) rfl rfl (Nat.le_of_ble_eq_true rfl) (Nat.le_of_ble_eq_true rfl) (Nat.le_of_ble_eq_true rfl) (Nat.le_of_ble_eq_true rfl) (Nat.le_of_ble_eq_true rfl) rfl rfl rfl (fun _ h1e => tv_out C hQ (by rw [f_X8_pearl, if_neg (tv_sn h1e)]; rw [h1e]; rfl) (rfl)) (fun h1 => ?_)
  refine tv_iload_n C dk_X8_pearl_8 rfl ?_
  refine tv_if_lt C dk_X8_pearl_9 (fun h2 => ?_) (fun h2 => ?_)
  · exact tv_throwN C tvP0_ex hQ th_RX8_215_217 dk_X8_pearl_27 dk_X8_pearl_30 dk_X8_pearl_31 dk_X8_pearl_33 dk_X8_pearl_36 (Nat.le_of_ble_eq_true rfl) (Nat.le_of_ble_eq_true rfl) (by rw [f_X8_pearl, if_pos h1, if_pos h2]; rfl) (rfl)
  refine tv_iload_n C dk_X8_pearl_12 rfl ?_
  refine tv_aload_n C dk_X8_pearl_13 rfl ?_
  refine tv_getR (r := 1) C dk_X8_pearl_14 fl_RX8_12 (Nat.le_of_ble_eq_true rfl) rfl rfl (fun _ _ _ _ => rfl) ?_
  refine tv_getR (r := (1 + 6)) C dk_X8_pearl_17 fl_RX8_75 (tvSB_sh tvSBn_1 0 (by decide)).2 (tvSB_sh tvSBn_1 0 (by decide)).1 (tvSB_rho tvSBn_1 (0, 2, 6) (by decide)) (fun _ _ _ _ => rfl) ?_
  refine tv_iload_n C dk_X8_pearl_20 rfl ?_
  refine tv_cV1 C dk_X8_pearl_21 ml_RX8_212 yk_X0_pearlsIn yi_X0_pearlsIn (m_X0_pearlsIn _ M tvSBn_1 x1) (tvSB_sh tvSBn_1 6 (by decide)).2 (tvSB_sh tvSBn_1 6 (by decide)).1 rfl rfl rfl (Nat.le_of_ble_eq_true rfl) (Nat.le_of_ble_eq_true rfl) (Nat.le_of_ble_eq_true rfl) (Nat.le_of_ble_eq_true rfl) (Nat.le_of_ble_eq_true rfl) ?_
  refine tv_icmp_lt C dk_X8_pearl_24 (fun h3 => ?_) (fun h3 => ?_)
  · refine tv_aload_n C dk_X8_pearl_37 rfl ?_
    refine tv_getR (r := 1) C dk_X8_pearl_38 fl_RX8_12 (Nat.le_of_ble_eq_true rfl) rfl rfl (fun _ _ _ _ => rfl) ?_
    refine tv_getR (r := (1 + 6)) C dk_X8_pearl_41 fl_RX8_75 (tvSB_sh tvSBn_1 0 (by decide)).2 (tvSB_sh tvSBn_1 0 (by decide)).1 (tvSB_rho tvSBn_1 (0, 2, 6) (by decide)) (fun _ _ _ _ => rfl) ?_
    refine tv_iload_n C dk_X8_pearl_44 rfl ?_
    refine tv_iload_n C dk_X8_pearl_45 rfl ?_
    refine tv_cV1 C dk_X8_pearl_46 ml_RX8_220 yk_X0_valueOf yi_X0_valueOf (m_X0_valueOf _ M tvSBn_1 x1 x2) (tvSB_sh tvSBn_1 6 (by decide)).2 (tvSB_sh tvSBn_1 6 (by decide)).1 rfl rfl rfl (Nat.le_of_ble_eq_true rfl) (Nat.le_of_ble_eq_true rfl) (Nat.le_of_ble_eq_true rfl) (Nat.le_of_ble_eq_true rfl) (Nat.le_of_ble_eq_true rfl) ?_
    exact tv_iret C hQ dk_X8_pearl_49 rfl (by rw [f_X8_pearl, if_pos h1, if_neg h2, if_pos h3]; rfl) rfl
  exact tv_throwN C tvP0_ex hQ th_RX8_215_217 dk_X8_pearl_27 dk_X8_pearl_30 dk_X8_pearl_31 dk_X8_pearl_33 dk_X8_pearl_36 (Nat.le_of_ble_eq_true rfl) (Nat.le_of_ble_eq_true rfl) (by rw [f_X8_pearl, if_pos h1, if_neg h2, if_neg h3]; rfl) (rfl)
/-- TideVault.boxByValue(I)I -/
def f_X8_boxByValue (M : tvM) (x1 : Int32) : Option String × Int32 × tvM := (if (f_X0_has M 1 x1) = 0 then ((some "java/util/NoSuchElementException"), 0, M) else (none, (f_X0_atRank M 1 x1), M))
theorem m_X8_boxByValue (G : tvG) (M : tvM) (x1 : Int32) : tvRun G yX8_boxByValue cX8_boxByValue 2 (some .int) 6 1 6 tvP0 tvP0 [.ref (G.2.1 + 0), .int x1] M (tvOx (some (.int (f_X8_boxByValue M x1).2.1)) (f_X8_boxByValue M x1).1) M := by
  refine tvRun.of yk_X8_boxByValue rfl [some (.ref (G.2.1 + 0)), some (.int x1)] rfl (Nat.le_of_ble_eq_true rfl) ?_
  intro E hG C hQ; subst hG
  refine tv_aload_n C dk_X8_boxByValue_0 rfl ?_
  refine tv_getR (r := 1) C dk_X8_boxByValue_1 fl_RX8_12 (Nat.le_of_ble_eq_true rfl) rfl rfl (fun _ _ _ _ => rfl) ?_
  refine tv_getR (r := (1 + 6)) C dk_X8_boxByValue_4 fl_RX8_75 (tvSB_sh tvSBn_1 0 (by decide)).2 (tvSB_sh tvSBn_1 0 (by decide)).1 (tvSB_rho tvSBn_1 (0, 2, 6) (by decide)) (fun _ _ _ _ => rfl) ?_
  refine tv_iload_n C dk_X8_boxByValue_7 rfl ?_
  refine tv_cV1 C dk_X8_boxByValue_8 ml_RX8_223 yk_X0_has yi_X0_has (m_X0_has _ M tvSBn_1 x1) (tvSB_sh tvSBn_1 6 (by decide)).2 (tvSB_sh tvSBn_1 6 (by decide)).1 rfl rfl rfl (Nat.le_of_ble_eq_true rfl) (Nat.le_of_ble_eq_true rfl) (Nat.le_of_ble_eq_true rfl) (Nat.le_of_ble_eq_true rfl) (Nat.le_of_ble_eq_true rfl) ?_
  refine tv_if_ne C dk_X8_boxByValue_11 (fun h1 => ?_) (fun h1 => ?_)
  · refine tv_aload_n C dk_X8_boxByValue_24 rfl ?_
    refine tv_getR (r := 1) C dk_X8_boxByValue_25 fl_RX8_12 (Nat.le_of_ble_eq_true rfl) rfl rfl (fun _ _ _ _ => rfl) ?_
    refine tv_getR (r := (1 + 6)) C dk_X8_boxByValue_28 fl_RX8_75 (tvSB_sh tvSBn_1 0 (by decide)).2 (tvSB_sh tvSBn_1 0 (by decide)).1 (tvSB_rho tvSBn_1 (0, 2, 6) (by decide)) (fun _ _ _ _ => rfl) ?_
    refine tv_iload_n C dk_X8_boxByValue_31 rfl ?_
    refine tv_cV1 C dk_X8_boxByValue_32 ml_RX8_229 yk_X0_atRank yi_X0_atRank (n_X0_atRank _ M tvSBn_1 x1) (tvSB_sh tvSBn_1 6 (by decide)).2 (tvSB_sh tvSBn_1 6 (by decide)).1 rfl rfl rfl (Nat.le_of_ble_eq_true rfl) (Nat.le_of_ble_eq_true rfl) (Nat.le_of_ble_eq_true rfl) (Nat.le_of_ble_eq_true rfl) (Nat.le_of_ble_eq_true rfl) ?_
    exact tv_iret C hQ dk_X8_boxByValue_35 rfl (by rw [f_X8_boxByValue, if_neg h1]; rfl) rfl
  exact tv_throwN C tvP0_ex hQ th_RX8_215_227 dk_X8_boxByValue_14 dk_X8_boxByValue_17 dk_X8_boxByValue_18 dk_X8_boxByValue_20 dk_X8_boxByValue_23 (Nat.le_of_ble_eq_true rfl) (Nat.le_of_ble_eq_true rfl) (by rw [f_X8_boxByValue, if_pos h1]; rfl) (rfl)
