/-- TideVault.pearl(II)I -/
def f_X8_pearl (M : tvM) (x1 : Int32) (x2 : Int32) : Option String × Int32 × tvM := (if (f_X8_refuse M (f_X8_refusalOfBoxNumber M x1)).1 = none then (if x2 < 0 then ((some "java/util/NoSuchElementException"), 0, M) else (if x2 < (f_X0_pearlsIn M 1 x1) then (none, (f_X0_valueOf M 1 x1 x2), M) else ((some "java/util/NoSuchElementException"), 0, M))) else ((f_X8_refuse M (f_X8_refusalOfBoxNumber M x1)).1, 0, M))
theorem m_X8_pearl (G : tvG) (M : tvM) (x1 : Int32) (x2 : Int32) : tvRun G yX8_pearl cX8_pearl 3 (some .int) 7 2 12 tvP0 tvP0 [.ref (G.2.1 + 0), .int x1, .int x2] M (tvOx (some (.int (f_X8_pearl M x1 x2).2.1)) (f_X8_pearl M x1 x2).1) M := by
  refine tvRun.of yk_X8_pearl rfl [some (.ref (G.2.1 + 0)), some (.int x1), some (.int x2)] rfl (Nat.le_of_ble_eq_true rfl) ?_
  intro E hG C hQ; subst hG
  refine tv_aload_n C dk_X8_pearl_0 rfl ?_
  refine tv_iload_n C dk_X8_pearl_1 rfl ?_
  refine tv_cV1 C dk_X8_pearl_2 ml_RX8_172 yk_X8_refusalOfBoxNumber yi_X8_refusalOfBoxNumber (m_X8_refusalOfBoxNumber _ M x1) (Nat.le_of_ble_eq_true rfl) rfl rfl rfl rfl (Nat.le_of_ble_eq_true rfl) (Nat.le_of_ble_eq_true rfl) (Nat.le_of_ble_eq_true rfl) (Nat.le_of_ble_eq_true rfl) (Nat.le_of_ble_eq_true rfl) ?_
  refine tv_cSx C dk_X8_pearl_5 ml_RX8_54 yk_X8_refuse yi_X8_refuse (n_X8_refuse _ M (f_X8_refusalOfBoxNumber M x1)) rfl rfl (Nat.le_of_ble_eq_true rfl) (Nat.le_of_ble_eq_true rfl) (Nat.le_of_ble_eq_true rfl) (Nat.le_of_ble_eq_true rfl) (Nat.le_of_ble_eq_true rfl) rfl rfl rfl (fun _ h1e => tv_out C hQ (by rw [f_X8_pearl, if_neg (tv_sn h1e)]; rw [h1e]; rfl) (rfl)) (fun h1 => ?_)
  refine tv_iload_n C dk_X8_pearl_8 rfl ?_
  refine tv_if_lt C dk_X8_pearl_9 (fun h2 => ?_) (fun h2 => ?_)
  · exact tv_throwN C tvP0_ex hQ th_RX8_215_217 dk_X8_pearl_27 dk_X8_pearl_30 dk_X8_pearl_31 dk_X8_pearl_33 dk_X8_pearl_36 (Nat.le_of_ble_eq_true rfl) (Nat.le_of_ble_eq_true rfl) (by rw [f_X8_pearl, if_pos h1, if_pos h2]; rfl) (rfl)
  refine tv_iload_n C dk_X8_pearl_12 rfl ?_
  refine tv_aload_n C dk_X8_pearl_13 rfl ?_
  refine tv_getR (r := 1) C dk_X8_pearl_14 fl_RX8_12 (Nat.le_of_ble_eq_true rfl) rfl rfl (fun _ _ _ _ => rfl) ?_
  refine tv_getR (r := (1 + 6)) C dk_X8_pearl_17 fl_RX8_75 (tvSB_sh tvSBn_1 0 (by decide)).2 (tvSB_sh tvSBn_1 0 (by decide)).1 (tvSB_rho tvSBn_1 (0, 2, 6) (by decide)) (fun _ _ _ _ => rfl) ?_
  refine tv_iload_n C dk_X8_pearl_20 rfl ?_
  refine tv_cV1 C dk_X8_pearl_21 ml_RX8_212 yk_X0_pearlsIn yi_X0_pearlsIn (m_X0_pearlsIn _ M tvSBn_1 x1) (tvSB_sh tvSBn_1 6 (by decide)).2 (tvSB_sh tvSBn_1 6 (by decide)).1 rfl rfl rfl (Nat.le_of_ble_eq_true rfl) (Nat.le_of_ble_eq_true rfl) (Nat.le_of_ble_eq_true rfl) (Nat.le_of_ble_eq_true rfl) (Nat.le_of_ble_eq_true rfl) ?_
  refine tv_icmp_lt C dk_X8_pearl_24 (fun h3 => ?_) (fun h3 => ?_)
  · refine tv_aload_n C dk_X8_pearl_37 rfl ?_
    refine tv_getR (r := 1) C dk_X8_pearl_38 fl_RX8_12 (Nat.le_of_ble_eq_true rfl) rfl rfl (fun _ _ _ _ => rfl) ?_
    refine tv_getR (r := (1 + 6)) C dk_X8_pearl_41 fl_RX8_75 (tvSB_sh tvSBn_1 0 (by decide)).2 (tvSB_sh tvSBn_1 0 (by decide)).1 (tvSB_rho tvSBn_1 (0, 2, 6) (by decide)) (fun _ _ _ _ => rfl) ?_
    refine tv_iload_n C dk_X8_pearl_44 rfl ?_
    refine tv_iload_n C dk_X8_pearl_45 rfl ?_
    refine tv_cV1 C dk_X8_pearl_46 ml_RX8_220 yk_X0_valueOf yi_X0_valueOf (m_X0_valueOf _ M tvSBn_1 x1 x2) (tvSB_sh tvSBn_1 6 (by decide)).2 (tvSB_sh tvSBn_1 6 (by decide)).1 rfl rfl rfl (Nat.le_of_ble_eq_true rfl) (Nat.le_of_ble_eq_true rfl) (Nat.le_of_ble_eq_true rfl) (Nat.le_of_ble_eq_true rfl) (Nat.le_of_ble_eq_true rfl) ?_
    exact tv_iret C hQ dk_X8_pearl_49 rfl (by rw [f_X8_pearl, if_pos h1, if_neg h2, if_pos h3]; rfl) rfl
  exact tv_throwN C tvP0_ex hQ th_RX8_215_217 dk_X8_pearl_27 dk_X8_pearl_30 dk_X8_pearl_31 dk_X8_pearl_33 dk_X8_pearl_36 (Nat.le_of_ble_eq_true rfl) (Nat.le_of_ble_eq_true rfl) (by rw [f_X8_pearl, if_pos h1, if_neg h2, if_neg h3]; rfl) (rfl)
/-- TideVault.boxByValue(I)I -/
def f_X8_boxByValue (M : tvM) (x1 : Int32) : Option String × Int32 × tvM := (if (f_X0_has M 1 x1) = 0 then ((some "java/util/NoSuchElementException"), 0, M) else (none, (f_X0_atRank M 1 x1), M))
theorem m_X8_boxByValue (G : tvG) (M : tvM) (x1 : Int32) : tvRun G yX8_boxByValue cX8_boxByValue 2 (some .int) 6 1 6 tvP0 tvP0 [.ref (G.2.1 + 0), .int x1] M (tvOx (some (.int (f_X8_boxByValue M x1).2.1)) (f_X8_boxByValue M x1).1) M := by
  refine tvRun.of yk_X8_boxByValue rfl [some (.ref (G.2.1 + 0)), some (.int x1)] rfl (Nat.le_of_ble_eq_true rfl) ?_
  intro E hG C hQ; subst hG
  refine tv_aload_n C dk_X8_boxByValue_0 rfl ?_
  refine tv_getR (r := 1) C dk_X8_boxByValue_1 fl_RX8_12 (Nat.le_of_ble_eq_true rfl) rfl rfl (fun _ _ _ _ => rfl) ?_
  refine tv_getR (r := (1 + 6)) C dk_X8_boxByValue_4 fl_RX8_75 (tvSB_sh tvSBn_1 0 (by decide)).2 (tvSB_sh tvSBn_1 0 (by decide)).1 (tvSB_rho tvSBn_1 (0, 2, 6) (by decide)) (fun _ _ _ _ => rfl) ?_
  refine tv_iload_n C dk_X8_boxByValue_7 rfl ?_
  refine tv_cV1 C dk_X8_boxByValue_8 ml_RX8_223 yk_X0_has yi_X0_has (m_X0_has _ M tvSBn_1 x1) (tvSB_sh tvSBn_1 6 (by decide)).2 (tvSB_sh tvSBn_1 6 (by decide)).1 rfl rfl rfl (Nat.le_of_ble_eq_true rfl) (Nat.le_of_ble_eq_true rfl) (Nat.le_of_ble_eq_true rfl) (Nat.le_of_ble_eq_true rfl) (Nat.le_of_ble_eq_true rfl) ?_
  refine tv_if_ne C dk_X8_boxByValue_11 (fun h1 => ?_) (fun h1 => ?_)
  · refine tv_aload_n C dk_X8_boxByValue_24 rfl ?_
    refine tv_getR (r := 1) C dk_X8_boxByValue_25 fl_RX8_12 (Nat.le_of_ble_eq_true rfl) rfl rfl (fun _ _ _ _ => rfl) ?_
    refine tv_getR (r := (1 + 6)) C dk_X8_boxByValue_28 fl_RX8_75 (tvSB_sh tvSBn_1 0 (by decide)).2 (tvSB_sh tvSBn_1 0 (by decide)).1 (tvSB_rho tvSBn_1 (0, 2, 6) (by decide)) (fun _ _ _ _ => rfl) ?_
    refine tv_iload_n C dk_X8_boxByValue_31 rfl ?_
    refine tv_cV1 C dk_X8_boxByValue_32 ml_RX8_229 yk_X0_atRank yi_X0_atRank (n_X0_atRank _ M tvSBn_1 x1) (tvSB_sh tvSBn_1 6 (by decide)).2 (tvSB_sh tvSBn_1 6 (by decide)).1 rfl rfl rfl (Nat.le_of_ble_eq_true rfl) (Nat.le_of_ble_eq_true rfl) (Nat.le_of_ble_eq_true rfl) (Nat.le_of_ble_eq_true rfl) (Nat.le_of_ble_eq_true rfl) ?_
    exact tv_iret C hQ dk_X8_boxByValue_35 rfl (by rw [f_X8_boxByValue, if_neg h1]; rfl) rfl
  exact tv_throwN C tvP0_ex hQ th_RX8_215_227 dk_X8_boxByValue_14 dk_X8_boxByValue_17 dk_X8_boxByValue_18 dk_X8_boxByValue_20 dk_X8_boxByValue_23 (Nat.le_of_ble_eq_true rfl) (Nat.le_of_ble_eq_true rfl) (by rw [f_X8_boxByValue, if_pos h1]; rfl) (rfl)
/-- TideVault.totalValue()J -/
def f_X8_totalValue (M : tvM) : Int64 := (f_X0_sumOfAll M 1)
theorem m_X8_totalValue (G : tvG) (M : tvM) : tvRun G yX8_totalValue cX8_totalValue 1 (some .long) 5 0 0 tvP0 tvP0 [.ref (G.2.1 + 0)] M (.inl (some (.long (f_X8_totalValue M)))) M := by
  refine tvRun.of yk_X8_totalValue rfl [some (.ref (G.2.1 + 0))] rfl (Nat.le_of_ble_eq_true rfl) ?_
  intro E hG C hQ; subst hG
  refine tv_aload_n C dk_X8_totalValue_0 rfl ?_
  refine tv_getR (r := 1) C dk_X8_totalValue_1 fl_RX8_12 (Nat.le_of_ble_eq_true rfl) rfl rfl (fun _ _ _ _ => rfl) ?_
  refine tv_getR (r := (1 + 6)) C dk_X8_totalValue_4 fl_RX8_75 (tvSB_sh tvSBn_1 0 (by decide)).2 (tvSB_sh tvSBn_1 0 (by decide)).1 (tvSB_rho tvSBn_1 (0, 2, 6) (by decide)) (fun _ _ _ _ => rfl) ?_
  refine tv_cV1 C dk_X8_totalValue_7 ml_RX8_232 yk_X0_sumOfAll yi_X0_sumOfAll (n_X0_sumOfAll _ M tvSBn_1) (tvSB_sh tvSBn_1 6 (by decide)).2 (tvSB_sh tvSBn_1 6 (by decide)).1 rfl rfl rfl (Nat.le_of_ble_eq_true rfl) (Nat.le_of_ble_eq_true rfl) (Nat.le_of_ble_eq_true rfl) (Nat.le_of_ble_eq_true rfl) (Nat.le_of_ble_eq_true rfl) ?_
  exact tv_lret C hQ dk_X8_totalValue_10 (by rw [f_X8_totalValue]) rfl
/-- TideVault.totalValueByLedger()J -/
def f_X8_totalValueByLedger (M : tvM) : Int64 := (tgl M 1 8)
theorem m_X8_totalValueByLedger (G : tvG) (M : tvM) : tvRun G yX8_totalValueByLedger cX8_totalValueByLedger 1 (some .long) 1 0 0 tvP0 tvP0 [.ref (G.2.1 + 0)] M (.inl (some (.long (f_X8_totalValueByLedger M)))) M := by
  refine tvRun.of yk_X8_totalValueByLedger rfl [some (.ref (G.2.1 + 0))] rfl (Nat.le_of_ble_eq_true rfl) ?_
  intro E hG C hQ; subst hG
  refine tv_aload_n C dk_X8_totalValueByLedger_0 rfl ?_
  refine tv_getR (r := 1) C dk_X8_totalValueByLedger_1 fl_RX8_12 (Nat.le_of_ble_eq_true rfl) rfl rfl (fun _ _ _ _ => rfl) ?_
  refine tv_getL C dk_X8_totalValueByLedger_4 fl_RX8_236 (tvSB_sh tvSBn_1 0 (by decide)).2 (tvSB_sh tvSBn_1 0 (by decide)).1 (fun _ _ _ _ => rfl) ?_
  exact tv_lret C hQ dk_X8_totalValueByLedger_7 (by rw [f_X8_totalValueByLedger]) rfl
