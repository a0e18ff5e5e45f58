/-- TideVault$State.refusalOfCommand(IIII)I -/
def f_X6_refusalOfCommand (M : tvM) (b : Nat) (x1 : Int32) (x2 : Int32) (x3 : Int32) (x4 : Int32) : Int32 := (if x1 = 0 then (f_X6_refusalOfHolder M b x2) else (if x1 = 1 then (f_X6_refusalOfBox M b x2 x3 x4) else (if x1 = 2 then (f_X6_refusalOfTide M b x2 x3) else (if x1 = 3 then (f_X6_refusalOfTurn M b x2 x3 x4) else (if x1 = 4 then (f_X6_refusalOfCode M b x2 x3 x4) else (if x1 = 5 then (f_X6_refusalOfPut M b x2 x3) else (if x1 = 6 then (f_X6_refusalOfTake M b x2) else (if x1 = 7 then (f_X6_refusalOfClose M b x2) else (f_X6_refusalOfWait M b x2)))))))))
theorem m_X6_refusalOfCommand (G : tvG) (M : tvM) {b : Nat} (hb : tvSB b) (x1 : Int32) (x2 : Int32) (x3 : Int32) (x4 : Int32) : tvRun G yX6_refusalOfCommand cX6_refusalOfCommand 5 (some .int) 5 0 0 tvP0 tvP0 [.ref (G.2.1 + b), .int x1, .int x2, .int x3, .int x4] M (.inl (some (.int (f_X6_refusalOfCommand M b x1 x2 x3 x4)))) M := by
  refine tvRun.of yk_X6_refusalOfCommand rfl [some (.ref (G.2.1 + b)), some (.int x1), some (.int x2), some (.int x3), some (.int x4)] rfl (Nat.le_of_ble_eq_true rfl) ?_
  intro E hG C hQ; subst hG
  refine tv_iload_n C dk_X6_refusalOfCommand_0 rfl ?_
  refine tv_case (x := x1) (c := 0) (fun h1 => ?_) (fun h1 => ?_)
  · refine tv_sw C dk_X6_refusalOfCommand_1_c0 h1 ?_
    refine tv_aload_n C dk_X6_refusalOfCommand_48 rfl ?_
    refine tv_iload_n C dk_X6_refusalOfCommand_49 rfl ?_
    refine tv_cV1 C dk_X6_refusalOfCommand_50 ml_RX6_102 yk_X6_refusalOfHolder yi_X6_refusalOfHolder (m_X6_refusalOfHolder _ M hb x2) (tvSB_sh hb 0 (by decide)).2 (tvSB_sh hb 0 (by decide)).1 rfl rfl rfl (Nat.le_of_ble_eq_true rfl) (Nat.le_of_ble_eq_true rfl) (Nat.le_of_ble_eq_true rfl) (Nat.le_of_ble_eq_true rfl) (Nat.le_of_ble_eq_true rfl) ?_
    exact tv_iret C hQ dk_X6_refusalOfCommand_53 rfl (by rw [f_X6_refusalOfCommand, if_pos h1]) rfl
  refine tv_case (x := x1) (c := 1) (fun h2 => ?_) (fun h2 => ?_)
  · refine tv_sw C dk_X6_refusalOfCommand_1_c1 h2 ?_
    refine tv_aload_n C dk_X6_refusalOfCommand_54 rfl ?_
    refine tv_iload_n C dk_X6_refusalOfCommand_55 rfl ?_
    refine tv_iload_n C dk_X6_refusalOfCommand_56 rfl ?_
    refine tv_iload C dk_X6_refusalOfCommand_57 rfl ?_
    refine tv_cV1 C dk_X6_refusalOfCommand_59 ml_RX6_105 yk_X6_refusalOfBox yi_X6_refusalOfBox (m_X6_refusalOfBox _ M hb x2 x3 x4) (tvSB_sh hb 0 (by decide)).2 (tvSB_sh hb 0 (by decide)).1 rfl rfl rfl (Nat.le_of_ble_eq_true rfl) (Nat.le_of_ble_eq_true rfl) (Nat.le_of_ble_eq_true rfl) (Nat.le_of_ble_eq_true rfl) (Nat.le_of_ble_eq_true rfl) ?_
    exact tv_iret C hQ dk_X6_refusalOfCommand_62 rfl (by rw [f_X6_refusalOfCommand, if_neg h1, if_pos h2]) rfl
  refine tv_case (x := x1) (c := 2) (fun h3 => ?_) (fun h3 => ?_)
  · refine tv_sw C dk_X6_refusalOfCommand_1_c2 h3 ?_
    refine tv_aload_n C dk_X6_refusalOfCommand_63 rfl ?_
    refine tv_iload_n C dk_X6_refusalOfCommand_64 rfl ?_
    refine tv_iload_n C dk_X6_refusalOfCommand_65 rfl ?_
    refine tv_cV1 C dk_X6_refusalOfCommand_66 ml_RX6_109 yk_X6_refusalOfTide yi_X6_refusalOfTide (m_X6_refusalOfTide _ M hb x2 x3) (tvSB_sh hb 0 (by decide)).2 (tvSB_sh hb 0 (by decide)).1 rfl rfl rfl (Nat.le_of_ble_eq_true rfl) (Nat.le_of_ble_eq_true rfl) (Nat.le_of_ble_eq_true rfl) (Nat.le_of_ble_eq_true rfl) (Nat.le_of_ble_eq_true rfl) ?_
    exact tv_iret C hQ dk_X6_refusalOfCommand_69 rfl (by rw [f_X6_refusalOfCommand, if_neg h1, if_neg h2, if_pos h3]) rfl
  refine tv_case (x := x1) (c := 3) (fun h4 => ?_) (fun h4 => ?_)
  · refine tv_sw C dk_X6_refusalOfCommand_1_c3 h4 ?_
    refine tv_aload_n C dk_X6_refusalOfCommand_70 rfl ?_
    refine tv_iload_n C dk_X6_refusalOfCommand_71 rfl ?_
    refine tv_iload_n C dk_X6_refusalOfCommand_72 rfl ?_
    refine tv_iload C dk_X6_refusalOfCommand_73 rfl ?_
    refine tv_cV1 C dk_X6_refusalOfCommand_75 ml_RX6_113 yk_X6_refusalOfTurn yi_X6_refusalOfTurn (m_X6_refusalOfTurn _ M hb x2 x3 x4) (tvSB_sh hb 0 (by decide)).2 (tvSB_sh hb 0 (by decide)).1 rfl rfl rfl (Nat.le_of_ble_eq_true rfl) (Nat.le_of_ble_eq_true rfl) (Nat.le_of_ble_eq_true rfl) (Nat.le_of_ble_eq_true rfl) (Nat.le_of_ble_eq_true rfl) ?_
    exact tv_iret C hQ dk_X6_refusalOfCommand_78 rfl (by rw [f_X6_refusalOfCommand, if_neg h1, if_neg h2, if_neg h3, if_pos h4]) rfl
  refine tv_case (x := x1) (c := 4) (fun h5 => ?_) (fun h5 => ?_)
  · refine tv_sw C dk_X6_refusalOfCommand_1_c4 h5 ?_
    refine tv_aload_n C dk_X6_refusalOfCommand_79 rfl ?_
    refine tv_iload_n C dk_X6_refusalOfCommand_80 rfl ?_
    refine tv_iload_n C dk_X6_refusalOfCommand_81 rfl ?_
    refine tv_iload C dk_X6_refusalOfCommand_82 rfl ?_
    refine tv_cV1 C dk_X6_refusalOfCommand_84 ml_RX6_116 yk_X6_refusalOfCode yi_X6_refusalOfCode (m_X6_refusalOfCode _ M hb x2 x3 x4) (tvSB_sh hb 0 (by decide)).2 (tvSB_sh hb 0 (by decide)).1 rfl rfl rfl (Nat.le_of_ble_eq_true rfl) (Nat.le_of_ble_eq_true rfl) (Nat.le_of_ble_eq_true rfl) (Nat.le_of_ble_eq_true rfl) (Nat.le_of_ble_eq_true rfl) ?_
    exact tv_iret C hQ dk_X6_refusalOfCommand_87 rfl (by rw [f_X6_refusalOfCommand, if_neg h1, if_neg h2, if_neg h3, if_neg h4, if_pos h5]) rfl
  refine tv_case (x := x1) (c := 5) (fun h6 => ?_) (fun h6 => ?_)
  · refine tv_sw C dk_X6_refusalOfCommand_1_c5 h6 ?_
    refine tv_aload_n C dk_X6_refusalOfCommand_88 rfl ?_
    refine tv_iload_n C dk_X6_refusalOfCommand_89 rfl ?_
    refine tv_iload_n C dk_X6_refusalOfCommand_90 rfl ?_
    refine tv_cV1 C dk_X6_refusalOfCommand_91 ml_RX6_119 yk_X6_refusalOfPut yi_X6_refusalOfPut (m_X6_refusalOfPut _ M hb x2 x3) (tvSB_sh hb 0 (by decide)).2 (tvSB_sh hb 0 (by decide)).1 rfl rfl rfl (Nat.le_of_ble_eq_true rfl) (Nat.le_of_ble_eq_true rfl) (Nat.le_of_ble_eq_true rfl) (Nat.le_of_ble_eq_true rfl) (Nat.le_of_ble_eq_true rfl) ?_
    exact tv_iret C hQ dk_X6_refusalOfCommand_94 rfl (by rw [f_X6_refusalOfCommand, if_neg h1, if_neg h2, if_neg h3, if_neg h4, if_neg h5, if_pos h6]) rfl
  refine tv_case (x := x1) (c := 6) (fun h7 => ?_) (fun h7 => ?_)
  · refine tv_sw C dk_X6_refusalOfCommand_1_c6 h7 ?_
    refine tv_aload_n C dk_X6_refusalOfCommand_95 rfl ?_
    refine tv_iload_n C dk_X6_refusalOfCommand_96 rfl ?_
    refine tv_cV1 C dk_X6_refusalOfCommand_97 ml_RX6_122 yk_X6_refusalOfTake yi_X6_refusalOfTake (m_X6_refusalOfTake _ M hb x2) (tvSB_sh hb 0 (by decide)).2 (tvSB_sh hb 0 (by decide)).1 rfl rfl rfl (Nat.le_of_ble_eq_true rfl) (Nat.le_of_ble_eq_true rfl) (Nat.le_of_ble_eq_true rfl) (Nat.le_of_ble_eq_true rfl) (Nat.le_of_ble_eq_true rfl) ?_
    exact tv_iret C hQ dk_X6_refusalOfCommand_100 rfl (by rw [f_X6_refusalOfCommand, if_neg h1, if_neg h2, if_neg h3, if_neg h4, if_neg h5, if_neg h6, if_pos h7]) rfl
  refine tv_case (x := x1) (c := 7) (fun h8 => ?_) (fun h8 => ?_)
  · refine tv_sw C dk_X6_refusalOfCommand_1_c7 h8 ?_
    refine tv_aload_n C dk_X6_refusalOfCommand_101 rfl ?_
    refine tv_iload_n C dk_X6_refusalOfCommand_102 rfl ?_
    refine tv_cV1 C dk_X6_refusalOfCommand_103 ml_RX6_125 yk_X6_refusalOfClose yi_X6_refusalOfClose (m_X6_refusalOfClose _ M hb x2) (tvSB_sh hb 0 (by decide)).2 (tvSB_sh hb 0 (by decide)).1 rfl rfl rfl (Nat.le_of_ble_eq_true rfl) (Nat.le_of_ble_eq_true rfl) (Nat.le_of_ble_eq_true rfl) (Nat.le_of_ble_eq_true rfl) (Nat.le_of_ble_eq_true rfl) ?_
    exact tv_iret C hQ dk_X6_refusalOfCommand_106 rfl (by rw [f_X6_refusalOfCommand, if_neg h1, if_neg h2, if_neg h3, if_neg h4, if_neg h5, if_neg h6, if_neg h7, if_pos h8]) rfl
  refine tv_swd C (dk_X6_refusalOfCommand_1_d h1 h2 h3 h4 h5 h6 h7 h8) ?_
  refine tv_aload_n C dk_X6_refusalOfCommand_107 rfl ?_
  refine tv_iload_n C dk_X6_refusalOfCommand_108 rfl ?_
  refine tv_cV1 C dk_X6_refusalOfCommand_109 ml_RX6_128 yk_X6_refusalOfWait yi_X6_refusalOfWait (m_X6_refusalOfWait _ M hb x2) (tvSB_sh hb 0 (by decide)).2 (tvSB_sh hb 0 (by decide)).1 rfl rfl rfl (Nat.le_of_ble_eq_true rfl) (Nat.le_of_ble_eq_true rfl) (Nat.le_of_ble_eq_true rfl) (Nat.le_of_ble_eq_true rfl) (Nat.le_of_ble_eq_true rfl) ?_
  exact tv_iret C hQ dk_X6_refusalOfCommand_112 rfl (by rw [f_X6_refusalOfCommand, if_neg h1, if_neg h2, if_neg h3, if_neg h4, if_neg h5, if_neg h6, if_neg h7, if_neg h8]) rfl
/-- TideVault$State.carryOut(IIII)V -/
def f_X6_carryOut (M : tvM) (b : Nat) (x1 : Int32) (x2 : Int32) (x3 : Int32) (x4 : Int32) : tvM := (if x1 = 0 then (f_X2_add M b x2).2 else (if x1 = 1 then (f_X0_add M b x2 x3 x4).2 else (if x1 = 2 then (f_X7_become M b x2 x3).2 else (if x1 = 3 then (f_X6_turn M b x2 x3).2 else (if x1 = 4 then (f_X6_recode M b x2 x4).2 else (if x1 = 5 then (f_X6_put M b x2 x3).2 else (if x1 = 6 then (f_X6_take M b x2).2 else (if x1 = 7 then (f_X6_shut M b x2).2 else (f_X6_letPass M b x2).2))))))))
theorem m_X6_carryOut (G : tvG) (M : tvM) {b : Nat} (hb : tvSB b) (x1 : Int32) (x2 : Int32) (x3 : Int32) (x4 : Int32) : tvRun G yX6_carryOut cX6_carryOut 5 none 6 0 0 tvP0 tvP0 [.ref (G.2.1 + b), .int x1, .int x2, .int x3, .int x4] M (.inl none) (f_X6_carryOut M b x1 x2 x3 x4) := by
  refine tvRun.of yk_X6_carryOut rfl [some (.ref (G.2.1 + b)), some (.int x1), some (.int x2), some (.int x3), some (.int x4)] rfl (Nat.le_of_ble_eq_true rfl) ?_
  intro E hG C hQ; subst hG
  refine tv_iload_n C dk_X6_carryOut_0 rfl ?_
  refine tv_case (x := x1) (c := 0) (fun h1 => ?_) (fun h1 => ?_)
  · refine tv_sw C dk_X6_carryOut_1_c0 h1 ?_
    refine tv_aload_n C dk_X6_carryOut_48 rfl ?_
    refine tv_getR (r := (b + 2)) C dk_X6_carryOut_49 fl_RX6_21 (tvSB_sh hb 0 (by decide)).2 (tvSB_sh hb 0 (by decide)).1 (tvSB_rho hb (0, 1, 2) (by decide)) (fun _ _ _ _ => rfl) ?_
    refine tv_iload_n C dk_X6_carryOut_52 rfl ?_
    refine tv_cV1 C dk_X6_carryOut_53 ml_RX6_131 yk_X2_add yi_X2_add (m_X2_add _ M hb x2) (tvSB_sh hb 2 (by decide)).2 (tvSB_sh hb 2 (by decide)).1 rfl rfl rfl (Nat.le_of_ble_eq_true rfl) (Nat.le_of_ble_eq_true rfl) (Nat.le_of_ble_eq_true rfl) (Nat.le_of_ble_eq_true rfl) (Nat.le_of_ble_eq_true rfl) ?_
    refine tv_pop C dk_X6_carryOut_56 rfl ?_
    refine tv_goto C dk_X6_carryOut_57 ?_
    exact tv_vret C hQ dk_X6_carryOut_143 rfl (by rw [f_X6_carryOut, if_pos h1])
  refine tv_case (x := x1) (c := 1) (fun h2 => ?_) (fun h2 => ?_)
  · refine tv_sw C dk_X6_carryOut_1_c1 h2 ?_
    refine tv_aload_n C dk_X6_carryOut_60 rfl ?_
    refine tv_getR (r := (b + 6)) C dk_X6_carryOut_61 fl_RX6_28 (tvSB_sh hb 0 (by decide)).2 (tvSB_sh hb 0 (by decide)).1 (tvSB_rho hb (0, 2, 6) (by decide)) (fun _ _ _ _ => rfl) ?_
    refine tv_iload_n C dk_X6_carryOut_64 rfl ?_
    refine tv_iload_n C dk_X6_carryOut_65 rfl ?_
    refine tv_iload C dk_X6_carryOut_66 rfl ?_
    refine tv_cV1 C dk_X6_carryOut_68 ml_RX6_134 yk_X0_add yi_X0_add (m_X0_add _ M hb x2 x3 x4) (tvSB_sh hb 6 (by decide)).2 (tvSB_sh hb 6 (by decide)).1 rfl rfl rfl (Nat.le_of_ble_eq_true rfl) (Nat.le_of_ble_eq_true rfl) (Nat.le_of_ble_eq_true rfl) (Nat.le_of_ble_eq_true rfl) (Nat.le_of_ble_eq_true rfl) ?_
    refine tv_pop C dk_X6_carryOut_71 rfl ?_
    refine tv_goto C dk_X6_carryOut_72 ?_
    exact tv_vret C hQ dk_X6_carryOut_143 rfl (by rw [f_X6_carryOut, if_neg h1, if_pos h2])
  refine tv_case (x := x1) (c := 2) (fun h3 => ?_) (fun h3 => ?_)
  · refine tv_sw C dk_X6_carryOut_1_c2 h3 ?_
    refine tv_aload_n C dk_X6_carryOut_75 rfl ?_
    refine tv_getR (r := (b + 1)) C dk_X6_carryOut_76 fl_RX6_12 (tvSB_sh hb 0 (by decide)).2 (tvSB_sh hb 0 (by decide)).1 (tvSB_rho hb (0, 0, 1) (by decide)) (fun _ _ _ _ => rfl) ?_
    refine tv_iload_n C dk_X6_carryOut_79 rfl ?_
    refine tv_iload_n C dk_X6_carryOut_80 rfl ?_
    refine tv_cV1 C dk_X6_carryOut_81 ml_RX6_136 yk_X7_become yi_X7_become (m_X7_become _ M hb x2 x3) (tvSB_sh hb 1 (by decide)).2 (tvSB_sh hb 1 (by decide)).1 rfl rfl rfl (Nat.le_of_ble_eq_true rfl) (Nat.le_of_ble_eq_true rfl) (Nat.le_of_ble_eq_true rfl) (Nat.le_of_ble_eq_true rfl) (Nat.le_of_ble_eq_true rfl) ?_
    refine tv_pop C dk_X6_carryOut_84 rfl ?_
    refine tv_goto C dk_X6_carryOut_85 ?_
    exact tv_vret C hQ dk_X6_carryOut_143 rfl (by rw [f_X6_carryOut, if_neg h1, if_neg h2, if_pos h3])
  refine tv_case (x := x1) (c := 3) (fun h4 => ?_) (fun h4 => ?_)
  · refine tv_sw C dk_X6_carryOut_1_c3 h4 ?_
    refine tv_aload_n C dk_X6_carryOut_88 rfl ?_
    refine tv_iload_n C dk_X6_carryOut_89 rfl ?_
    refine tv_iload_n C dk_X6_carryOut_90 rfl ?_
    refine tv_cV1 C dk_X6_carryOut_91 ml_RX6_139 yk_X6_turn yi_X6_turn (m_X6_turn _ M hb x2 x3) (tvSB_sh hb 0 (by decide)).2 (tvSB_sh hb 0 (by decide)).1 rfl rfl rfl (Nat.le_of_ble_eq_true rfl) (Nat.le_of_ble_eq_true rfl) (Nat.le_of_ble_eq_true rfl) (Nat.le_of_ble_eq_true rfl) (Nat.le_of_ble_eq_true rfl) ?_
    refine tv_pop C dk_X6_carryOut_94 rfl ?_
    refine tv_goto C dk_X6_carryOut_95 ?_
    exact tv_vret C hQ dk_X6_carryOut_143 rfl (by rw [f_X6_carryOut, if_neg h1, if_neg h2, if_neg h3, if_pos h4])
  refine tv_case (x := x1) (c := 4) (fun h5 => ?_) (fun h5 => ?_)
  · refine tv_sw C dk_X6_carryOut_1_c4 h5 ?_
    refine tv_aload_n C dk_X6_carryOut_98 rfl ?_
    refine tv_iload_n C dk_X6_carryOut_99 rfl ?_
    refine tv_iload C dk_X6_carryOut_100 rfl ?_
    refine tv_cV1 C dk_X6_carryOut_102 ml_RX6_143 yk_X6_recode yi_X6_recode (m_X6_recode _ M hb x2 x4) (tvSB_sh hb 0 (by decide)).2 (tvSB_sh hb 0 (by decide)).1 rfl rfl rfl (Nat.le_of_ble_eq_true rfl) (Nat.le_of_ble_eq_true rfl) (Nat.le_of_ble_eq_true rfl) (Nat.le_of_ble_eq_true rfl) (Nat.le_of_ble_eq_true rfl) ?_
    refine tv_pop C dk_X6_carryOut_105 rfl ?_
    refine tv_goto C dk_X6_carryOut_106 ?_
    exact tv_vret C hQ dk_X6_carryOut_143 rfl (by rw [f_X6_carryOut, if_neg h1, if_neg h2, if_neg h3, if_neg h4, if_pos h5])
  refine tv_case (x := x1) (c := 5) (fun h6 => ?_) (fun h6 => ?_)
  · refine tv_sw C dk_X6_carryOut_1_c5 h6 ?_
    refine tv_aload_n C dk_X6_carryOut_109 rfl ?_
    refine tv_iload_n C dk_X6_carryOut_110 rfl ?_
    refine tv_iload_n C dk_X6_carryOut_111 rfl ?_
    refine tv_cV1 C dk_X6_carryOut_112 ml_RX6_146 yk_X6_put yi_X6_put (m_X6_put _ M hb x2 x3) (tvSB_sh hb 0 (by decide)).2 (tvSB_sh hb 0 (by decide)).1 rfl rfl rfl (Nat.le_of_ble_eq_true rfl) (Nat.le_of_ble_eq_true rfl) (Nat.le_of_ble_eq_true rfl) (Nat.le_of_ble_eq_true rfl) (Nat.le_of_ble_eq_true rfl) ?_
    refine tv_pop C dk_X6_carryOut_115 rfl ?_
    refine tv_goto C dk_X6_carryOut_116 ?_
    exact tv_vret C hQ dk_X6_carryOut_143 rfl (by rw [f_X6_carryOut, if_neg h1, if_neg h2, if_neg h3, if_neg h4, if_neg h5, if_pos h6])
  refine tv_case (x := x1) (c := 6) (fun h7 => ?_) (fun h7 => ?_)
  · refine tv_sw C dk_X6_carryOut_1_c6 h7 ?_
    refine tv_aload_n C dk_X6_carryOut_119 rfl ?_
    refine tv_iload_n C dk_X6_carryOut_120 rfl ?_
    refine tv_cV1 C dk_X6_carryOut_121 ml_RX6_149 yk_X6_take yi_X6_take (m_X6_take _ M hb x2) (tvSB_sh hb 0 (by decide)).2 (tvSB_sh hb 0 (by decide)).1 rfl rfl rfl (Nat.le_of_ble_eq_true rfl) (Nat.le_of_ble_eq_true rfl) (Nat.le_of_ble_eq_true rfl) (Nat.le_of_ble_eq_true rfl) (Nat.le_of_ble_eq_true rfl) ?_
    refine tv_pop C dk_X6_carryOut_124 rfl ?_
    refine tv_goto C dk_X6_carryOut_125 ?_
    exact tv_vret C hQ dk_X6_carryOut_143 rfl (by rw [f_X6_carryOut, if_neg h1, if_neg h2, if_neg h3, if_neg h4, if_neg h5, if_neg h6, if_pos h7])
  refine tv_case (x := x1) (c := 7) (fun h8 => ?_) (fun h8 => ?_)
  · refine tv_sw C dk_X6_carryOut_1_c7 h8 ?_
    refine tv_aload_n C dk_X6_carryOut_128 rfl ?_
    refine tv_iload_n C dk_X6_carryOut_129 rfl ?_
    refine tv_cV1 C dk_X6_carryOut_130 ml_RX6_152 yk_X6_shut yi_X6_shut (m_X6_shut _ M hb x2) (tvSB_sh hb 0 (by decide)).2 (tvSB_sh hb 0 (by decide)).1 rfl rfl rfl (Nat.le_of_ble_eq_true rfl) (Nat.le_of_ble_eq_true rfl) (Nat.le_of_ble_eq_true rfl) (Nat.le_of_ble_eq_true rfl) (Nat.le_of_ble_eq_true rfl) ?_
    refine tv_pop C dk_X6_carryOut_133 rfl ?_
    refine tv_goto C dk_X6_carryOut_134 ?_
    exact tv_vret C hQ dk_X6_carryOut_143 rfl (by rw [f_X6_carryOut, if_neg h1, if_neg h2, if_neg h3, if_neg h4, if_neg h5, if_neg h6, if_neg h7, if_pos h8])
  refine tv_swd C (dk_X6_carryOut_1_d h1 h2 h3 h4 h5 h6 h7 h8) ?_
  refine tv_aload_n C dk_X6_carryOut_137 rfl ?_
  refine tv_iload_n C dk_X6_carryOut_138 rfl ?_
  refine tv_cV1 C dk_X6_carryOut_139 ml_RX6_155 yk_X6_letPass yi_X6_letPass (n_X6_letPass _ M hb x2) (tvSB_sh hb 0 (by decide)).2 (tvSB_sh hb 0 (by decide)).1 rfl rfl rfl (Nat.le_of_ble_eq_true rfl) (Nat.le_of_ble_eq_true rfl) (Nat.le_of_ble_eq_true rfl) (Nat.le_of_ble_eq_true rfl) (Nat.le_of_ble_eq_true rfl) ?_
  refine tv_pop C dk_X6_carryOut_142 rfl ?_
  exact tv_vret C hQ dk_X6_carryOut_143 rfl (by rw [f_X6_carryOut, if_neg h1, if_neg h2, if_neg h3, if_neg h4, if_neg h5, if_neg h6, if_neg h7, if_neg h8])
