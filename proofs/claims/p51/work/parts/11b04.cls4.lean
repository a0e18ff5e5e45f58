/-- TideVault$Program.sign()C -/
def f_X5_sign (M : tvM) : Int32 := (f_X5_signAt M (tgi M 243 2))
theorem m_X5_sign (G : tvG) (M : tvM) : tvRun G yX5_sign cX5_sign 1 (some .char) 2 0 0 tvP0 tvP0 [.ref (G.2.1 + 243)] M (.inl (some (.int (f_X5_sign M)))) M := by
  refine tvRun.of yk_X5_sign rfl [some (.ref (G.2.1 + 243))] rfl (Nat.le_of_ble_eq_true rfl) ?_
  intro E hG C hQ; subst hG
  refine tv_aload_n C dk_X5_sign_0 rfl ?_
  refine tv_aload_n C dk_X5_sign_1 rfl ?_
  refine tv_getI C dk_X5_sign_2 fl_RX5_26 (Nat.le_of_ble_eq_true rfl) rfl (fun _ _ _ _ => rfl) ?_
  refine tv_cV1 C dk_X5_sign_5 ml_RX5_79 yk_X5_signAt yi_X5_signAt (m_X5_signAt _ M (tgi M 243 2)) (Nat.le_of_ble_eq_true rfl) rfl rfl rfl rfl (Nat.le_of_ble_eq_true rfl) (Nat.le_of_ble_eq_true rfl) (Nat.le_of_ble_eq_true rfl) (Nat.le_of_ble_eq_true rfl) (Nat.le_of_ble_eq_true rfl) ?_
  exact tv_iret C hQ dk_X5_sign_8 (fz_X5_signAt) (by rw [f_X5_sign]) rfl
theorem fz_X5_sign {M : tvM} : narrow .char (.int (f_X5_sign M)) = .int (f_X5_sign M) := by
  unfold f_X5_sign; repeat' split
  all_goals first | rfl | exact (fz_X5_signAt)
/-- TideVault$Program.isDigit(C)Z -/
def f_X5_isDigit (M : tvM) (x1 : Int32) : Int32 := (if x1 < 48 then 0 else (if 57 < x1 then 0 else 1))
theorem m_X5_isDigit (G : tvG) (M : tvM) (x1 : Int32) : tvRun G yX5_isDigit cX5_isDigit 1 (some .boolean) 1 0 0 tvP0 tvP0 [.int x1] M (.inl (some (.int (f_X5_isDigit M x1)))) M := by
  refine tvRun.of yk_X5_isDigit rfl [some (.int x1)] rfl (Nat.le_of_ble_eq_true rfl) ?_
  intro E hG C hQ; subst hG
  refine tv_iload_n C dk_X5_isDigit_0 rfl ?_
  refine tv_bipush (v := 48) C dk_X5_isDigit_1 (by decide) ?_
  refine tv_icmp_lt C dk_X5_isDigit_3 (fun h1 => ?_) (fun h1 => ?_)
  · refine tv_iconst (v := 0) C dk_X5_isDigit_16 (by decide) ?_
    exact tv_iret C hQ dk_X5_isDigit_17 rfl (by rw [f_X5_isDigit, if_pos h1]) rfl
  refine tv_iload_n C dk_X5_isDigit_6 rfl ?_
  refine tv_bipush (v := 57) C dk_X5_isDigit_7 (by decide) ?_
  refine tv_icmp_gt C dk_X5_isDigit_9 (fun h2 => ?_) (fun h2 => ?_)
  · refine tv_iconst (v := 0) C dk_X5_isDigit_16 (by decide) ?_
    exact tv_iret C hQ dk_X5_isDigit_17 rfl (by rw [f_X5_isDigit, if_neg h1, if_pos h2]) rfl
  refine tv_iconst (v := 1) C dk_X5_isDigit_12 (by decide) ?_
  refine tv_goto C dk_X5_isDigit_13 ?_
  exact tv_iret C hQ dk_X5_isDigit_17 rfl (by rw [f_X5_isDigit, if_neg h1, if_neg h2]) rfl
theorem fz_X5_isDigit {M : tvM} {x1 : Int32} : narrow .boolean (.int (f_X5_isDigit M x1)) = .int (f_X5_isDigit M x1) := by
  unfold f_X5_isDigit; repeat' split
  all_goals first | rfl
/-- TideVault$Program.readSign(C)Z -/
def f_X5_readSign (M : tvM) (x1 : Int32) : Int32 × tvM := (if (tgi M 243 1) ≤ (tgi M 243 2) then (0, M) else (if (f_X5_sign M) = x1 then (1, (tpi M 243 2 ((tgi M 243 2) + 1))) else (0, M)))
theorem m_X5_readSign (G : tvG) (M : tvM) (x1 : Int32) : tvRun G yX5_readSign cX5_readSign 2 (some .boolean) 3 0 0 tvP0 tvP0 [.ref (G.2.1 + 243), .int x1] M (.inl (some (.int (f_X5_readSign M x1).1))) ((f_X5_readSign M x1).2) := by
  refine tvRun.of yk_X5_readSign rfl [some (.ref (G.2.1 + 243)), some (.int x1)] rfl (Nat.le_of_ble_eq_true rfl) ?_
  intro E hG C hQ; subst hG
  refine tv_aload_n C dk_X5_readSign_0 rfl ?_
  refine tv_getI C dk_X5_readSign_1 fl_RX5_26 (Nat.le_of_ble_eq_true rfl) rfl (fun _ _ _ _ => rfl) ?_
  refine tv_aload_n C dk_X5_readSign_4 rfl ?_
  refine tv_getI C dk_X5_readSign_5 fl_RX5_22 (Nat.le_of_ble_eq_true rfl) rfl (fun _ _ _ _ => rfl) ?_
  refine tv_icmp_ge C dk_X5_readSign_8 (fun h1 => ?_) (fun h1 => ?_)
  · refine tv_iconst (v := 0) C dk_X5_readSign_19 (by decide) ?_
    exact tv_iret C hQ dk_X5_readSign_20 rfl (by rw [f_X5_readSign, if_pos h1]) (by rw [f_X5_readSign, if_pos h1])
  refine tv_aload_n C dk_X5_readSign_11 rfl ?_
  refine tv_cV1 C dk_X5_readSign_12 ml_RX5_48 yk_X5_sign yi_X5_sign (m_X5_sign _ M) (Nat.le_of_ble_eq_true rfl) rfl rfl rfl rfl (Nat.le_of_ble_eq_true rfl) (Nat.le_of_ble_eq_true rfl) (Nat.le_of_ble_eq_true rfl) (Nat.le_of_ble_eq_true rfl) (Nat.le_of_ble_eq_true rfl) ?_
  refine tv_iload_n C dk_X5_readSign_15 rfl ?_
  refine tv_icmp_eq C dk_X5_readSign_16 (fun h2 => ?_) (fun h2 => ?_)
  · refine tv_aload_n C dk_X5_readSign_21 rfl ?_
    refine tv_dup C dk_X5_readSign_22 rfl ?_
    refine tv_getI C dk_X5_readSign_23 fl_RX5_26 (Nat.le_of_ble_eq_true rfl) rfl (fun _ _ _ _ => rfl) ?_
    refine tv_iconst (v := 1) C dk_X5_readSign_26 (by decide) ?_
    refine tv_iadd C dk_X5_readSign_27 ?_
    refine tv_putI C tvP0_ex dk_X5_readSign_28 fl_RX5_26 fw_5_2 (Nat.le_of_ble_eq_true rfl) rfl rfl (fun _ _ _ _ _ => rfl) rfl rfl ?_
    refine tv_iconst (v := 1) C dk_X5_readSign_31 (by decide) ?_
    exact tv_iret C hQ dk_X5_readSign_32 rfl (by rw [f_X5_readSign, if_neg h1, if_pos h2]) (by rw [f_X5_readSign, if_neg h1, if_pos h2])
  refine tv_iconst (v := 0) C dk_X5_readSign_19 (by decide) ?_
  exact tv_iret C hQ dk_X5_readSign_20 rfl (by rw [f_X5_readSign, if_neg h1, if_neg h2]) (by rw [f_X5_readSign, if_neg h1, if_neg h2])
theorem fz_X5_readSign {M : tvM} {x1 : Int32} : narrow .boolean (.int (f_X5_readSign M x1).1) = .int ((f_X5_readSign M x1).1) := by
  unfold f_X5_readSign; repeat' split
  all_goals try dsimp only
  all_goals first | rfl
/-- TideVault$Program.wordOf(I)Ljava/lang/String; -/
def f_X5_wordOf (x1 : Int32) : Nat := (if x1 = 0 then 0 else (if x1 = 1 then 1 else (if x1 = 2 then 2 else (if x1 = 3 then 3 else (if x1 = 4 then 4 else (if x1 = 5 then 5 else (if x1 = 6 then 6 else (if x1 = 7 then 7 else 8))))))))
theorem m_X5_wordOf (G : tvG) (M : tvM) (x1 : Int32) : tvRun G yX5_wordOf cX5_wordOf 1 (some (.object "java/lang/String")) 1 0 0 tvP0 tvP0 [.int x1] M (.inl (some (.ref (G.2.2.2.2.1 (f_X5_wordOf x1))))) M := by
  refine tvRun.of yk_X5_wordOf rfl [some (.int x1)] rfl (Nat.le_of_ble_eq_true rfl) ?_
  intro E hG C hQ; subst hG
  refine tv_iload_n C dk_X5_wordOf_0 rfl ?_
  refine tv_case (x := x1) (c := 0) (fun h1 => ?_) (fun h1 => ?_)
  · refine tv_sw C dk_X5_wordOf_1_c0 h1 ?_
    refine tv_ldcS (i := 0) C dk_X5_wordOf_48 (List.mem_of_getElem? (i := 0) rfl) ?_
    exact tv_aret C hQ dk_X5_wordOf_50 (by rw [f_X5_wordOf, if_pos h1]) rfl
  refine tv_case (x := x1) (c := 1) (fun h2 => ?_) (fun h2 => ?_)
  · refine tv_sw C dk_X5_wordOf_1_c1 h2 ?_
    refine tv_ldcS (i := 1) C dk_X5_wordOf_51 (List.mem_of_getElem? (i := 1) rfl) ?_
    exact tv_aret C hQ dk_X5_wordOf_53 (by rw [f_X5_wordOf, if_neg h1, if_pos h2]) rfl
  refine tv_case (x := x1) (c := 2) (fun h3 => ?_) (fun h3 => ?_)
  · refine tv_sw C dk_X5_wordOf_1_c2 h3 ?_
    refine tv_ldcS (i := 2) C dk_X5_wordOf_54 (List.mem_of_getElem? (i := 2) rfl) ?_
    exact tv_aret C hQ dk_X5_wordOf_56 (by rw [f_X5_wordOf, if_neg h1, if_neg h2, if_pos h3]) rfl
  refine tv_case (x := x1) (c := 3) (fun h4 => ?_) (fun h4 => ?_)
  · refine tv_sw C dk_X5_wordOf_1_c3 h4 ?_
    refine tv_ldcS (i := 3) C dk_X5_wordOf_57 (List.mem_of_getElem? (i := 3) rfl) ?_
    exact tv_aret C hQ dk_X5_wordOf_59 (by rw [f_X5_wordOf, if_neg h1, if_neg h2, if_neg h3, if_pos h4]) rfl
  refine tv_case (x := x1) (c := 4) (fun h5 => ?_) (fun h5 => ?_)
  · refine tv_sw C dk_X5_wordOf_1_c4 h5 ?_
    refine tv_ldcS (i := 4) C dk_X5_wordOf_60 (List.mem_of_getElem? (i := 4) rfl) ?_
    exact tv_aret C hQ dk_X5_wordOf_62 (by rw [f_X5_wordOf, if_neg h1, if_neg h2, if_neg h3, if_neg h4, if_pos h5]) rfl
  refine tv_case (x := x1) (c := 5) (fun h6 => ?_) (fun h6 => ?_)
  · refine tv_sw C dk_X5_wordOf_1_c5 h6 ?_
    refine tv_ldcS (i := 5) C dk_X5_wordOf_63 (List.mem_of_getElem? (i := 5) rfl) ?_
    exact tv_aret C hQ dk_X5_wordOf_65 (by rw [f_X5_wordOf, if_neg h1, if_neg h2, if_neg h3, if_neg h4, if_neg h5, if_pos h6]) rfl
  refine tv_case (x := x1) (c := 6) (fun h7 => ?_) (fun h7 => ?_)
  · refine tv_sw C dk_X5_wordOf_1_c6 h7 ?_
    refine tv_ldcS (i := 6) C dk_X5_wordOf_66 (List.mem_of_getElem? (i := 6) rfl) ?_
    exact tv_aret C hQ dk_X5_wordOf_68 (by rw [f_X5_wordOf, if_neg h1, if_neg h2, if_neg h3, if_neg h4, if_neg h5, if_neg h6, if_pos h7]) rfl
  refine tv_case (x := x1) (c := 7) (fun h8 => ?_) (fun h8 => ?_)
  · refine tv_sw C dk_X5_wordOf_1_c7 h8 ?_
    refine tv_ldcS (i := 7) C dk_X5_wordOf_69 (List.mem_of_getElem? (i := 7) rfl) ?_
    exact tv_aret C hQ dk_X5_wordOf_71 (by rw [f_X5_wordOf, if_neg h1, if_neg h2, if_neg h3, if_neg h4, if_neg h5, if_neg h6, if_neg h7, if_pos h8]) rfl
  refine tv_swd C (dk_X5_wordOf_1_d h1 h2 h3 h4 h5 h6 h7 h8) ?_
  refine tv_ldcS (i := 8) C dk_X5_wordOf_72 (List.mem_of_getElem? (i := 8) rfl) ?_
  exact tv_aret C hQ dk_X5_wordOf_74 (by rw [f_X5_wordOf, if_neg h1, if_neg h2, if_neg h3, if_neg h4, if_neg h5, if_neg h6, if_neg h7, if_neg h8]) rfl
