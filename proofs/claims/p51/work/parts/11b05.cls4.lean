/-- TideVault$Program.formOf(I)Ljava/lang/String; -/
def f_X5_formOf (x1 : Int32) : Nat := (if x1 = 0 then 10 else (if x1 = 1 then 11 else (if x1 = 2 then 12 else (if x1 = 3 then 13 else (if x1 = 4 then 14 else (if x1 = 5 then 15 else (if x1 = 6 then 16 else (if x1 = 7 then 16 else 17))))))))
theorem m_X5_formOf (G : tvG) (M : tvM) (x1 : Int32) : tvRun G yX5_formOf cX5_formOf 1 (some (.object "java/lang/String")) 1 0 0 tvP0 tvP0 [.int x1] M (.inl (some (.ref (G.2.2.2.2.1 (f_X5_formOf x1))))) M := by
  refine tvRun.of yk_X5_formOf rfl [some (.int x1)] rfl (Nat.le_of_ble_eq_true rfl) ?_
  intro E hG C hQ; subst hG
  refine tv_iload_n C dk_X5_formOf_0 rfl ?_
  refine tv_case (x := x1) (c := 0) (fun h1 => ?_) (fun h1 => ?_)
  · refine tv_sw C dk_X5_formOf_1_c0 h1 ?_
    refine tv_ldcS (i := 10) C dk_X5_formOf_48 (List.mem_of_getElem? (i := 10) rfl) ?_
    exact tv_aret C hQ dk_X5_formOf_50 (by rw [f_X5_formOf, if_pos h1]) rfl
  refine tv_case (x := x1) (c := 1) (fun h2 => ?_) (fun h2 => ?_)
  · refine tv_sw C dk_X5_formOf_1_c1 h2 ?_
    refine tv_ldcS (i := 11) C dk_X5_formOf_51 (List.mem_of_getElem? (i := 11) rfl) ?_
    exact tv_aret C hQ dk_X5_formOf_53 (by rw [f_X5_formOf, if_neg h1, if_pos h2]) rfl
  refine tv_case (x := x1) (c := 2) (fun h3 => ?_) (fun h3 => ?_)
  · refine tv_sw C dk_X5_formOf_1_c2 h3 ?_
    refine tv_ldcS (i := 12) C dk_X5_formOf_54 (List.mem_of_getElem? (i := 12) rfl) ?_
    exact tv_aret C hQ dk_X5_formOf_56 (by rw [f_X5_formOf, if_neg h1, if_neg h2, if_pos h3]) rfl
  refine tv_case (x := x1) (c := 3) (fun h4 => ?_) (fun h4 => ?_)
  · refine tv_sw C dk_X5_formOf_1_c3 h4 ?_
    refine tv_ldcS (i := 13) C dk_X5_formOf_57 (List.mem_of_getElem? (i := 13) rfl) ?_
    exact tv_aret C hQ dk_X5_formOf_59 (by rw [f_X5_formOf, if_neg h1, if_neg h2, if_neg h3, if_pos h4]) rfl
  refine tv_case (x := x1) (c := 4) (fun h5 => ?_) (fun h5 => ?_)
  · refine tv_sw C dk_X5_formOf_1_c4 h5 ?_
    refine tv_ldcS (i := 14) C dk_X5_formOf_60 (List.mem_of_getElem? (i := 14) rfl) ?_
    exact tv_aret C hQ dk_X5_formOf_62 (by rw [f_X5_formOf, if_neg h1, if_neg h2, if_neg h3, if_neg h4, if_pos h5]) rfl
  refine tv_case (x := x1) (c := 5) (fun h6 => ?_) (fun h6 => ?_)
  · refine tv_sw C dk_X5_formOf_1_c5 h6 ?_
    refine tv_ldcS (i := 15) C dk_X5_formOf_63 (List.mem_of_getElem? (i := 15) rfl) ?_
    exact tv_aret C hQ dk_X5_formOf_65 (by rw [f_X5_formOf, if_neg h1, if_neg h2, if_neg h3, if_neg h4, if_neg h5, if_pos h6]) rfl
  refine tv_case (x := x1) (c := 6) (fun h7 => ?_) (fun h7 => ?_)
  · refine tv_sw C dk_X5_formOf_1_c6 h7 ?_
    refine tv_ldcS (i := 16) C dk_X5_formOf_66 (List.mem_of_getElem? (i := 16) rfl) ?_
    exact tv_aret C hQ dk_X5_formOf_68 (by rw [f_X5_formOf, if_neg h1, if_neg h2, if_neg h3, if_neg h4, if_neg h5, if_neg h6, if_pos h7]) rfl
  refine tv_case (x := x1) (c := 7) (fun h8 => ?_) (fun h8 => ?_)
  · refine tv_sw C dk_X5_formOf_1_c7 h8 ?_
    refine tv_ldcS (i := 16) C dk_X5_formOf_69 (List.mem_of_getElem? (i := 16) rfl) ?_
    exact tv_aret C hQ dk_X5_formOf_71 (by rw [f_X5_formOf, if_neg h1, if_neg h2, if_neg h3, if_neg h4, if_neg h5, if_neg h6, if_neg h7, if_pos h8]) rfl
  refine tv_swd C (dk_X5_formOf_1_d h1 h2 h3 h4 h5 h6 h7 h8) ?_
  refine tv_ldcS (i := 17) C dk_X5_formOf_72 (List.mem_of_getElem? (i := 17) rfl) ?_
  exact tv_aret C hQ dk_X5_formOf_74 (by rw [f_X5_formOf, if_neg h1, if_neg h2, if_neg h3, if_neg h4, if_neg h5, if_neg h6, if_neg h7, if_neg h8]) rfl
theorem n_X8_refuse (G : tvG) (M : tvM) (x1 : Int32) : tvRun G yX8_refuse cX8_refuse 1 none 6 1 6 tvP0 tvP0 [.int x1] M (tvOx none (f_X8_refuse M x1).1) M := by
  have h := m_X8_refuse G M x1
  have h2 : (f_X8_refuse M x1).2 = M := by
    unfold f_X8_refuse
    repeat' split
    all_goals rfl
  rw [h2] at h
  exact h
/-- TideVault.refusalOfLowMinutes(I)I -/
def f_X8_refusalOfLowMinutes (M : tvM) (x1 : Int32) : Int32 := (if x1 < 0 then 2 else (if x1 ≤ 1000 then 0 else 2))
theorem m_X8_refusalOfLowMinutes (G : tvG) (M : tvM) (x1 : Int32) : tvRun G yX8_refusalOfLowMinutes cX8_refusalOfLowMinutes 2 (some .int) 1 0 0 tvP0 tvP0 [.ref (G.2.1 + 0), .int x1] M (.inl (some (.int (f_X8_refusalOfLowMinutes M x1)))) M := by
  refine tvRun.of yk_X8_refusalOfLowMinutes rfl [some (.ref (G.2.1 + 0)), some (.int x1)] rfl (Nat.le_of_ble_eq_true rfl) ?_
  intro E hG C hQ; subst hG
  refine tv_iload_n C dk_X8_refusalOfLowMinutes_0 rfl ?_
  refine tv_if_lt C dk_X8_refusalOfLowMinutes_1 (fun h1 => ?_) (fun h1 => ?_)
  · refine tv_iconst (v := 2) C dk_X8_refusalOfLowMinutes_11 (by decide) ?_
    refine tv_goto C dk_X8_refusalOfLowMinutes_12 ?_
    exact tv_iret C hQ dk_X8_refusalOfLowMinutes_16 rfl (by rw [f_X8_refusalOfLowMinutes, if_pos h1]) rfl
  refine tv_iload_n C dk_X8_refusalOfLowMinutes_4 rfl ?_
  refine tv_sipush (v := 1000) C dk_X8_refusalOfLowMinutes_5 (by decide) ?_
  refine tv_icmp_le C dk_X8_refusalOfLowMinutes_8 (fun h2 => ?_) (fun h2 => ?_)
  · refine tv_iconst (v := 0) C dk_X8_refusalOfLowMinutes_15 (by decide) ?_
    exact tv_iret C hQ dk_X8_refusalOfLowMinutes_16 rfl (by rw [f_X8_refusalOfLowMinutes, if_neg h1, if_pos h2]) rfl
  refine tv_iconst (v := 2) C dk_X8_refusalOfLowMinutes_11 (by decide) ?_
  refine tv_goto C dk_X8_refusalOfLowMinutes_12 ?_
  exact tv_iret C hQ dk_X8_refusalOfLowMinutes_16 rfl (by rw [f_X8_refusalOfLowMinutes, if_neg h1, if_neg h2]) rfl
/-- TideVault.refusalOfHolderNumber(I)I -/
def f_X8_refusalOfHolderNumber (M : tvM) (x1 : Int32) : Int32 := (if (f_X2_has M 1 x1) = 0 then 1 else 0)
theorem m_X8_refusalOfHolderNumber (G : tvG) (M : tvM) (x1 : Int32) : tvRun G yX8_refusalOfHolderNumber cX8_refusalOfHolderNumber 2 (some .int) 2 0 0 tvP0 tvP0 [.ref (G.2.1 + 0), .int x1] M (.inl (some (.int (f_X8_refusalOfHolderNumber M x1)))) M := by
  refine tvRun.of yk_X8_refusalOfHolderNumber rfl [some (.ref (G.2.1 + 0)), some (.int x1)] rfl (Nat.le_of_ble_eq_true rfl) ?_
  intro E hG C hQ; subst hG
  refine tv_aload_n C dk_X8_refusalOfHolderNumber_0 rfl ?_
  refine tv_getR (r := 1) C dk_X8_refusalOfHolderNumber_1 fl_RX8_12 (Nat.le_of_ble_eq_true rfl) rfl rfl (fun _ _ _ _ => rfl) ?_
  refine tv_getR (r := (1 + 2)) C dk_X8_refusalOfHolderNumber_4 fl_RX8_62 (tvSB_sh tvSBn_1 0 (by decide)).2 (tvSB_sh tvSBn_1 0 (by decide)).1 (tvSB_rho tvSBn_1 (0, 1, 2) (by decide)) (fun _ _ _ _ => rfl) ?_
  refine tv_iload_n C dk_X8_refusalOfHolderNumber_7 rfl ?_
  refine tv_cV1 C dk_X8_refusalOfHolderNumber_8 ml_RX8_395 yk_X2_has yi_X2_has (m_X2_has _ M tvSBn_1 x1) (tvSB_sh tvSBn_1 2 (by decide)).2 (tvSB_sh tvSBn_1 2 (by decide)).1 rfl rfl rfl (Nat.le_of_ble_eq_true rfl) (Nat.le_of_ble_eq_true rfl) (Nat.le_of_ble_eq_true rfl) (Nat.le_of_ble_eq_true rfl) (Nat.le_of_ble_eq_true rfl) ?_
  refine tv_if_eq C dk_X8_refusalOfHolderNumber_11 (fun h1 => ?_) (fun h1 => ?_)
  · refine tv_iconst (v := 1) C dk_X8_refusalOfHolderNumber_18 (by decide) ?_
    exact tv_iret C hQ dk_X8_refusalOfHolderNumber_19 rfl (by rw [f_X8_refusalOfHolderNumber, if_pos h1]) rfl
  refine tv_iconst (v := 0) C dk_X8_refusalOfHolderNumber_14 (by decide) ?_
  refine tv_goto C dk_X8_refusalOfHolderNumber_15 ?_
  exact tv_iret C hQ dk_X8_refusalOfHolderNumber_19 rfl (by rw [f_X8_refusalOfHolderNumber, if_neg h1]) rfl
