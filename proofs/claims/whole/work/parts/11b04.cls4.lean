/-- TideVault$Program.signAt(I)C -/
def f_X5_signAt (M : tvM) (x1 : Int32) : Int32 := (if x1 < 0 then 0 else (if (tgi M 243 1) ≤ x1 then 0 else (if 60 ≤ x1 then 0 else (tnc (tgi M 244 x1.toNatClampNeg)))))
theorem m_X5_signAt (G : tvG) (M : tvM) (x1 : Int32) : tvRun G yX5_signAt cX5_signAt 3 (some .char) 1 0 0 tvP0 tvP0 [.ref (G.2.1 + 243), .int x1] M (.inl (some (.int (f_X5_signAt M x1)))) M := by
  refine tvRun.of yk_X5_signAt rfl [some (.ref (G.2.1 + 243)), some (.int x1), none] rfl (Nat.le_of_ble_eq_true rfl) ?_
  intro E hG C hQ; subst hG
  refine tv_iload_n C dk_X5_signAt_0 rfl ?_
  refine tv_if_lt C dk_X5_signAt_1 (fun h1 => ?_) (fun h1 => ?_)
  · refine tv_iconst (v := 0) C dk_X5_signAt_22 (by decide) ?_
    refine tv_istore_n (L' := [_, _, _]) (hn := by decide) (hlt := (Nat.le_of_ble_eq_true rfl)) (hno := rfl) C dk_X5_signAt_23 rfl ?_
    refine tv_iload_n C dk_X5_signAt_24 rfl ?_
    refine tv_if_eq C dk_X5_signAt_25 (fun _ => ?_) (fun h => absurd h (by decide))
    refine tv_iconst (v := 0) C dk_X5_signAt_37 (by decide) ?_
    exact tv_iret C hQ dk_X5_signAt_38 rfl (by rw [f_X5_signAt, if_pos h1]) rfl
  refine tv_iload_n C dk_X5_signAt_4 rfl ?_
  refine tv_aload_n C dk_X5_signAt_5 rfl ?_
  refine tv_getI C dk_X5_signAt_6 fl_RX5_22 (Nat.le_of_ble_eq_true rfl) rfl (fun _ _ _ _ => rfl) ?_
  refine tv_icmp_ge C dk_X5_signAt_9 (fun h2 => ?_) (fun h2 => ?_)
  · refine tv_iconst (v := 0) C dk_X5_signAt_22 (by decide) ?_
    refine tv_istore_n (L' := [_, _, _]) (hn := by decide) (hlt := (Nat.le_of_ble_eq_true rfl)) (hno := rfl) C dk_X5_signAt_23 rfl ?_
    refine tv_iload_n C dk_X5_signAt_24 rfl ?_
    refine tv_if_eq C dk_X5_signAt_25 (fun _ => ?_) (fun h => absurd h (by decide))
    refine tv_iconst (v := 0) C dk_X5_signAt_37 (by decide) ?_
    exact tv_iret C hQ dk_X5_signAt_38 rfl (by rw [f_X5_signAt, if_neg h1, if_pos h2]) rfl
  refine tv_iload_n C dk_X5_signAt_12 rfl ?_
  refine tv_bipush (v := 60) C dk_X5_signAt_13 (by decide) ?_
  refine tv_icmp_ge C dk_X5_signAt_15 (fun h3 => ?_) (fun h3 => ?_)
  · refine tv_iconst (v := 0) C dk_X5_signAt_22 (by decide) ?_
    refine tv_istore_n (L' := [_, _, _]) (hn := by decide) (hlt := (Nat.le_of_ble_eq_true rfl)) (hno := rfl) C dk_X5_signAt_23 rfl ?_
    refine tv_iload_n C dk_X5_signAt_24 rfl ?_
    refine tv_if_eq C dk_X5_signAt_25 (fun _ => ?_) (fun h => absurd h (by decide))
    refine tv_iconst (v := 0) C dk_X5_signAt_37 (by decide) ?_
    exact tv_iret C hQ dk_X5_signAt_38 rfl (by rw [f_X5_signAt, if_neg h1, if_neg h2, if_pos h3]) rfl
  refine tv_iconst (v := 1) C dk_X5_signAt_18 (by decide) ?_
  refine tv_goto C dk_X5_signAt_19 ?_
  refine tv_istore_n (L' := [_, _, _]) (hn := by decide) (hlt := (Nat.le_of_ble_eq_true rfl)) (hno := rfl) C dk_X5_signAt_23 rfl ?_
  refine tv_iload_n C dk_X5_signAt_24 rfl ?_
  refine tv_if_eq C dk_X5_signAt_25 (fun h => absurd h (by decide)) (fun _ => ?_)
  refine tv_aload_n C dk_X5_signAt_28 rfl ?_
  refine tv_getR (r := 244) C dk_X5_signAt_29 fl_RX5_9 (Nat.le_of_ble_eq_true rfl) rfl rfl (fun _ _ _ _ => rfl) ?_
  refine tv_iload_n C dk_X5_signAt_32 rfl ?_
  refine tv_cald (j := x1.toNatClampNeg) rfl C dk_X5_signAt_33 (Nat.le_of_ble_eq_true rfl) rfl (tvin_2 (n := 60) h1 h3 rfl (by decide)) ?_
  refine tv_goto C dk_X5_signAt_34 ?_
  exact tv_iret C hQ dk_X5_signAt_38 (tnc_nar _) (by rw [f_X5_signAt, if_neg h1, if_neg h2, if_neg h3]) rfl
theorem fz_X5_signAt {M : tvM} {x1 : Int32} : narrow .char (.int (f_X5_signAt M x1)) = .int (f_X5_signAt M x1) := by
  unfold f_X5_signAt; repeat' split
  all_goals first | rfl | exact (tnc_nar _)
/-- TideVault$Program.sign()C -/
def f_X5_sign (M : tvM) : Int32 := (f_X5_signAt M (tgi M 243 2))
theorem m_X5_sign (G : tvG) (M : tvM) : tvRun G yX5_sign cX5_sign 1 (some .char) 2 0 0 tvP0 tvP0 [.ref (G.2.1 + 243)] M (.inl (some (.int (f_X5_sign M)))) M := by
  refine tvRun.of yk_X5_sign rfl [some (.ref (G.2.1 + 243))] rfl (Nat.le_of_ble_eq_true rfl) ?_
  intro E hG C hQ; subst hG
  refine tv_aload_n C dk_X5_sign_0 rfl ?_
  refine tv_aload_n C dk_X5_sign_1 rfl ?_
  refine tv_getI C dk_X5_sign_2 fl_RX5_26 (Nat.le_of_ble_eq_true rfl) rfl (fun _ _ _ _ => rfl) ?_
  refine tv_cV1 C dk_X5_sign_5 ml_RX5_79 yk_X5_signAt yi_X5_signAt (m_X5_signAt _ M (tgi M 243 2)) (Nat.le_of_ble_eq_true rfl) rfl rfl rfl rfl (Nat.le_of_ble_eq_true rfl) (Nat.le_of_ble_eq_true rfl) (Nat.le_of_ble_eq_true rfl) (Nat.le_of_ble_eq_true rfl) (Nat.le_of_ble_eq_true rfl) ?_
  exact tv_iret C hQ dk_X5_sign_8 (fz_X5_signAt) (by rw [f_X5_sign]) rfl
theorem fz_X5_sign {M : tvM} : narrow .char (.int (f_X5_sign M)) = .int (f_X5_sign M) := by
  unfold f_X5_sign; repeat' split
  all_goals first | rfl | exact (fz_X5_signAt)
/-- TideVault$Program.isDigit(C)Z -/
def f_X5_isDigit (M : tvM) (x1 : Int32) : Int32 := (if x1 < 48 then 0 else (if 57 < x1 then 0 else 1))
theorem m_X5_isDigit (G : tvG) (M : tvM) (x1 : Int32) : tvRun G yX5_isDigit cX5_isDigit 1 (some .boolean) 1 0 0 tvP0 tvP0 [.int x1] M (.inl (some (.int (f_X5_isDigit M x1)))) M := by
  refine tvRun.of yk_X5_isDigit rfl [some (.int x1)] rfl (Nat.le_of_ble_eq_true rfl) ?_
  intro E hG C hQ; subst hG
  refine tv_iload_n C dk_X5_isDigit_0 rfl ?_
  refine tv_bipush (v := 48) C dk_X5_isDigit_1 (by decide) ?_
  refine tv_icmp_lt C dk_X5_isDigit_3 (fun h1 => ?_) (fun h1 => ?_)
  · refine tv_iconst (v := 0) C dk_X5_isDigit_16 (by decide) ?_
    exact tv_iret C hQ dk_X5_isDigit_17 rfl (by rw [f_X5_isDigit, if_pos h1]) rfl
  refine tv_iload_n C dk_X5_isDigit_6 rfl ?_
  refine tv_bipush (v := 57) C dk_X5_isDigit_7 (by decide) ?_
  refine tv_icmp_gt C dk_X5_isDigit_9 (fun h2 => ?_) (fun h2 => ?_)
  · refine tv_iconst (v := 0) C dk_X5_isDigit_16 (by decide) ?_
    exact tv_iret C hQ dk_X5_isDigit_17 rfl (by rw [f_X5_isDigit, if_neg h1, if_pos h2]) rfl
  refine tv_iconst (v := 1) C dk_X5_isDigit_12 (by decide) ?_
  refine tv_goto C dk_X5_isDigit_13 ?_
  exact tv_iret C hQ dk_X5_isDigit_17 rfl (by rw [f_X5_isDigit, if_neg h1, if_neg h2]) rfl
theorem fz_X5_isDigit {M : tvM} {x1 : Int32} : narrow .boolean (.int (f_X5_isDigit M x1)) = .int (f_X5_isDigit M x1) := by
  unfold f_X5_isDigit; repeat' split
  all_goals first | rfl
/-- TideVault$Program.readSign(C)Z -/
def f_X5_readSign (M : tvM) (x1 : Int32) : Int32 × tvM := (if (tgi M 243 1) ≤ (tgi M 243 2) then (0, M) else (if (f_X5_sign M) = x1 then (1, (tpi M 243 2 ((tgi M 243 2) + 1))) else (0, M)))
theorem m_X5_readSign (G : tvG) (M : tvM) (x1 : Int32) : tvRun G yX5_readSign cX5_readSign 2 (some .boolean) 3 0 0 tvP0 tvP0 [.ref (G.2.1 + 243), .int x1] M (.inl (some (.int (f_X5_readSign M x1).1))) ((f_X5_readSign M x1).2) := by
  refine tvRun.of yk_X5_readSign rfl [some (.ref (G.2.1 + 243)), some (.int x1)] rfl (Nat.le_of_ble_eq_true rfl) ?_
  intro E hG C hQ; subst hG
  refine tv_aload_n C dk_X5_readSign_0 rfl ?_
  refine tv_getI C dk_X5_readSign_1 fl_RX5_26 (Nat.le_of_ble_eq_true rfl) rfl (fun _ _ _ _ => rfl) ?_
  refine tv_aload_n C dk_X5_readSign_4 rfl ?_
  refine tv_getI C dk_X5_readSign_5 fl_RX5_22 (Nat.le_of_ble_eq_true rfl) rfl (fun _ _ _ _ => rfl) ?_
  refine tv_icmp_ge C dk_X5_readSign_8 (fun h1 => ?_) (fun h1 => ?_)
  · refine tv_iconst (v := 0) C dk_X5_readSign_19 (by decide) ?_
    exact tv_iret C hQ dk_X5_readSign_20 rfl (by rw [f_X5_readSign, if_pos h1]) (by rw [f_X5_readSign, if_pos h1])
  refine tv_aload_n C dk_X5_readSign_11 rfl ?_
  refine tv_cV1 C dk_X5_readSign_12 ml_RX5_48 yk_X5_sign yi_X5_sign (m_X5_sign _ M) (Nat.le_of_ble_eq_true rfl) rfl rfl rfl rfl (Nat.le_of_ble_eq_true rfl) (Nat.le_of_ble_eq_true rfl) (Nat.le_of_ble_eq_true rfl) (Nat.le_of_ble_eq_true rfl) (Nat.le_of_ble_eq_true rfl) ?_
  refine tv_iload_n C dk_X5_readSign_15 rfl ?_
  refine tv_icmp_eq C dk_X5_readSign_16 (fun h2 => ?_) (fun h2 => ?_)
  · refine tv_aload_n C dk_X5_readSign_21 rfl ?_
    refine tv_dup C dk_X5_readSign_22 rfl ?_
    refine tv_getI C dk_X5_readSign_23 fl_RX5_26 (Nat.le_of_ble_eq_true rfl) rfl (fun _ _ _ _ => rfl) ?_
    refine tv_iconst (v := 1) C dk_X5_readSign_26 (by decide) ?_
    refine tv_iadd C dk_X5_readSign_27 ?_
    refine tv_putI C tvP0_ex dk_X5_readSign_28 fl_RX5_26 fw_5_2 (Nat.le_of_ble_eq_true rfl) rfl rfl (fun _ _ _ _ _ => rfl) rfl rfl ?_
    refine tv_iconst (v := 1) C dk_X5_readSign_31 (by decide) ?_
    exact tv_iret C hQ dk_X5_readSign_32 rfl (by rw [f_X5_readSign, if_neg h1, if_pos h2]) (by rw [f_X5_readSign, if_neg h1, if_pos h2])
  refine tv_iconst (v := 0) C dk_X5_readSign_19 (by decide) ?_
  exact tv_iret C hQ dk_X5_readSign_20 rfl (by rw [f_X5_readSign, if_neg h1, if_neg h2]) (by rw [f_X5_readSign, if_neg h1, if_neg h2])
theorem fz_X5_readSign {M : tvM} {x1 : Int32} : narrow .boolean (.int (f_X5_readSign M x1).1) = .int ((f_X5_readSign M x1).1) := by
  unfold f_X5_readSign; repeat' split
  all_goals try dsimp only
  all_goals first | rfl
