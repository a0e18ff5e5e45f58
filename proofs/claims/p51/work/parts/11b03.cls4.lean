/-- TideVault$Program.verbOf(I)I -/
def f_X5_verbOf (M : tvM) (x1 : Int32) : Int32 := (if x1 < 0 then 8 else (if 60 ≤ x1 then 8 else (tgi M 245 x1.toNatClampNeg)))
theorem m_X5_verbOf (G : tvG) (M : tvM) (x1 : Int32) : tvRun G yX5_verbOf cX5_verbOf 2 (some .int) 1 0 0 tvP0 tvP0 [.ref (G.2.1 + 243), .int x1] M (.inl (some (.int (f_X5_verbOf M x1)))) M := by
  refine tvRun.of yk_X5_verbOf rfl [some (.ref (G.2.1 + 243)), some (.int x1)] rfl (Nat.le_of_ble_eq_true rfl) ?_
  intro E hG C hQ; subst hG
  refine tv_iload_n C dk_X5_verbOf_0 rfl ?_
  refine tv_if_lt C dk_X5_verbOf_1 (fun h1 => ?_) (fun h1 => ?_)
  · refine tv_bipush (v := 8) C dk_X5_verbOf_19 (by decide) ?_
    exact tv_iret C hQ dk_X5_verbOf_21 rfl (by rw [f_X5_verbOf, if_pos h1]) rfl
  refine tv_iload_n C dk_X5_verbOf_4 rfl ?_
  refine tv_bipush (v := 60) C dk_X5_verbOf_5 (by decide) ?_
  refine tv_icmp_ge C dk_X5_verbOf_7 (fun h2 => ?_) (fun h2 => ?_)
  · refine tv_bipush (v := 8) C dk_X5_verbOf_19 (by decide) ?_
    exact tv_iret C hQ dk_X5_verbOf_21 rfl (by rw [f_X5_verbOf, if_neg h1, if_pos h2]) rfl
  refine tv_aload_n C dk_X5_verbOf_10 rfl ?_
  refine tv_getR (r := 245) C dk_X5_verbOf_11 fl_RX5_15 (Nat.le_of_ble_eq_true rfl) rfl rfl (fun _ _ _ _ => rfl) ?_
  refine tv_iload_n C dk_X5_verbOf_14 rfl ?_
  refine tv_iald (j := x1.toNatClampNeg) rfl C dk_X5_verbOf_15 (Nat.le_of_ble_eq_true rfl) rfl (tvin_2 (n := 60) h1 h2 rfl (by decide)) ?_
  refine tv_goto C dk_X5_verbOf_16 ?_
  exact tv_iret C hQ dk_X5_verbOf_21 rfl (by rw [f_X5_verbOf, if_neg h1, if_neg h2]) rfl
/-- TideVault$Program.argumentOf(II)I -/
def f_X5_argumentOf (M : tvM) (x1 : Int32) (x2 : Int32) : Int32 := (if x1 < 0 then 0 else (if 60 ≤ x1 then 0 else (if x2 < 0 then 0 else (if 3 ≤ x2 then 0 else (tgi M 246 ((x1 * 3) + x2).toNatClampNeg)))))
theorem m_X5_argumentOf (G : tvG) (M : tvM) (x1 : Int32) (x2 : Int32) : tvRun G yX5_argumentOf cX5_argumentOf 4 (some .int) 1 0 0 tvP0 tvP0 [.ref (G.2.1 + 243), .int x1, .int x2] M (.inl (some (.int (f_X5_argumentOf M x1 x2)))) M := by
  refine tvRun.of yk_X5_argumentOf rfl [some (.ref (G.2.1 + 243)), some (.int x1), some (.int x2), none] rfl (Nat.le_of_ble_eq_true rfl) ?_
  intro E hG C hQ; subst hG
  refine tv_iload_n C dk_X5_argumentOf_0 rfl ?_
  refine tv_if_lt C dk_X5_argumentOf_1 (fun h1 => ?_) (fun h1 => ?_)
  · refine tv_iconst (v := 0) C dk_X5_argumentOf_23 (by decide) ?_
    refine tv_istore_n (L' := [_, _, _, _]) (hn := by decide) (hlt := (Nat.le_of_ble_eq_true rfl)) (hno := rfl) C dk_X5_argumentOf_24 rfl ?_
    refine tv_iload_n C dk_X5_argumentOf_25 rfl ?_
    refine tv_if_eq C dk_X5_argumentOf_26 (fun _ => ?_) (fun h => absurd h (by decide))
    refine tv_iconst (v := 0) C dk_X5_argumentOf_42 (by decide) ?_
    exact tv_iret C hQ dk_X5_argumentOf_43 rfl (by rw [f_X5_argumentOf, if_pos h1]) rfl
  refine tv_iload_n C dk_X5_argumentOf_4 rfl ?_
  refine tv_bipush (v := 60) C dk_X5_argumentOf_5 (by decide) ?_
  refine tv_icmp_ge C dk_X5_argumentOf_7 (fun h2 => ?_) (fun h2 => ?_)
  · refine tv_iconst (v := 0) C dk_X5_argumentOf_23 (by decide) ?_
    refine tv_istore_n (L' := [_, _, _, _]) (hn := by decide) (hlt := (Nat.le_of_ble_eq_true rfl)) (hno := rfl) C dk_X5_argumentOf_24 rfl ?_
    refine tv_iload_n C dk_X5_argumentOf_25 rfl ?_
    refine tv_if_eq C dk_X5_argumentOf_26 (fun _ => ?_) (fun h => absurd h (by decide))
    refine tv_iconst (v := 0) C dk_X5_argumentOf_42 (by decide) ?_
    exact tv_iret C hQ dk_X5_argumentOf_43 rfl (by rw [f_X5_argumentOf, if_neg h1, if_pos h2]) rfl
  refine tv_iload_n C dk_X5_argumentOf_10 rfl ?_
  refine tv_if_lt C dk_X5_argumentOf_11 (fun h3 => ?_) (fun h3 => ?_)
  · refine tv_iconst (v := 0) C dk_X5_argumentOf_23 (by decide) ?_
    refine tv_istore_n (L' := [_, _, _, _]) (hn := by decide) (hlt := (Nat.le_of_ble_eq_true rfl)) (hno := rfl) C dk_X5_argumentOf_24 rfl ?_
    refine tv_iload_n C dk_X5_argumentOf_25 rfl ?_
    refine tv_if_eq C dk_X5_argumentOf_26 (fun _ => ?_) (fun h => absurd h (by decide))
    refine tv_iconst (v := 0) C dk_X5_argumentOf_42 (by decide) ?_
    exact tv_iret C hQ dk_X5_argumentOf_43 rfl (by rw [f_X5_argumentOf, if_neg h1, if_neg h2, if_pos h3]) rfl
  refine tv_iload_n C dk_X5_argumentOf_14 rfl ?_
  refine tv_iconst (v := 3) C dk_X5_argumentOf_15 (by decide) ?_
  refine tv_icmp_ge C dk_X5_argumentOf_16 (fun h4 => ?_) (fun h4 => ?_)
  · refine tv_iconst (v := 0) C dk_X5_argumentOf_23 (by decide) ?_
    refine tv_istore_n (L' := [_, _, _, _]) (hn := by decide) (hlt := (Nat.le_of_ble_eq_true rfl)) (hno := rfl) C dk_X5_argumentOf_24 rfl ?_
    refine tv_iload_n C dk_X5_argumentOf_25 rfl ?_
    refine tv_if_eq C dk_X5_argumentOf_26 (fun _ => ?_) (fun h => absurd h (by decide))
    refine tv_iconst (v := 0) C dk_X5_argumentOf_42 (by decide) ?_
    exact tv_iret C hQ dk_X5_argumentOf_43 rfl (by rw [f_X5_argumentOf, if_neg h1, if_neg h2, if_neg h3, if_pos h4]) rfl
  refine tv_iconst (v := 1) C dk_X5_argumentOf_19 (by decide) ?_
  refine tv_goto C dk_X5_argumentOf_20 ?_
  refine tv_istore_n (L' := [_, _, _, _]) (hn := by decide) (hlt := (Nat.le_of_ble_eq_true rfl)) (hno := rfl) C dk_X5_argumentOf_24 rfl ?_
  refine tv_iload_n C dk_X5_argumentOf_25 rfl ?_
  refine tv_if_eq C dk_X5_argumentOf_26 (fun h => absurd h (by decide)) (fun _ => ?_)
  refine tv_aload_n C dk_X5_argumentOf_29 rfl ?_
  refine tv_getR (r := 246) C dk_X5_argumentOf_30 fl_RX5_19 (Nat.le_of_ble_eq_true rfl) rfl rfl (fun _ _ _ _ => rfl) ?_
  refine tv_iload_n C dk_X5_argumentOf_33 rfl ?_
  refine tv_iconst (v := 3) C dk_X5_argumentOf_34 (by decide) ?_
  refine tv_imul C dk_X5_argumentOf_35 ?_
  refine tv_iload_n C dk_X5_argumentOf_36 rfl ?_
  refine tv_iadd C dk_X5_argumentOf_37 ?_
  refine tv_iald (j := ((x1 * 3) + x2).toNatClampNeg) rfl C dk_X5_argumentOf_38 (Nat.le_of_ble_eq_true rfl) rfl (tvin_mul (n := 60) (m := 3) (tvin_2 (n := 60) h1 h2 rfl (by decide)) (tvin_2 (n := 3) h3 h4 rfl (by decide)) rfl (by decide) (by decide)) ?_
  refine tv_goto C dk_X5_argumentOf_39 ?_
  exact tv_iret C hQ dk_X5_argumentOf_43 rfl (by rw [f_X5_argumentOf, if_neg h1, if_neg h2, if_neg h3, if_neg h4]) rfl
/-- TideVault$Program.setArgument(II)V -/
def f_X5_setArgument (M : tvM) (x1 : Int32) (x2 : Int32) : tvM := (if (tgi M 243 3) < 0 then M else (if 60 ≤ (tgi M 243 3) then M else (if x1 < 0 then M else (if 3 ≤ x1 then M else (tpi M 246 (((tgi M 243 3) * 3) + x1).toNatClampNeg x2)))))
theorem m_X5_setArgument (G : tvG) (M : tvM) (x1 : Int32) (x2 : Int32) : tvRun G yX5_setArgument cX5_setArgument 4 none 1 0 0 tvP0 tvP0 [.ref (G.2.1 + 243), .int x1, .int x2] M (.inl none) (f_X5_setArgument M x1 x2) := by
  refine tvRun.of yk_X5_setArgument rfl [some (.ref (G.2.1 + 243)), some (.int x1), some (.int x2), none] rfl (Nat.le_of_ble_eq_true rfl) ?_
  intro E hG C hQ; subst hG
  refine tv_aload_n C dk_X5_setArgument_0 rfl ?_
  refine tv_getI C dk_X5_setArgument_1 fl_RX5_29 (Nat.le_of_ble_eq_true rfl) rfl (fun _ _ _ _ => rfl) ?_
  refine tv_if_lt C dk_X5_setArgument_4 (fun h1 => ?_) (fun h1 => ?_)
  · refine tv_iconst (v := 0) C dk_X5_setArgument_29 (by decide) ?_
    refine tv_istore_n (L' := [_, _, _, _]) (hn := by decide) (hlt := (Nat.le_of_ble_eq_true rfl)) (hno := rfl) C dk_X5_setArgument_30 rfl ?_
    refine tv_iload_n C dk_X5_setArgument_31 rfl ?_
    refine tv_if_eq C dk_X5_setArgument_32 (fun _ => ?_) (fun h => absurd h (by decide))
    exact tv_vret C hQ dk_X5_setArgument_49 rfl (by rw [f_X5_setArgument, if_pos h1])
  refine tv_aload_n C dk_X5_setArgument_7 rfl ?_
  refine tv_getI C dk_X5_setArgument_8 fl_RX5_29 (Nat.le_of_ble_eq_true rfl) rfl (fun _ _ _ _ => rfl) ?_
  refine tv_bipush (v := 60) C dk_X5_setArgument_11 (by decide) ?_
  refine tv_icmp_ge C dk_X5_setArgument_13 (fun h2 => ?_) (fun h2 => ?_)
  · refine tv_iconst (v := 0) C dk_X5_setArgument_29 (by decide) ?_
    refine tv_istore_n (L' := [_, _, _, _]) (hn := by decide) (hlt := (Nat.le_of_ble_eq_true rfl)) (hno := rfl) C dk_X5_setArgument_30 rfl ?_
    refine tv_iload_n C dk_X5_setArgument_31 rfl ?_
    refine tv_if_eq C dk_X5_setArgument_32 (fun _ => ?_) (fun h => absurd h (by decide))
    exact tv_vret C hQ dk_X5_setArgument_49 rfl (by rw [f_X5_setArgument, if_neg h1, if_pos h2])
  refine tv_iload_n C dk_X5_setArgument_16 rfl ?_
  refine tv_if_lt C dk_X5_setArgument_17 (fun h3 => ?_) (fun h3 => ?_)
  · refine tv_iconst (v := 0) C dk_X5_setArgument_29 (by decide) ?_
    refine tv_istore_n (L' := [_, _, _, _]) (hn := by decide) (hlt := (Nat.le_of_ble_eq_true rfl)) (hno := rfl) C dk_X5_setArgument_30 rfl ?_
    refine tv_iload_n C dk_X5_setArgument_31 rfl ?_
    refine tv_if_eq C dk_X5_setArgument_32 (fun _ => ?_) (fun h => absurd h (by decide))
    exact tv_vret C hQ dk_X5_setArgument_49 rfl (by rw [f_X5_setArgument, if_neg h1, if_neg h2, if_pos h3])
  refine tv_iload_n C dk_X5_setArgument_20 rfl ?_
  refine tv_iconst (v := 3) C dk_X5_setArgument_21 (by decide) ?_
  refine tv_icmp_ge C dk_X5_setArgument_22 (fun h4 => ?_) (fun h4 => ?_)
  · refine tv_iconst (v := 0) C dk_X5_setArgument_29 (by decide) ?_
    refine tv_istore_n (L' := [_, _, _, _]) (hn := by decide) (hlt := (Nat.le_of_ble_eq_true rfl)) (hno := rfl) C dk_X5_setArgument_30 rfl ?_
    refine tv_iload_n C dk_X5_setArgument_31 rfl ?_
    refine tv_if_eq C dk_X5_setArgument_32 (fun _ => ?_) (fun h => absurd h (by decide))
    exact tv_vret C hQ dk_X5_setArgument_49 rfl (by rw [f_X5_setArgument, if_neg h1, if_neg h2, if_neg h3, if_pos h4])
  refine tv_iconst (v := 1) C dk_X5_setArgument_25 (by decide) ?_
  refine tv_goto C dk_X5_setArgument_26 ?_
  refine tv_istore_n (L' := [_, _, _, _]) (hn := by decide) (hlt := (Nat.le_of_ble_eq_true rfl)) (hno := rfl) C dk_X5_setArgument_30 rfl ?_
  refine tv_iload_n C dk_X5_setArgument_31 rfl ?_
  refine tv_if_eq C dk_X5_setArgument_32 (fun h => absurd h (by decide)) (fun _ => ?_)
  refine tv_aload_n C dk_X5_setArgument_35 rfl ?_
  refine tv_getR (r := 246) C dk_X5_setArgument_36 fl_RX5_19 (Nat.le_of_ble_eq_true rfl) rfl rfl (fun _ _ _ _ => rfl) ?_
  refine tv_aload_n C dk_X5_setArgument_39 rfl ?_
  refine tv_getI C dk_X5_setArgument_40 fl_RX5_29 (Nat.le_of_ble_eq_true rfl) rfl (fun _ _ _ _ => rfl) ?_
  refine tv_iconst (v := 3) C dk_X5_setArgument_43 (by decide) ?_
  refine tv_imul C dk_X5_setArgument_44 ?_
  refine tv_iload_n C dk_X5_setArgument_45 rfl ?_
  refine tv_iadd C dk_X5_setArgument_46 ?_
  refine tv_iload_n C dk_X5_setArgument_47 rfl ?_
  refine tv_iast (j := (((tgi M 243 3) * 3) + x1).toNatClampNeg) rfl C tvP0_ex dk_X5_setArgument_48 (Nat.le_of_ble_eq_true rfl) rfl (tvin_mul (n := 60) (m := 3) (tvin_2 (n := 60) h1 h2 rfl (by decide)) (tvin_2 (n := 3) h3 h4 rfl (by decide)) rfl (by decide) (by decide)) ?_
  exact tv_vret C hQ dk_X5_setArgument_49 rfl (by rw [f_X5_setArgument, if_neg h1, if_neg h2, if_neg h3, if_neg h4])
/-- TideVault$Program.signAt(I)C -/
def f_X5_signAt (M : tvM) (x1 : Int32) : Int32 := (if x1 < 0 then 0 else (if (tgi M 243 1) ≤ x1 then 0 else (if 60 ≤ x1 then 0 else (tnc (tgi M 244 x1.toNatClampNeg)))))
theorem m_X5_signAt (G : tvG) (M : tvM) (x1 : Int32) : tvRun G yX5_signAt cX5_signAt 3 (some .char) 1 0 0 tvP0 tvP0 [.ref (G.2.1 + 243), .int x1] M (.inl (some (.int (f_X5_signAt M x1)))) M := by
  refine tvRun.of yk_X5_signAt rfl [some (.ref (G.2.1 + 243)), some (.int x1), none] rfl (Nat.le_of_ble_eq_true rfl) ?_
  intro E hG C hQ; subst hG
  refine tv_iload_n C dk_X5_signAt_0 rfl ?_
  refine tv_if_lt C dk_X5_signAt_1 (fun h1 => ?_) (fun h1 => ?_)
  · refine tv_iconst (v := 0) C dk_X5_signAt_22 (by decide) ?_
    refine tv_istore_n (L' := [_, _, _]) (hn := by decide) (hlt := (Nat.le_of_ble_eq_true rfl)) (hno := rfl) C dk_X5_signAt_23 rfl ?_
    refine tv_iload_n C dk_X5_signAt_24 rfl ?_
    refine tv_if_eq C dk_X5_signAt_25 (fun _ => ?_) (fun h => absurd h (by decide))
    refine tv_iconst (v := 0) C dk_X5_signAt_37 (by decide) ?_
    exact tv_iret C hQ dk_X5_signAt_38 rfl (by rw [f_X5_signAt, if_pos h1]) rfl
  refine tv_iload_n C dk_X5_signAt_4 rfl ?_
  refine tv_aload_n C dk_X5_signAt_5 rfl ?_
  refine tv_getI C dk_X5_signAt_6 fl_RX5_22 (Nat.le_of_ble_eq_true rfl) rfl (fun _ _ _ _ => rfl) ?_
  refine tv_icmp_ge C dk_X5_signAt_9 (fun h2 => ?_) (fun h2 => ?_)
  · refine tv_iconst (v := 0) C dk_X5_signAt_22 (by decide) ?_
    refine tv_istore_n (L' := [_, _, _]) (hn := by decide) (hlt := (Nat.le_of_ble_eq_true rfl)) (hno := rfl) C dk_X5_signAt_23 rfl ?_
    refine tv_iload_n C dk_X5_signAt_24 rfl ?_
    refine tv_if_eq C dk_X5_signAt_25 (fun _ => ?_) (fun h => absurd h (by decide))
    refine tv_iconst (v := 0) C dk_X5_signAt_37 (by decide) ?_
    exact tv_iret C hQ dk_X5_signAt_38 rfl (by rw [f_X5_signAt, if_neg h1, if_pos h2]) rfl
  refine tv_iload_n C dk_X5_signAt_12 rfl ?_
  refine tv_bipush (v := 60) C dk_X5_signAt_13 (by decide) ?_
  refine tv_icmp_ge C dk_X5_signAt_15 (fun h3 => ?_) (fun h3 => ?_)
  · refine tv_iconst (v := 0) C dk_X5_signAt_22 (by decide) ?_
    refine tv_istore_n (L' := [_, _, _]) (hn := by decide) (hlt := (Nat.le_of_ble_eq_true rfl)) (hno := rfl) C dk_X5_signAt_23 rfl ?_
    refine tv_iload_n C dk_X5_signAt_24 rfl ?_
    refine tv_if_eq C dk_X5_signAt_25 (fun _ => ?_) (fun h => absurd h (by decide))
    refine tv_iconst (v := 0) C dk_X5_signAt_37 (by decide) ?_
    exact tv_iret C hQ dk_X5_signAt_38 rfl (by rw [f_X5_signAt, if_neg h1, if_neg h2, if_pos h3]) rfl
  refine tv_iconst (v := 1) C dk_X5_signAt_18 (by decide) ?_
  refine tv_goto C dk_X5_signAt_19 ?_
  refine tv_istore_n (L' := [_, _, _]) (hn := by decide) (hlt := (Nat.le_of_ble_eq_true rfl)) (hno := rfl) C dk_X5_signAt_23 rfl ?_
  refine tv_iload_n C dk_X5_signAt_24 rfl ?_
  refine tv_if_eq C dk_X5_signAt_25 (fun h => absurd h (by decide)) (fun _ => ?_)
  refine tv_aload_n C dk_X5_signAt_28 rfl ?_
  refine tv_getR (r := 244) C dk_X5_signAt_29 fl_RX5_9 (Nat.le_of_ble_eq_true rfl) rfl rfl (fun _ _ _ _ => rfl) ?_
  refine tv_iload_n C dk_X5_signAt_32 rfl ?_
  refine tv_cald (j := x1.toNatClampNeg) rfl C dk_X5_signAt_33 (Nat.le_of_ble_eq_true rfl) rfl (tvin_2 (n := 60) h1 h3 rfl (by decide)) ?_
  refine tv_goto C dk_X5_signAt_34 ?_
  exact tv_iret C hQ dk_X5_signAt_38 (tnc_nar _) (by rw [f_X5_signAt, if_neg h1, if_neg h2, if_neg h3]) rfl
theorem fz_X5_signAt {M : tvM} {x1 : Int32} : narrow .char (.int (f_X5_signAt M x1)) = .int (f_X5_signAt M x1) := by
  unfold f_X5_signAt; repeat' split
  all_goals first | rfl | exact (tnc_nar _)
