theorem tv_xor9 (x : Int32) : (0 ≤ x ^^^ 9) ↔ 0 ≤ x := by
  have h1 : ∀ z : Int32, (0 ≤ z) ↔ z.toBitVec.msb = false := fun z => by
    rw [Int32.le_iff_toInt_le, BitVec.msb_eq_toInt, Int32.toInt_toBitVec, decide_eq_false_iff_not]
    show (0 : Int) ≤ _ ↔ _
    omega
  rw [h1, h1, Int32.toBitVec_xor, BitVec.msb_xor]
  simp
theorem f_J9_floorMod_7cf53_in (M : tvM) (x : Int32) : vp_in (f_J9_floorMod_7cf53 M x 9) 9 := by
  have hr := tv_rem (x := x) (y := 9) (by decide)
  have h9 : ((9 : Int32)).toInt = 9 := rfl
  rw [h9] at hr
  have e2 := Int.tmod_lt_of_pos x.toInt (show (0 : Int) < 9 by decide)
  have e3 := Int.tmod_lt_of_pos (-x.toInt) (show (0 : Int) < 9 by decide)
  rw [Int.neg_tmod] at e3
  unfold f_J9_floorMod_7cf53
  split
  · rename_i h
    rw [tv_xor9, Int32.le_iff_toInt_le] at h
    have := Int.tmod_nonneg 9 (show 0 ≤ x.toInt from h)
    rw [vp_in_iff, hr]
    omega
  · rename_i h
    rw [tv_xor9, Int32.le_iff_toInt_le] at h
    have h0 : x.toInt ≤ 0 := by
      have : (0 : Int32).toInt = 0 := rfl
      omega
    have e5 := Int.tmod_nonneg (a := -x.toInt) 9 (by omega)
    rw [Int.neg_tmod] at e5
    split
    · rename_i h2
      rw [h2]
      exact vp_in_nI (n := 0) (N := 9) (by decide) (by decide)
    · rename_i h2
      have h3 : x.toInt.tmod 9 ≠ 0 := fun q => h2 (by rw [← Int32.toInt_inj, hr, q]; rfl)
      have h4 : (x - x / 9 * 9 + 9).toInt = x.toInt.tmod 9 + 9 := by
        rw [fb_addI, hr, h9]
        · rw [hr, h9]; omega
        · rw [hr, h9]; omega
      rw [vp_in_iff, h4]
      omega
theorem tvin_lt {x : Int32} {n : Nat} (h : vp_in x n) : x.toNatClampNeg < n := Nat.not_le.mp fun q => h (Or.inr q)
/-- TideVault$History.begin(LTideVault$State;)V -/
def f_X1_begin (M : tvM) : tvM := (f_X6_copyFrom M (63 + 20 * (f_J9_floorMod_7cf53 M (tgi M 61 1) 9).toNatClampNeg) 1)
theorem m_X1_begin (G : tvG) (M : tvM) : tvRun G yX1_begin cX1_begin 3 none 3 0 0 tvP0 tvP0 [.ref (G.2.1 + 61), .ref (G.2.1 + 1)] M (.inl none) (f_X1_begin M) := by
  refine tvRun.of yk_X1_begin rfl [some (.ref (G.2.1 + 61)), some (.ref (G.2.1 + 1)), none] rfl (Nat.le_of_ble_eq_true rfl) ?_
  intro E hG C hQ; subst hG
  refine tv_aload_n C dk_X1_begin_0 rfl ?_
  refine tv_getR (r := 62) C dk_X1_begin_1 fl_RX1_13 (Nat.le_of_ble_eq_true rfl) rfl rfl (fun _ _ _ _ => rfl) ?_
  refine tv_aload_n C dk_X1_begin_4 rfl ?_
  refine tv_getI C dk_X1_begin_5 fl_RX1_25 (Nat.le_of_ble_eq_true rfl) rfl (fun _ _ _ _ => rfl) ?_
  refine tv_bipush (v := 9) C dk_X1_begin_8 (by decide) ?_
  refine tv_cS1 C dk_X1_begin_10 ml_RX1_29 yk_J9_floorMod_7cf53 yi_J9_floorMod_7cf53 (m_J9_floorMod_7cf53 _ M (tgi M 61 1) 9 (by decide)) rfl rfl (Nat.le_of_ble_eq_true rfl) (Nat.le_of_ble_eq_true rfl) (Nat.le_of_ble_eq_true rfl) (Nat.le_of_ble_eq_true rfl) (Nat.le_of_ble_eq_true rfl) ?_
  refine tv_aaload (b := (63 + 20 * (f_J9_floorMod_7cf53 M (tgi M 61 1) 9).toNatClampNeg)) C dk_X1_begin_13 (Nat.le_of_ble_eq_true rfl) rfl (f_J9_floorMod_7cf53_in _ _) (tvSB_slot _ (tvin_lt (f_J9_floorMod_7cf53_in _ _))).2 ?_
  refine tv_astore_n (L' := [_, _, _]) (hn := by decide) (hlt := (Nat.le_of_ble_eq_true rfl)) (hno := rfl) C dk_X1_begin_14 rfl ?_
  refine tv_aload_n C dk_X1_begin_15 rfl ?_
  refine tv_ifnull C dk_X1_begin_16 ?_
  refine tv_aload_n C dk_X1_begin_19 rfl ?_
  refine tv_aload_n C dk_X1_begin_20 rfl ?_
  refine tv_cV0 C dk_X1_begin_21 ml_RX1_35 yk_X6_copyFrom yi_X6_copyFrom (m_X6_copyFrom _ M (tvSB_slot _ (tvin_lt (f_J9_floorMod_7cf53_in _ _))).1 tvSBn_1 (by omega)) (tvSB_sh (tvSB_slot _ (tvin_lt (f_J9_floorMod_7cf53_in _ _))).1 0 (by decide)).2 (tvSB_sh (tvSB_slot _ (tvin_lt (f_J9_floorMod_7cf53_in _ _))).1 0 (by decide)).1 rfl rfl rfl (Nat.le_of_ble_eq_true rfl) (Nat.le_of_ble_eq_true rfl) (Nat.le_of_ble_eq_true rfl) (Nat.le_of_ble_eq_true rfl) (Nat.le_of_ble_eq_true rfl) ?_
  exact tv_vret C hQ dk_X1_begin_24 rfl (by rw [f_X1_begin])
/-- TideVault$History.commit()V -/
def f_X1_commit (M : tvM) : tvM := (tpi (tpi M 61 1 (f_J9_floorMod_7cf53 M ((tgi M 61 1) + 1) 9)) 61 2 (f_J9_min_7cf53 (tpi M 61 1 (f_J9_floorMod_7cf53 M ((tgi M 61 1) + 1) 9)) ((tgi (tpi M 61 1 (f_J9_floorMod_7cf53 M ((tgi M 61 1) + 1) 9)) 61 2) + 1) 8))
theorem m_X1_commit (G : tvG) (M : tvM) : tvRun G yX1_commit cX1_commit 1 none 2 0 0 tvP0 tvP0 [.ref (G.2.1 + 61)] M (.inl none) (f_X1_commit M) := by
  refine tvRun.of yk_X1_commit rfl [some (.ref (G.2.1 + 61))] rfl (Nat.le_of_ble_eq_true rfl) ?_
  intro E hG C hQ; subst hG
  refine tv_aload_n C dk_X1_commit_0 rfl ?_
  refine tv_aload_n C dk_X1_commit_1 rfl ?_
  refine tv_getI C dk_X1_commit_2 fl_RX1_25 (Nat.le_of_ble_eq_true rfl) rfl (fun _ _ _ _ => rfl) ?_
  refine tv_iconst (v := 1) C dk_X1_commit_5 (by decide) ?_
  refine tv_iadd C dk_X1_commit_6 ?_
  refine tv_bipush (v := 9) C dk_X1_commit_7 (by decide) ?_
  refine tv_cS1 C dk_X1_commit_9 ml_RX1_29 yk_J9_floorMod_7cf53 yi_J9_floorMod_7cf53 (m_J9_floorMod_7cf53 _ M ((tgi M 61 1) + 1) 9 (by decide)) rfl rfl (Nat.le_of_ble_eq_true rfl) (Nat.le_of_ble_eq_true rfl) (Nat.le_of_ble_eq_true rfl) (Nat.le_of_ble_eq_true rfl) (Nat.le_of_ble_eq_true rfl) ?_
  refine tv_putI C tvP0_ex dk_X1_commit_12 fl_RX1_25 fw_1_1 (Nat.le_of_ble_eq_true rfl) rfl rfl (fun _ _ _ _ _ => rfl) rfl rfl ?_
  refine tv_aload_n C dk_X1_commit_15 rfl ?_
  refine tv_aload_n C dk_X1_commit_16 rfl ?_
  refine tv_getI C dk_X1_commit_17 fl_RX1_38 (Nat.le_of_ble_eq_true rfl) rfl (fun _ _ _ _ => rfl) ?_
  refine tv_iconst (v := 1) C dk_X1_commit_20 (by decide) ?_
  refine tv_iadd C dk_X1_commit_21 ?_
  refine tv_bipush (v := 8) C dk_X1_commit_22 (by decide) ?_
  refine tv_cS1 C dk_X1_commit_24 ml_RX1_41 yk_J9_min_7cf53 yi_J9_min_7cf53 (m_J9_min_7cf53 _ (tpi M 61 1 (f_J9_floorMod_7cf53 M ((tgi M 61 1) + 1) 9)) ((tgi (tpi M 61 1 (f_J9_floorMod_7cf53 M ((tgi M 61 1) + 1) 9)) 61 2) + 1) 8) rfl rfl (Nat.le_of_ble_eq_true rfl) (Nat.le_of_ble_eq_true rfl) (Nat.le_of_ble_eq_true rfl) (Nat.le_of_ble_eq_true rfl) (Nat.le_of_ble_eq_true rfl) ?_
  refine tv_putI C tvP0_ex dk_X1_commit_27 fl_RX1_38 fw_1_2 (Nat.le_of_ble_eq_true rfl) rfl rfl (fun _ _ _ _ _ => rfl) rfl rfl ?_
  exact tv_vret C hQ dk_X1_commit_30 rfl (by rw [f_X1_commit])
/-- TideVault$History.cancel(LTideVault$State;)V -/
def f_X1_cancel (M : tvM) : tvM := (f_X6_copyFrom M 1 (63 + 20 * (f_J9_floorMod_7cf53 M (tgi M 61 1) 9).toNatClampNeg))
theorem m_X1_cancel (G : tvG) (M : tvM) : tvRun G yX1_cancel cX1_cancel 3 none 3 0 0 tvP0 tvP0 [.ref (G.2.1 + 61), .ref (G.2.1 + 1)] M (.inl none) (f_X1_cancel M) := by
  refine tvRun.of yk_X1_cancel rfl [some (.ref (G.2.1 + 61)), some (.ref (G.2.1 + 1)), none] rfl (Nat.le_of_ble_eq_true rfl) ?_
  intro E hG C hQ; subst hG
  refine tv_aload_n C dk_X1_cancel_0 rfl ?_
  refine tv_getR (r := 62) C dk_X1_cancel_1 fl_RX1_13 (Nat.le_of_ble_eq_true rfl) rfl rfl (fun _ _ _ _ => rfl) ?_
  refine tv_aload_n C dk_X1_cancel_4 rfl ?_
  refine tv_getI C dk_X1_cancel_5 fl_RX1_25 (Nat.le_of_ble_eq_true rfl) rfl (fun _ _ _ _ => rfl) ?_
  refine tv_bipush (v := 9) C dk_X1_cancel_8 (by decide) ?_
  refine tv_cS1 C dk_X1_cancel_10 ml_RX1_29 yk_J9_floorMod_7cf53 yi_J9_floorMod_7cf53 (m_J9_floorMod_7cf53 _ M (tgi M 61 1) 9 (by decide)) rfl rfl (Nat.le_of_ble_eq_true rfl) (Nat.le_of_ble_eq_true rfl) (Nat.le_of_ble_eq_true rfl) (Nat.le_of_ble_eq_true rfl) (Nat.le_of_ble_eq_true rfl) ?_
  refine tv_aaload (b := (63 + 20 * (f_J9_floorMod_7cf53 M (tgi M 61 1) 9).toNatClampNeg)) C dk_X1_cancel_13 (Nat.le_of_ble_eq_true rfl) rfl (f_J9_floorMod_7cf53_in _ _) (tvSB_slot _ (tvin_lt (f_J9_floorMod_7cf53_in _ _))).2 ?_
  refine tv_astore_n (L' := [_, _, _]) (hn := by decide) (hlt := (Nat.le_of_ble_eq_true rfl)) (hno := rfl) C dk_X1_cancel_14 rfl ?_
  refine tv_aload_n C dk_X1_cancel_15 rfl ?_
  refine tv_ifnull C dk_X1_cancel_16 ?_
  refine tv_aload_n C dk_X1_cancel_19 rfl ?_
  refine tv_aload_n C dk_X1_cancel_20 rfl ?_
  refine tv_cV0 C dk_X1_cancel_21 ml_RX1_35 yk_X6_copyFrom yi_X6_copyFrom (m_X6_copyFrom _ M tvSBn_1 (tvSB_slot _ (tvin_lt (f_J9_floorMod_7cf53_in _ _))).1 (by omega)) (tvSB_sh tvSBn_1 0 (by decide)).2 (tvSB_sh tvSBn_1 0 (by decide)).1 rfl rfl rfl (Nat.le_of_ble_eq_true rfl) (Nat.le_of_ble_eq_true rfl) (Nat.le_of_ble_eq_true rfl) (Nat.le_of_ble_eq_true rfl) (Nat.le_of_ble_eq_true rfl) ?_
  exact tv_vret C hQ dk_X1_cancel_24 rfl (by rw [f_X1_cancel])
/-- TideVault$History.keep(LTideVault$State;)V -/
def f_X1_keep (M : tvM) : tvM := (f_X1_commit (f_X1_begin M))
theorem m_X1_keep (G : tvG) (M : tvM) : tvRun G yX1_keep cX1_keep 2 none 4 0 0 tvP0 tvP0 [.ref (G.2.1 + 61), .ref (G.2.1 + 1)] M (.inl none) (f_X1_keep M) := by
  refine tvRun.of yk_X1_keep rfl [some (.ref (G.2.1 + 61)), some (.ref (G.2.1 + 1))] rfl (Nat.le_of_ble_eq_true rfl) ?_
  intro E hG C hQ; subst hG
  refine tv_aload_n C dk_X1_keep_0 rfl ?_
  refine tv_aload_n C dk_X1_keep_1 rfl ?_
  refine tv_cV0 C dk_X1_keep_2 ml_RX1_18 yk_X1_begin yi_X1_begin (m_X1_begin _ M) (Nat.le_of_ble_eq_true rfl) rfl rfl rfl rfl (Nat.le_of_ble_eq_true rfl) (Nat.le_of_ble_eq_true rfl) (Nat.le_of_ble_eq_true rfl) (Nat.le_of_ble_eq_true rfl) (Nat.le_of_ble_eq_true rfl) ?_
  refine tv_aload_n C dk_X1_keep_5 rfl ?_
  refine tv_cV0 C dk_X1_keep_6 ml_RX1_22 yk_X1_commit yi_X1_commit (m_X1_commit _ (f_X1_begin M)) (Nat.le_of_ble_eq_true rfl) rfl rfl rfl rfl (Nat.le_of_ble_eq_true rfl) (Nat.le_of_ble_eq_true rfl) (Nat.le_of_ble_eq_true rfl) (Nat.le_of_ble_eq_true rfl) (Nat.le_of_ble_eq_true rfl) ?_
  exact tv_vret C hQ dk_X1_keep_9 rfl (by rw [f_X1_keep])
/-- TideVault$History.stepBack(LTideVault$State;)I -/
def f_X1_stepBack (M : tvM) : Int32 × tvM := ((tgi (tpi (f_X1_cancel (tpi M 61 1 (f_J9_floorMod_7cf53 M ((tgi M 61 1) - 1) 9))) 61 2 ((tgi (f_X1_cancel (tpi M 61 1 (f_J9_floorMod_7cf53 M ((tgi M 61 1) - 1) 9))) 61 2) - 1)) 61 2), (tpi (f_X1_cancel (tpi M 61 1 (f_J9_floorMod_7cf53 M ((tgi M 61 1) - 1) 9))) 61 2 ((tgi (f_X1_cancel (tpi M 61 1 (f_J9_floorMod_7cf53 M ((tgi M 61 1) - 1) 9))) 61 2) - 1)))
theorem m_X1_stepBack (G : tvG) (M : tvM) : tvRun G yX1_stepBack cX1_stepBack 2 (some .int) 4 0 0 tvP0 tvP0 [.ref (G.2.1 + 61), .ref (G.2.1 + 1)] M (.inl (some (.int (f_X1_stepBack M).1))) ((f_X1_stepBack M).2) := by
  refine tvRun.of yk_X1_stepBack rfl [some (.ref (G.2.1 + 61)), some (.ref (G.2.1 + 1))] rfl (Nat.le_of_ble_eq_true rfl) ?_
  intro E hG C hQ; subst hG
  refine tv_aload_n C dk_X1_stepBack_0 rfl ?_
  refine tv_aload_n C dk_X1_stepBack_1 rfl ?_
  refine tv_getI C dk_X1_stepBack_2 fl_RX1_25 (Nat.le_of_ble_eq_true rfl) rfl (fun _ _ _ _ => rfl) ?_
  refine tv_iconst (v := 1) C dk_X1_stepBack_5 (by decide) ?_
  refine tv_isub C dk_X1_stepBack_6 ?_
  refine tv_bipush (v := 9) C dk_X1_stepBack_7 (by decide) ?_
  refine tv_cS1 C dk_X1_stepBack_9 ml_RX1_29 yk_J9_floorMod_7cf53 yi_J9_floorMod_7cf53 (m_J9_floorMod_7cf53 _ M ((tgi M 61 1) - 1) 9 (by decide)) rfl rfl (Nat.le_of_ble_eq_true rfl) (Nat.le_of_ble_eq_true rfl) (Nat.le_of_ble_eq_true rfl) (Nat.le_of_ble_eq_true rfl) (Nat.le_of_ble_eq_true rfl) ?_
  refine tv_putI C tvP0_ex dk_X1_stepBack_12 fl_RX1_25 fw_1_1 (Nat.le_of_ble_eq_true rfl) rfl rfl (fun _ _ _ _ _ => rfl) rfl rfl ?_
  refine tv_aload_n C dk_X1_stepBack_15 rfl ?_
  refine tv_aload_n C dk_X1_stepBack_16 rfl ?_
  refine tv_cV0 C dk_X1_stepBack_17 ml_RX1_44 yk_X1_cancel yi_X1_cancel (m_X1_cancel _ (tpi M 61 1 (f_J9_floorMod_7cf53 M ((tgi M 61 1) - 1) 9))) (Nat.le_of_ble_eq_true rfl) rfl rfl rfl rfl (Nat.le_of_ble_eq_true rfl) (Nat.le_of_ble_eq_true rfl) (Nat.le_of_ble_eq_true rfl) (Nat.le_of_ble_eq_true rfl) (Nat.le_of_ble_eq_true rfl) ?_
  refine tv_aload_n C dk_X1_stepBack_20 rfl ?_
  refine tv_dup C dk_X1_stepBack_21 rfl ?_
  refine tv_getI C dk_X1_stepBack_22 fl_RX1_38 (Nat.le_of_ble_eq_true rfl) rfl (fun _ _ _ _ => rfl) ?_
  refine tv_iconst (v := 1) C dk_X1_stepBack_25 (by decide) ?_
  refine tv_isub C dk_X1_stepBack_26 ?_
  refine tv_putI C tvP0_ex dk_X1_stepBack_27 fl_RX1_38 fw_1_2 (Nat.le_of_ble_eq_true rfl) rfl rfl (fun _ _ _ _ _ => rfl) rfl rfl ?_
  refine tv_aload_n C dk_X1_stepBack_30 rfl ?_
  refine tv_getI C dk_X1_stepBack_31 fl_RX1_38 (Nat.le_of_ble_eq_true rfl) rfl (fun _ _ _ _ => rfl) ?_
  exact tv_iret C hQ dk_X1_stepBack_34 rfl (by rw [f_X1_stepBack]) (by rw [f_X1_stepBack])
/-- TideVault$History.forget()V -/
def f_X1_forget (M : tvM) : tvM := (tpi M 61 2 0)
theorem m_X1_forget (G : tvG) (M : tvM) : tvRun G yX1_forget cX1_forget 1 none 1 0 0 tvP0 tvP0 [.ref (G.2.1 + 61)] M (.inl none) (f_X1_forget M) := by
  refine tvRun.of yk_X1_forget rfl [some (.ref (G.2.1 + 61))] rfl (Nat.le_of_ble_eq_true rfl) ?_
  intro E hG C hQ; subst hG
  refine tv_aload_n C dk_X1_forget_0 rfl ?_
  refine tv_iconst (v := 0) C dk_X1_forget_1 (by decide) ?_
  refine tv_putI C tvP0_ex dk_X1_forget_2 fl_RX1_38 fw_1_2 (Nat.le_of_ble_eq_true rfl) rfl rfl (fun _ _ _ _ _ => rfl) rfl rfl ?_
  exact tv_vret C hQ dk_X1_forget_5 rfl (by rw [f_X1_forget])
/-- TideVault$Line.empty()V -/
def f_X3_empty (M : tvM) : tvM := (tpi M 247 1 0)
theorem m_X3_empty (G : tvG) (M : tvM) : tvRun G yX3_empty cX3_empty 1 none 1 0 0 tvP0 tvP0 [.ref (G.2.1 + 247)] M (.inl none) (f_X3_empty M) := by
  refine tvRun.of yk_X3_empty rfl [some (.ref (G.2.1 + 247))] rfl (Nat.le_of_ble_eq_true rfl) ?_
  intro E hG C hQ; subst hG
  refine tv_aload_n C dk_X3_empty_0 rfl ?_
  refine tv_iconst (v := 0) C dk_X3_empty_1 (by decide) ?_
  refine tv_putI C tvP0_ex dk_X3_empty_2 fl_RX3_15 fw_3_1 (Nat.le_of_ble_eq_true rfl) rfl rfl (fun _ _ _ _ _ => rfl) rfl rfl ?_
  exact tv_vret C hQ dk_X3_empty_5 rfl (by rw [f_X3_empty])
/-- TideVault$Line.add(C)V -/
def f_X3_add (M : tvM) (x1 : Int32) : tvM := (if (tgi M 247 1) < 0 then M else (if 36 ≤ (tgi M 247 1) then M else (tpi (tpi M 248 (tgi M 247 1).toNatClampNeg x1) 247 1 ((tgi (tpi M 248 (tgi M 247 1).toNatClampNeg x1) 247 1) + 1))))
theorem m_X3_add (G : tvG) (M : tvM) (x1 : Int32) : tvRun G yX3_add cX3_add 2 none 1 0 0 tvP0 tvP0 [.ref (G.2.1 + 247), .int x1] M (.inl none) (f_X3_add M x1) := by
  refine tvRun.of yk_X3_add rfl [some (.ref (G.2.1 + 247)), some (.int x1)] rfl (Nat.le_of_ble_eq_true rfl) ?_
  intro E hG C hQ; subst hG
  refine tv_aload_n C dk_X3_add_0 rfl ?_
  refine tv_getI C dk_X3_add_1 fl_RX3_15 (Nat.le_of_ble_eq_true rfl) rfl (fun _ _ _ _ => rfl) ?_
  refine tv_if_lt C dk_X3_add_4 (fun h1 => ?_) (fun h1 => ?_)
  · exact tv_vret C hQ dk_X3_add_36 rfl (by rw [f_X3_add, if_pos h1])
  refine tv_aload_n C dk_X3_add_7 rfl ?_
  refine tv_getI C dk_X3_add_8 fl_RX3_15 (Nat.le_of_ble_eq_true rfl) rfl (fun _ _ _ _ => rfl) ?_
  refine tv_bipush (v := 36) C dk_X3_add_11 (by decide) ?_
  refine tv_icmp_ge C dk_X3_add_13 (fun h2 => ?_) (fun h2 => ?_)
  · exact tv_vret C hQ dk_X3_add_36 rfl (by rw [f_X3_add, if_neg h1, if_pos h2])
  refine tv_aload_n C dk_X3_add_16 rfl ?_
  refine tv_getR (r := 248) C dk_X3_add_17 fl_RX3_11 (Nat.le_of_ble_eq_true rfl) rfl rfl (fun _ _ _ _ => rfl) ?_
  refine tv_aload_n C dk_X3_add_20 rfl ?_
  refine tv_getI C dk_X3_add_21 fl_RX3_15 (Nat.le_of_ble_eq_true rfl) rfl (fun _ _ _ _ => rfl) ?_
  refine tv_iload_n C dk_X3_add_24 rfl ?_
  refine tv_cast (j := (tgi M 247 1).toNatClampNeg) rfl C tvP0_ex dk_X3_add_25 (Nat.le_of_ble_eq_true rfl) rfl (tvin_2 (n := 36) h1 h2 rfl (by decide)) ?_
  refine tv_aload_n C dk_X3_add_26 rfl ?_
  refine tv_dup C dk_X3_add_27 rfl ?_
  refine tv_getI C dk_X3_add_28 fl_RX3_15 (Nat.le_of_ble_eq_true rfl) rfl (fun _ _ _ _ => rfl) ?_
  refine tv_iconst (v := 1) C dk_X3_add_31 (by decide) ?_
  refine tv_iadd C dk_X3_add_32 ?_
  refine tv_putI C tvP0_ex dk_X3_add_33 fl_RX3_15 fw_3_1 (Nat.le_of_ble_eq_true rfl) rfl rfl (fun _ _ _ _ _ => rfl) rfl rfl ?_
  exact tv_vret C hQ dk_X3_add_36 rfl (by rw [f_X3_add, if_neg h1, if_neg h2])
/-- TideVault$Line.addNumber(I)V -/
def f_X3_addNumber (M : tvM) (x1 : Int32) : tvM := (if x1 < 10 then (f_X3_add M (((48 + (x1 - x1 / 10 * 10)).toUInt32 % 65536).toInt32)) else (f_X3_add (f_X3_add M (((48 + (x1 / 10)).toUInt32 % 65536).toInt32)) (((48 + (x1 - x1 / 10 * 10)).toUInt32 % 65536).toInt32)))
theorem m_X3_addNumber (G : tvG) (M : tvM) (x1 : Int32) : tvRun G yX3_addNumber cX3_addNumber 2 none 2 0 0 tvP0 tvP0 [.ref (G.2.1 + 247), .int x1] M (.inl none) (f_X3_addNumber M x1) := by
  refine tvRun.of yk_X3_addNumber rfl [some (.ref (G.2.1 + 247)), some (.int x1)] rfl (Nat.le_of_ble_eq_true rfl) ?_
  intro E hG C hQ; subst hG
  refine tv_iload_n C dk_X3_addNumber_0 rfl ?_
  refine tv_bipush (v := 10) C dk_X3_addNumber_1 (by decide) ?_
  refine tv_icmp_lt C dk_X3_addNumber_3 (fun h1 => ?_) (fun h1 => ?_)
  · refine tv_aload_n C dk_X3_addNumber_18 rfl ?_
    refine tv_bipush (v := 48) C dk_X3_addNumber_19 (by decide) ?_
    refine tv_iload_n C dk_X3_addNumber_21 rfl ?_
    refine tv_bipush (v := 10) C dk_X3_addNumber_22 (by decide) ?_
    refine tv_irem C dk_X3_addNumber_24 (by decide) ?_
    refine tv_iadd C dk_X3_addNumber_25 ?_
    refine tv_i2c C dk_X3_addNumber_26 ?_
    refine tv_cV0 C dk_X3_addNumber_27 ml_RX3_19 yk_X3_add yi_X3_add (m_X3_add _ M (((48 + (x1 - x1 / 10 * 10)).toUInt32 % 65536).toInt32)) (Nat.le_of_ble_eq_true rfl) rfl rfl rfl rfl (Nat.le_of_ble_eq_true rfl) (Nat.le_of_ble_eq_true rfl) (Nat.le_of_ble_eq_true rfl) (Nat.le_of_ble_eq_true rfl) (Nat.le_of_ble_eq_true rfl) ?_
    exact tv_vret C hQ dk_X3_addNumber_30 rfl (by rw [f_X3_addNumber, if_pos h1])
  refine tv_aload_n C dk_X3_addNumber_6 rfl ?_
  refine tv_bipush (v := 48) C dk_X3_addNumber_7 (by decide) ?_
  refine tv_iload_n C dk_X3_addNumber_9 rfl ?_
  refine tv_bipush (v := 10) C dk_X3_addNumber_10 (by decide) ?_
  refine tv_idiv C dk_X3_addNumber_12 (by decide) ?_
  refine tv_iadd C dk_X3_addNumber_13 ?_
  refine tv_i2c C dk_X3_addNumber_14 ?_
  refine tv_cV0 C dk_X3_addNumber_15 ml_RX3_19 yk_X3_add yi_X3_add (m_X3_add _ M (((48 + (x1 / 10)).toUInt32 % 65536).toInt32)) (Nat.le_of_ble_eq_true rfl) rfl rfl rfl rfl (Nat.le_of_ble_eq_true rfl) (Nat.le_of_ble_eq_true rfl) (Nat.le_of_ble_eq_true rfl) (Nat.le_of_ble_eq_true rfl) (Nat.le_of_ble_eq_true rfl) ?_
  refine tv_aload_n C dk_X3_addNumber_18 rfl ?_
  refine tv_bipush (v := 48) C dk_X3_addNumber_19 (by decide) ?_
  refine tv_iload_n C dk_X3_addNumber_21 rfl ?_
  refine tv_bipush (v := 10) C dk_X3_addNumber_22 (by decide) ?_
  refine tv_irem C dk_X3_addNumber_24 (by decide) ?_
  refine tv_iadd C dk_X3_addNumber_25 ?_
  refine tv_i2c C dk_X3_addNumber_26 ?_
  refine tv_cV0 C dk_X3_addNumber_27 ml_RX3_19 yk_X3_add yi_X3_add (m_X3_add _ (f_X3_add M (((48 + (x1 / 10)).toUInt32 % 65536).toInt32)) (((48 + (x1 - x1 / 10 * 10)).toUInt32 % 65536).toInt32)) (Nat.le_of_ble_eq_true rfl) rfl rfl rfl rfl (Nat.le_of_ble_eq_true rfl) (Nat.le_of_ble_eq_true rfl) (Nat.le_of_ble_eq_true rfl) (Nat.le_of_ble_eq_true rfl) (Nat.le_of_ble_eq_true rfl) ?_
  exact tv_vret C hQ dk_X3_addNumber_30 rfl (by rw [f_X3_addNumber, if_neg h1])
/-- TideVault$Line.at(I)C -/
def f_X3_at (M : tvM) (x1 : Int32) : Int32 := (if x1 < 0 then 0 else (if 36 ≤ x1 then 0 else (tnc (tgi M 248 x1.toNatClampNeg))))
theorem m_X3_at (G : tvG) (M : tvM) (x1 : Int32) : tvRun G yX3_at cX3_at 2 (some .char) 1 0 0 tvP0 tvP0 [.ref (G.2.1 + 247), .int x1] M (.inl (some (.int (f_X3_at M x1)))) M := by
  refine tvRun.of yk_X3_at rfl [some (.ref (G.2.1 + 247)), some (.int x1)] rfl (Nat.le_of_ble_eq_true rfl) ?_
  intro E hG C hQ; subst hG
  refine tv_iload_n C dk_X3_at_0 rfl ?_
  refine tv_if_lt C dk_X3_at_1 (fun h1 => ?_) (fun h1 => ?_)
  · refine tv_iconst (v := 0) C dk_X3_at_19 (by decide) ?_
    exact tv_iret C hQ dk_X3_at_20 rfl (by rw [f_X3_at, if_pos h1]) rfl
  refine tv_iload_n C dk_X3_at_4 rfl ?_
  refine tv_bipush (v := 36) C dk_X3_at_5 (by decide) ?_
  refine tv_icmp_ge C dk_X3_at_7 (fun h2 => ?_) (fun h2 => ?_)
  · refine tv_iconst (v := 0) C dk_X3_at_19 (by decide) ?_
    exact tv_iret C hQ dk_X3_at_20 rfl (by rw [f_X3_at, if_neg h1, if_pos h2]) rfl
  refine tv_aload_n C dk_X3_at_10 rfl ?_
  refine tv_getR (r := 248) C dk_X3_at_11 fl_RX3_11 (Nat.le_of_ble_eq_true rfl) rfl rfl (fun _ _ _ _ => rfl) ?_
  refine tv_iload_n C dk_X3_at_14 rfl ?_
  refine tv_cald (j := x1.toNatClampNeg) rfl C dk_X3_at_15 (Nat.le_of_ble_eq_true rfl) rfl (tvin_2 (n := 36) h1 h2 rfl (by decide)) ?_
  refine tv_goto C dk_X3_at_16 ?_
  exact tv_iret C hQ dk_X3_at_20 (tnc_nar _) (by rw [f_X3_at, if_neg h1, if_neg h2]) rfl
theorem fz_X3_at {M : tvM} {x1 : Int32} : narrow .char (.int (f_X3_at M x1)) = .int (f_X3_at M x1) := by
  unfold f_X3_at; repeat' split
  all_goals first | rfl | exact (tnc_nar _)
/-- TideVault$Program.isFull()Z -/
def f_X5_isFull (M : tvM) : Int32 := (if (tgi M 243 1) < 60 then 0 else 1)
theorem m_X5_isFull (G : tvG) (M : tvM) : tvRun G yX5_isFull cX5_isFull 1 (some .boolean) 1 0 0 tvP0 tvP0 [.ref (G.2.1 + 243)] M (.inl (some (.int (f_X5_isFull M)))) M := by
  refine tvRun.of yk_X5_isFull rfl [some (.ref (G.2.1 + 243))] rfl (Nat.le_of_ble_eq_true rfl) ?_
  intro E hG C hQ; subst hG
  refine tv_aload_n C dk_X5_isFull_0 rfl ?_
  refine tv_getI C dk_X5_isFull_1 fl_RX5_22 (Nat.le_of_ble_eq_true rfl) rfl (fun _ _ _ _ => rfl) ?_
  refine tv_bipush (v := 60) C dk_X5_isFull_4 (by decide) ?_
  refine tv_icmp_lt C dk_X5_isFull_6 (fun h1 => ?_) (fun h1 => ?_)
  · refine tv_iconst (v := 0) C dk_X5_isFull_13 (by decide) ?_
    exact tv_iret C hQ dk_X5_isFull_14 rfl (by rw [f_X5_isFull, if_pos h1]) rfl
  refine tv_iconst (v := 1) C dk_X5_isFull_9 (by decide) ?_
  refine tv_goto C dk_X5_isFull_10 ?_
  exact tv_iret C hQ dk_X5_isFull_14 rfl (by rw [f_X5_isFull, if_neg h1]) rfl
theorem fz_X5_isFull {M : tvM} : narrow .boolean (.int (f_X5_isFull M)) = .int (f_X5_isFull M) := by
  unfold f_X5_isFull; repeat' split
  all_goals first | rfl
/-- TideVault$Program.append(C)I -/
def f_X5_append (M : tvM) (x1 : Int32) : Int32 × tvM := (if (tgi M 243 1) < 0 then ((tgi M 243 1), M) else (if 60 ≤ (tgi M 243 1) then ((tgi M 243 1), M) else ((tgi (tpi (tpi M 244 (tgi M 243 1).toNatClampNeg x1) 243 1 ((tgi (tpi M 244 (tgi M 243 1).toNatClampNeg x1) 243 1) + 1)) 243 1), (tpi (tpi M 244 (tgi M 243 1).toNatClampNeg x1) 243 1 ((tgi (tpi M 244 (tgi M 243 1).toNatClampNeg x1) 243 1) + 1)))))
theorem m_X5_append (G : tvG) (M : tvM) (x1 : Int32) : tvRun G yX5_append cX5_append 2 (some .int) 1 0 0 tvP0 tvP0 [.ref (G.2.1 + 243), .int x1] M (.inl (some (.int (f_X5_append M x1).1))) ((f_X5_append M x1).2) := by
  refine tvRun.of yk_X5_append rfl [some (.ref (G.2.1 + 243)), some (.int x1)] rfl (Nat.le_of_ble_eq_true rfl) ?_
  intro E hG C hQ; subst hG
  refine tv_aload_n C dk_X5_append_0 rfl ?_
  refine tv_getI C dk_X5_append_1 fl_RX5_22 (Nat.le_of_ble_eq_true rfl) rfl (fun _ _ _ _ => rfl) ?_
  refine tv_if_lt C dk_X5_append_4 (fun h1 => ?_) (fun h1 => ?_)
  · refine tv_aload_n C dk_X5_append_36 rfl ?_
    refine tv_getI C dk_X5_append_37 fl_RX5_22 (Nat.le_of_ble_eq_true rfl) rfl (fun _ _ _ _ => rfl) ?_
    exact tv_iret C hQ dk_X5_append_40 rfl (by rw [f_X5_append, if_pos h1]) (by rw [f_X5_append, if_pos h1])
  refine tv_aload_n C dk_X5_append_7 rfl ?_
  refine tv_getI C dk_X5_append_8 fl_RX5_22 (Nat.le_of_ble_eq_true rfl) rfl (fun _ _ _ _ => rfl) ?_
  refine tv_bipush (v := 60) C dk_X5_append_11 (by decide) ?_
  refine tv_icmp_ge C dk_X5_append_13 (fun h2 => ?_) (fun h2 => ?_)
  · refine tv_aload_n C dk_X5_append_36 rfl ?_
    refine tv_getI C dk_X5_append_37 fl_RX5_22 (Nat.le_of_ble_eq_true rfl) rfl (fun _ _ _ _ => rfl) ?_
    exact tv_iret C hQ dk_X5_append_40 rfl (by rw [f_X5_append, if_neg h1, if_pos h2]) (by rw [f_X5_append, if_neg h1, if_pos h2])
  refine tv_aload_n C dk_X5_append_16 rfl ?_
  refine tv_getR (r := 244) C dk_X5_append_17 fl_RX5_9 (Nat.le_of_ble_eq_true rfl) rfl rfl (fun _ _ _ _ => rfl) ?_
  refine tv_aload_n C dk_X5_append_20 rfl ?_
  refine tv_getI C dk_X5_append_21 fl_RX5_22 (Nat.le_of_ble_eq_true rfl) rfl (fun _ _ _ _ => rfl) ?_
  refine tv_iload_n C dk_X5_append_24 rfl ?_
  refine tv_cast (j := (tgi M 243 1).toNatClampNeg) rfl C tvP0_ex dk_X5_append_25 (Nat.le_of_ble_eq_true rfl) rfl (tvin_2 (n := 60) h1 h2 rfl (by decide)) ?_
  refine tv_aload_n C dk_X5_append_26 rfl ?_
  refine tv_dup C dk_X5_append_27 rfl ?_
  refine tv_getI C dk_X5_append_28 fl_RX5_22 (Nat.le_of_ble_eq_true rfl) rfl (fun _ _ _ _ => rfl) ?_
  refine tv_iconst (v := 1) C dk_X5_append_31 (by decide) ?_
  refine tv_iadd C dk_X5_append_32 ?_
  refine tv_putI C tvP0_ex dk_X5_append_33 fl_RX5_22 fw_5_1 (Nat.le_of_ble_eq_true rfl) rfl rfl (fun _ _ _ _ _ => rfl) rfl rfl ?_
  refine tv_aload_n C dk_X5_append_36 rfl ?_
  refine tv_getI C dk_X5_append_37 fl_RX5_22 (Nat.le_of_ble_eq_true rfl) rfl (fun _ _ _ _ => rfl) ?_
  exact tv_iret C hQ dk_X5_append_40 rfl (by rw [f_X5_append, if_neg h1, if_neg h2]) (by rw [f_X5_append, if_neg h1, if_neg h2])
/-- TideVault$Program.empty()V -/
def f_X5_empty (M : tvM) : tvM := (tpi M 243 1 0)
theorem m_X5_empty (G : tvG) (M : tvM) : tvRun G yX5_empty cX5_empty 1 none 1 0 0 tvP0 tvP0 [.ref (G.2.1 + 243)] M (.inl none) (f_X5_empty M) := by
  refine tvRun.of yk_X5_empty rfl [some (.ref (G.2.1 + 243))] rfl (Nat.le_of_ble_eq_true rfl) ?_
  intro E hG C hQ; subst hG
  refine tv_aload_n C dk_X5_empty_0 rfl ?_
  refine tv_iconst (v := 0) C dk_X5_empty_1 (by decide) ?_
  refine tv_putI C tvP0_ex dk_X5_empty_2 fl_RX5_22 fw_5_1 (Nat.le_of_ble_eq_true rfl) rfl rfl (fun _ _ _ _ _ => rfl) rfl rfl ?_
  exact tv_vret C hQ dk_X5_empty_5 rfl (by rw [f_X5_empty])
/-- TideVault$Program.verbOf(I)I -/
def f_X5_verbOf (M : tvM) (x1 : Int32) : Int32 := (if x1 < 0 then 8 else (if 60 ≤ x1 then 8 else (tgi M 245 x1.toNatClampNeg)))
theorem m_X5_verbOf (G : tvG) (M : tvM) (x1 : Int32) : tvRun G yX5_verbOf cX5_verbOf 2 (some .int) 1 0 0 tvP0 tvP0 [.ref (G.2.1 + 243), .int x1] M (.inl (some (.int (f_X5_verbOf M x1)))) M := by
  refine tvRun.of yk_X5_verbOf rfl [some (.ref (G.2.1 + 243)), some (.int x1)] rfl (Nat.le_of_ble_eq_true rfl) ?_
  intro E hG C hQ; subst hG
  refine tv_iload_n C dk_X5_verbOf_0 rfl ?_
  refine tv_if_lt C dk_X5_verbOf_1 (fun h1 => ?_) (fun h1 => ?_)
  · refine tv_bipush (v := 8) C dk_X5_verbOf_19 (by decide) ?_
    exact tv_iret C hQ dk_X5_verbOf_21 rfl (by rw [f_X5_verbOf, if_pos h1]) rfl
  refine tv_iload_n C dk_X5_verbOf_4 rfl ?_
  refine tv_bipush (v := 60) C dk_X5_verbOf_5 (by decide) ?_
  refine tv_icmp_ge C dk_X5_verbOf_7 (fun h2 => ?_) (fun h2 => ?_)
  · refine tv_bipush (v := 8) C dk_X5_verbOf_19 (by decide) ?_
    exact tv_iret C hQ dk_X5_verbOf_21 rfl (by rw [f_X5_verbOf, if_neg h1, if_pos h2]) rfl
  refine tv_aload_n C dk_X5_verbOf_10 rfl ?_
  refine tv_getR (r := 245) C dk_X5_verbOf_11 fl_RX5_15 (Nat.le_of_ble_eq_true rfl) rfl rfl (fun _ _ _ _ => rfl) ?_
  refine tv_iload_n C dk_X5_verbOf_14 rfl ?_
  refine tv_iald (j := x1.toNatClampNeg) rfl C dk_X5_verbOf_15 (Nat.le_of_ble_eq_true rfl) rfl (tvin_2 (n := 60) h1 h2 rfl (by decide)) ?_
  refine tv_goto C dk_X5_verbOf_16 ?_
  exact tv_iret C hQ dk_X5_verbOf_21 rfl (by rw [f_X5_verbOf, if_neg h1, if_neg h2]) rfl
/-- TideVault$Program.argumentOf(II)I -/
def f_X5_argumentOf (M : tvM) (x1 : Int32) (x2 : Int32) : Int32 := (if x1 < 0 then 0 else (if 60 ≤ x1 then 0 else (if x2 < 0 then 0 else (if 3 ≤ x2 then 0 else (tgi M 246 ((x1 * 3) + x2).toNatClampNeg)))))
theorem m_X5_argumentOf (G : tvG) (M : tvM) (x1 : Int32) (x2 : Int32) : tvRun G yX5_argumentOf cX5_argumentOf 4 (some .int) 1 0 0 tvP0 tvP0 [.ref (G.2.1 + 243), .int x1, .int x2] M (.inl (some (.int (f_X5_argumentOf M x1 x2)))) M := by
  refine tvRun.of yk_X5_argumentOf rfl [some (.ref (G.2.1 + 243)), some (.int x1), some (.int x2), none] rfl (Nat.le_of_ble_eq_true rfl) ?_
  intro E hG C hQ; subst hG
  refine tv_iload_n C dk_X5_argumentOf_0 rfl ?_
  refine tv_if_lt C dk_X5_argumentOf_1 (fun h1 => ?_) (fun h1 => ?_)
  · refine tv_iconst (v := 0) C dk_X5_argumentOf_23 (by decide) ?_
    refine tv_istore_n (L' := [_, _, _, _]) (hn := by decide) (hlt := (Nat.le_of_ble_eq_true rfl)) (hno := rfl) C dk_X5_argumentOf_24 rfl ?_
    refine tv_iload_n C dk_X5_argumentOf_25 rfl ?_
    refine tv_if_eq C dk_X5_argumentOf_26 (fun _ => ?_) (fun h => absurd h (by decide))
    refine tv_iconst (v := 0) C dk_X5_argumentOf_42 (by decide) ?_
    exact tv_iret C hQ dk_X5_argumentOf_43 rfl (by rw [f_X5_argumentOf, if_pos h1]) rfl
  refine tv_iload_n C dk_X5_argumentOf_4 rfl ?_
  refine tv_bipush (v := 60) C dk_X5_argumentOf_5 (by decide) ?_
  refine tv_icmp_ge C dk_X5_argumentOf_7 (fun h2 => ?_) (fun h2 => ?_)
  · refine tv_iconst (v := 0) C dk_X5_argumentOf_23 (by decide) ?_
    refine tv_istore_n (L' := [_, _, _, _]) (hn := by decide) (hlt := (Nat.le_of_ble_eq_true rfl)) (hno := rfl) C dk_X5_argumentOf_24 rfl ?_
    refine tv_iload_n C dk_X5_argumentOf_25 rfl ?_
    refine tv_if_eq C dk_X5_argumentOf_26 (fun _ => ?_) (fun h => absurd h (by decide))
    refine tv_iconst (v := 0) C dk_X5_argumentOf_42 (by decide) ?_
    exact tv_iret C hQ dk_X5_argumentOf_43 rfl (by rw [f_X5_argumentOf, if_neg h1, if_pos h2]) rfl
  refine tv_iload_n C dk_X5_argumentOf_10 rfl ?_
  refine tv_if_lt C dk_X5_argumentOf_11 (fun h3 => ?_) (fun h3 => ?_)
  · refine tv_iconst (v := 0) C dk_X5_argumentOf_23 (by decide) ?_
    refine tv_istore_n (L' := [_, _, _, _]) (hn := by decide) (hlt := (Nat.le_of_ble_eq_true rfl)) (hno := rfl) C dk_X5_argumentOf_24 rfl ?_
    refine tv_iload_n C dk_X5_argumentOf_25 rfl ?_
    refine tv_if_eq C dk_X5_argumentOf_26 (fun _ => ?_) (fun h => absurd h (by decide))
    refine tv_iconst (v := 0) C dk_X5_argumentOf_42 (by decide) ?_
    exact tv_iret C hQ dk_X5_argumentOf_43 rfl (by rw [f_X5_argumentOf, if_neg h1, if_neg h2, if_pos h3]) rfl
  refine tv_iload_n C dk_X5_argumentOf_14 rfl ?_
  refine tv_iconst (v := 3) C dk_X5_argumentOf_15 (by decide) ?_
  refine tv_icmp_ge C dk_X5_argumentOf_16 (fun h4 => ?_) (fun h4 => ?_)
  · refine tv_iconst (v := 0) C dk_X5_argumentOf_23 (by decide) ?_
    refine tv_istore_n (L' := [_, _, _, _]) (hn := by decide) (hlt := (Nat.le_of_ble_eq_true rfl)) (hno := rfl) C dk_X5_argumentOf_24 rfl ?_
    refine tv_iload_n C dk_X5_argumentOf_25 rfl ?_
    refine tv_if_eq C dk_X5_argumentOf_26 (fun _ => ?_) (fun h => absurd h (by decide))
    refine tv_iconst (v := 0) C dk_X5_argumentOf_42 (by decide) ?_
    exact tv_iret C hQ dk_X5_argumentOf_43 rfl (by rw [f_X5_argumentOf, if_neg h1, if_neg h2, if_neg h3, if_pos h4]) rfl
  refine tv_iconst (v := 1) C dk_X5_argumentOf_19 (by decide) ?_
  refine tv_goto C dk_X5_argumentOf_20 ?_
  refine tv_istore_n (L' := [_, _, _, _]) (hn := by decide) (hlt := (Nat.le_of_ble_eq_true rfl)) (hno := rfl) C dk_X5_argumentOf_24 rfl ?_
  refine tv_iload_n C dk_X5_argumentOf_25 rfl ?_
  refine tv_if_eq C dk_X5_argumentOf_26 (fun h => absurd h (by decide)) (fun _ => ?_)
  refine tv_aload_n C dk_X5_argumentOf_29 rfl ?_
  refine tv_getR (r := 246) C dk_X5_argumentOf_30 fl_RX5_19 (Nat.le_of_ble_eq_true rfl) rfl rfl (fun _ _ _ _ => rfl) ?_
  refine tv_iload_n C dk_X5_argumentOf_33 rfl ?_
  refine tv_iconst (v := 3) C dk_X5_argumentOf_34 (by decide) ?_
  refine tv_imul C dk_X5_argumentOf_35 ?_
  refine tv_iload_n C dk_X5_argumentOf_36 rfl ?_
  refine tv_iadd C dk_X5_argumentOf_37 ?_
  refine tv_iald (j := ((x1 * 3) + x2).toNatClampNeg) rfl C dk_X5_argumentOf_38 (Nat.le_of_ble_eq_true rfl) rfl (tvin_mul (n := 60) (m := 3) (tvin_2 (n := 60) h1 h2 rfl (by decide)) (tvin_2 (n := 3) h3 h4 rfl (by decide)) rfl (by decide) (by decide)) ?_
  refine tv_goto C dk_X5_argumentOf_39 ?_
  exact tv_iret C hQ dk_X5_argumentOf_43 rfl (by rw [f_X5_argumentOf, if_neg h1, if_neg h2, if_neg h3, if_neg h4]) rfl
/-- TideVault$Program.setArgument(II)V -/
def f_X5_setArgument (M : tvM) (x1 : Int32) (x2 : Int32) : tvM := (if (tgi M 243 3) < 0 then M else (if 60 ≤ (tgi M 243 3) then M else (if x1 < 0 then M else (if 3 ≤ x1 then M else (tpi M 246 (((tgi M 243 3) * 3) + x1).toNatClampNeg x2)))))
theorem m_X5_setArgument (G : tvG) (M : tvM) (x1 : Int32) (x2 : Int32) : tvRun G yX5_setArgument cX5_setArgument 4 none 1 0 0 tvP0 tvP0 [.ref (G.2.1 + 243), .int x1, .int x2] M (.inl none) (f_X5_setArgument M x1 x2) := by
  refine tvRun.of yk_X5_setArgument rfl [some (.ref (G.2.1 + 243)), some (.int x1), some (.int x2), none] rfl (Nat.le_of_ble_eq_true rfl) ?_
  intro E hG C hQ; subst hG
  refine tv_aload_n C dk_X5_setArgument_0 rfl ?_
  refine tv_getI C dk_X5_setArgument_1 fl_RX5_29 (Nat.le_of_ble_eq_true rfl) rfl (fun _ _ _ _ => rfl) ?_
  refine tv_if_lt C dk_X5_setArgument_4 (fun h1 => ?_) (fun h1 => ?_)
  · refine tv_iconst (v := 0) C dk_X5_setArgument_29 (by decide) ?_
    refine tv_istore_n (L' := [_, _, _, _]) (hn := by decide) (hlt := (Nat.le_of_ble_eq_true rfl)) (hno := rfl) C dk_X5_setArgument_30 rfl ?_
    refine tv_iload_n C dk_X5_setArgument_31 rfl ?_
    refine tv_if_eq C dk_X5_setArgument_32 (fun _ => ?_) (fun h => absurd h (by decide))
    exact tv_vret C hQ dk_X5_setArgument_49 rfl (by rw [f_X5_setArgument, if_pos h1])
  refine tv_aload_n C dk_X5_setArgument_7 rfl ?_
  refine tv_getI C dk_X5_setArgument_8 fl_RX5_29 (Nat.le_of_ble_eq_true rfl) rfl (fun _ _ _ _ => rfl) ?_
  refine tv_bipush (v := 60) C dk_X5_setArgument_11 (by decide) ?_
  refine tv_icmp_ge C dk_X5_setArgument_13 (fun h2 => ?_) (fun h2 => ?_)
  · refine tv_iconst (v := 0) C dk_X5_setArgument_29 (by decide) ?_
    refine tv_istore_n (L' := [_, _, _, _]) (hn := by decide) (hlt := (Nat.le_of_ble_eq_true rfl)) (hno := rfl) C dk_X5_setArgument_30 rfl ?_
    refine tv_iload_n C dk_X5_setArgument_31 rfl ?_
    refine tv_if_eq C dk_X5_setArgument_32 (fun _ => ?_) (fun h => absurd h (by decide))
    exact tv_vret C hQ dk_X5_setArgument_49 rfl (by rw [f_X5_setArgument, if_neg h1, if_pos h2])
  refine tv_iload_n C dk_X5_setArgument_16 rfl ?_
  refine tv_if_lt C dk_X5_setArgument_17 (fun h3 => ?_) (fun h3 => ?_)
  · refine tv_iconst (v := 0) C dk_X5_setArgument_29 (by decide) ?_
    refine tv_istore_n (L' := [_, _, _, _]) (hn := by decide) (hlt := (Nat.le_of_ble_eq_true rfl)) (hno := rfl) C dk_X5_setArgument_30 rfl ?_
    refine tv_iload_n C dk_X5_setArgument_31 rfl ?_
    refine tv_if_eq C dk_X5_setArgument_32 (fun _ => ?_) (fun h => absurd h (by decide))
    exact tv_vret C hQ dk_X5_setArgument_49 rfl (by rw [f_X5_setArgument, if_neg h1, if_neg h2, if_pos h3])
  refine tv_iload_n C dk_X5_setArgument_20 rfl ?_
  refine tv_iconst (v := 3) C dk_X5_setArgument_21 (by decide) ?_
  refine tv_icmp_ge C dk_X5_setArgument_22 (fun h4 => ?_) (fun h4 => ?_)
  · refine tv_iconst (v := 0) C dk_X5_setArgument_29 (by decide) ?_
    refine tv_istore_n (L' := [_, _, _, _]) (hn := by decide) (hlt := (Nat.le_of_ble_eq_true rfl)) (hno := rfl) C dk_X5_setArgument_30 rfl ?_
    refine tv_iload_n C dk_X5_setArgument_31 rfl ?_
    refine tv_if_eq C dk_X5_setArgument_32 (fun _ => ?_) (fun h => absurd h (by decide))
    exact tv_vret C hQ dk_X5_setArgument_49 rfl (by rw [f_X5_setArgument, if_neg h1, if_neg h2, if_neg h3, if_pos h4])
  refine tv_iconst (v := 1) C dk_X5_setArgument_25 (by decide) ?_
  refine tv_goto C dk_X5_setArgument_26 ?_
  refine tv_istore_n (L' := [_, _, _, _]) (hn := by decide) (hlt := (Nat.le_of_ble_eq_true rfl)) (hno := rfl) C dk_X5_setArgument_30 rfl ?_
  refine tv_iload_n C dk_X5_setArgument_31 rfl ?_
  refine tv_if_eq C dk_X5_setArgument_32 (fun h => absurd h (by decide)) (fun _ => ?_)
  refine tv_aload_n C dk_X5_setArgument_35 rfl ?_
  refine tv_getR (r := 246) C dk_X5_setArgument_36 fl_RX5_19 (Nat.le_of_ble_eq_true rfl) rfl rfl (fun _ _ _ _ => rfl) ?_
  refine tv_aload_n C dk_X5_setArgument_39 rfl ?_
  refine tv_getI C dk_X5_setArgument_40 fl_RX5_29 (Nat.le_of_ble_eq_true rfl) rfl (fun _ _ _ _ => rfl) ?_
  refine tv_iconst (v := 3) C dk_X5_setArgument_43 (by decide) ?_
  refine tv_imul C dk_X5_setArgument_44 ?_
  refine tv_iload_n C dk_X5_setArgument_45 rfl ?_
  refine tv_iadd C dk_X5_setArgument_46 ?_
  refine tv_iload_n C dk_X5_setArgument_47 rfl ?_
  refine tv_iast (j := (((tgi M 243 3) * 3) + x1).toNatClampNeg) rfl C tvP0_ex dk_X5_setArgument_48 (Nat.le_of_ble_eq_true rfl) rfl (tvin_mul (n := 60) (m := 3) (tvin_2 (n := 60) h1 h2 rfl (by decide)) (tvin_2 (n := 3) h3 h4 rfl (by decide)) rfl (by decide) (by decide)) ?_
  exact tv_vret C hQ dk_X5_setArgument_49 rfl (by rw [f_X5_setArgument, if_neg h1, if_neg h2, if_neg h3, if_neg h4])
/-- TideVault$Program.signAt(I)C -/
def f_X5_signAt (M : tvM) (x1 : Int32) : Int32 := (if x1 < 0 then 0 else (if (tgi M 243 1) ≤ x1 then 0 else (if 60 ≤ x1 then 0 else (tnc (tgi M 244 x1.toNatClampNeg)))))
theorem m_X5_signAt (G : tvG) (M : tvM) (x1 : Int32) : tvRun G yX5_signAt cX5_signAt 3 (some .char) 1 0 0 tvP0 tvP0 [.ref (G.2.1 + 243), .int x1] M (.inl (some (.int (f_X5_signAt M x1)))) M := by
  refine tvRun.of yk_X5_signAt rfl [some (.ref (G.2.1 + 243)), some (.int x1), none] rfl (Nat.le_of_ble_eq_true rfl) ?_
  intro E hG C hQ; subst hG
  refine tv_iload_n C dk_X5_signAt_0 rfl ?_
  refine tv_if_lt C dk_X5_signAt_1 (fun h1 => ?_) (fun h1 => ?_)
  · refine tv_iconst (v := 0) C dk_X5_signAt_22 (by decide) ?_
    refine tv_istore_n (L' := [_, _, _]) (hn := by decide) (hlt := (Nat.le_of_ble_eq_true rfl)) (hno := rfl) C dk_X5_signAt_23 rfl ?_
    refine tv_iload_n C dk_X5_signAt_24 rfl ?_
    refine tv_if_eq C dk_X5_signAt_25 (fun _ => ?_) (fun h => absurd h (by decide))
    refine tv_iconst (v := 0) C dk_X5_signAt_37 (by decide) ?_
    exact tv_iret C hQ dk_X5_signAt_38 rfl (by rw [f_X5_signAt, if_pos h1]) rfl
  refine tv_iload_n C dk_X5_signAt_4 rfl ?_
  refine tv_aload_n C dk_X5_signAt_5 rfl ?_
  refine tv_getI C dk_X5_signAt_6 fl_RX5_22 (Nat.le_of_ble_eq_true rfl) rfl (fun _ _ _ _ => rfl) ?_
  refine tv_icmp_ge C dk_X5_signAt_9 (fun h2 => ?_) (fun h2 => ?_)
  · refine tv_iconst (v := 0) C dk_X5_signAt_22 (by decide) ?_
    refine tv_istore_n (L' := [_, _, _]) (hn := by decide) (hlt := (Nat.le_of_ble_eq_true rfl)) (hno := rfl) C dk_X5_signAt_23 rfl ?_
    refine tv_iload_n C dk_X5_signAt_24 rfl ?_
    refine tv_if_eq C dk_X5_signAt_25 (fun _ => ?_) (fun h => absurd h (by decide))
    refine tv_iconst (v := 0) C dk_X5_signAt_37 (by decide) ?_
    exact tv_iret C hQ dk_X5_signAt_38 rfl (by rw [f_X5_signAt, if_neg h1, if_pos h2]) rfl
  refine tv_iload_n C dk_X5_signAt_12 rfl ?_
  refine tv_bipush (v := 60) C dk_X5_signAt_13 (by decide) ?_
  refine tv_icmp_ge C dk_X5_signAt_15 (fun h3 => ?_) (fun h3 => ?_)
  · refine tv_iconst (v := 0) C dk_X5_signAt_22 (by decide) ?_
    refine tv_istore_n (L' := [_, _, _]) (hn := by decide) (hlt := (Nat.le_of_ble_eq_true rfl)) (hno := rfl) C dk_X5_signAt_23 rfl ?_
    refine tv_iload_n C dk_X5_signAt_24 rfl ?_
    refine tv_if_eq C dk_X5_signAt_25 (fun _ => ?_) (fun h => absurd h (by decide))
    refine tv_iconst (v := 0) C dk_X5_signAt_37 (by decide) ?_
    exact tv_iret C hQ dk_X5_signAt_38 rfl (by rw [f_X5_signAt, if_neg h1, if_neg h2, if_pos h3]) rfl
  refine tv_iconst (v := 1) C dk_X5_signAt_18 (by decide) ?_
  refine tv_goto C dk_X5_signAt_19 ?_
  refine tv_istore_n (L' := [_, _, _]) (hn := by decide) (hlt := (Nat.le_of_ble_eq_true rfl)) (hno := rfl) C dk_X5_signAt_23 rfl ?_
  refine tv_iload_n C dk_X5_signAt_24 rfl ?_
  refine tv_if_eq C dk_X5_signAt_25 (fun h => absurd h (by decide)) (fun _ => ?_)
  refine tv_aload_n C dk_X5_signAt_28 rfl ?_
  refine tv_getR (r := 244) C dk_X5_signAt_29 fl_RX5_9 (Nat.le_of_ble_eq_true rfl) rfl rfl (fun _ _ _ _ => rfl) ?_
  refine tv_iload_n C dk_X5_signAt_32 rfl ?_
  refine tv_cald (j := x1.toNatClampNeg) rfl C dk_X5_signAt_33 (Nat.le_of_ble_eq_true rfl) rfl (tvin_2 (n := 60) h1 h3 rfl (by decide)) ?_
  refine tv_goto C dk_X5_signAt_34 ?_
  exact tv_iret C hQ dk_X5_signAt_38 (tnc_nar _) (by rw [f_X5_signAt, if_neg h1, if_neg h2, if_neg h3]) rfl
theorem fz_X5_signAt {M : tvM} {x1 : Int32} : narrow .char (.int (f_X5_signAt M x1)) = .int (f_X5_signAt M x1) := by
  unfold f_X5_signAt; repeat' split
  all_goals first | rfl | exact (tnc_nar _)
/-- TideVault$Program.sign()C -/
def f_X5_sign (M : tvM) : Int32 := (f_X5_signAt M (tgi M 243 2))
theorem m_X5_sign (G : tvG) (M : tvM) : tvRun G yX5_sign cX5_sign 1 (some .char) 2 0 0 tvP0 tvP0 [.ref (G.2.1 + 243)] M (.inl (some (.int (f_X5_sign M)))) M := by
  refine tvRun.of yk_X5_sign rfl [some (.ref (G.2.1 + 243))] rfl (Nat.le_of_ble_eq_true rfl) ?_
  intro E hG C hQ; subst hG
  refine tv_aload_n C dk_X5_sign_0 rfl ?_
  refine tv_aload_n C dk_X5_sign_1 rfl ?_
  refine tv_getI C dk_X5_sign_2 fl_RX5_26 (Nat.le_of_ble_eq_true rfl) rfl (fun _ _ _ _ => rfl) ?_
  refine tv_cV1 C dk_X5_sign_5 ml_RX5_79 yk_X5_signAt yi_X5_signAt (m_X5_signAt _ M (tgi M 243 2)) (Nat.le_of_ble_eq_true rfl) rfl rfl rfl rfl (Nat.le_of_ble_eq_true rfl) (Nat.le_of_ble_eq_true rfl) (Nat.le_of_ble_eq_true rfl) (Nat.le_of_ble_eq_true rfl) (Nat.le_of_ble_eq_true rfl) ?_
  exact tv_iret C hQ dk_X5_sign_8 (fz_X5_signAt) (by rw [f_X5_sign]) rfl
theorem fz_X5_sign {M : tvM} : narrow .char (.int (f_X5_sign M)) = .int (f_X5_sign M) := by
  unfold f_X5_sign; repeat' split
  all_goals first | rfl | exact (fz_X5_signAt)
/-- TideVault$Program.isDigit(C)Z -/
def f_X5_isDigit (M : tvM) (x1 : Int32) : Int32 := (if x1 < 48 then 0 else (if 57 < x1 then 0 else 1))
theorem m_X5_isDigit (G : tvG) (M : tvM) (x1 : Int32) : tvRun G yX5_isDigit cX5_isDigit 1 (some .boolean) 1 0 0 tvP0 tvP0 [.int x1] M (.inl (some (.int (f_X5_isDigit M x1)))) M := by
  refine tvRun.of yk_X5_isDigit rfl [some (.int x1)] rfl (Nat.le_of_ble_eq_true rfl) ?_
  intro E hG C hQ; subst hG
  refine tv_iload_n C dk_X5_isDigit_0 rfl ?_
  refine tv_bipush (v := 48) C dk_X5_isDigit_1 (by decide) ?_
  refine tv_icmp_lt C dk_X5_isDigit_3 (fun h1 => ?_) (fun h1 => ?_)
  · refine tv_iconst (v := 0) C dk_X5_isDigit_16 (by decide) ?_
    exact tv_iret C hQ dk_X5_isDigit_17 rfl (by rw [f_X5_isDigit, if_pos h1]) rfl
  refine tv_iload_n C dk_X5_isDigit_6 rfl ?_
  refine tv_bipush (v := 57) C dk_X5_isDigit_7 (by decide) ?_
  refine tv_icmp_gt C dk_X5_isDigit_9 (fun h2 => ?_) (fun h2 => ?_)
  · refine tv_iconst (v := 0) C dk_X5_isDigit_16 (by decide) ?_
    exact tv_iret C hQ dk_X5_isDigit_17 rfl (by rw [f_X5_isDigit, if_neg h1, if_pos h2]) rfl
  refine tv_iconst (v := 1) C dk_X5_isDigit_12 (by decide) ?_
  refine tv_goto C dk_X5_isDigit_13 ?_
  exact tv_iret C hQ dk_X5_isDigit_17 rfl (by rw [f_X5_isDigit, if_neg h1, if_neg h2]) rfl
theorem fz_X5_isDigit {M : tvM} {x1 : Int32} : narrow .boolean (.int (f_X5_isDigit M x1)) = .int (f_X5_isDigit M x1) := by
  unfold f_X5_isDigit; repeat' split
  all_goals first | rfl
/-- TideVault$Program.readSign(C)Z -/
def f_X5_readSign (M : tvM) (x1 : Int32) : Int32 × tvM := (if (tgi M 243 1) ≤ (tgi M 243 2) then (0, M) else (if (f_X5_sign M) = x1 then (1, (tpi M 243 2 ((tgi M 243 2) + 1))) else (0, M)))
theorem m_X5_readSign (G : tvG) (M : tvM) (x1 : Int32) : tvRun G yX5_readSign cX5_readSign 2 (some .boolean) 3 0 0 tvP0 tvP0 [.ref (G.2.1 + 243), .int x1] M (.inl (some (.int (f_X5_readSign M x1).1))) ((f_X5_readSign M x1).2) := by
  refine tvRun.of yk_X5_readSign rfl [some (.ref (G.2.1 + 243)), some (.int x1)] rfl (Nat.le_of_ble_eq_true rfl) ?_
  intro E hG C hQ; subst hG
  refine tv_aload_n C dk_X5_readSign_0 rfl ?_
  refine tv_getI C dk_X5_readSign_1 fl_RX5_26 (Nat.le_of_ble_eq_true rfl) rfl (fun _ _ _ _ => rfl) ?_
  refine tv_aload_n C dk_X5_readSign_4 rfl ?_
  refine tv_getI C dk_X5_readSign_5 fl_RX5_22 (Nat.le_of_ble_eq_true rfl) rfl (fun _ _ _ _ => rfl) ?_
  refine tv_icmp_ge C dk_X5_readSign_8 (fun h1 => ?_) (fun h1 => ?_)
  · refine tv_iconst (v := 0) C dk_X5_readSign_19 (by decide) ?_
    exact tv_iret C hQ dk_X5_readSign_20 rfl (by rw [f_X5_readSign, if_pos h1]) (by rw [f_X5_readSign, if_pos h1])
  refine tv_aload_n C dk_X5_readSign_11 rfl ?_
  refine tv_cV1 C dk_X5_readSign_12 ml_RX5_48 yk_X5_sign yi_X5_sign (m_X5_sign _ M) (Nat.le_of_ble_eq_true rfl) rfl rfl rfl rfl (Nat.le_of_ble_eq_true rfl) (Nat.le_of_ble_eq_true rfl) (Nat.le_of_ble_eq_true rfl) (Nat.le_of_ble_eq_true rfl) (Nat.le_of_ble_eq_true rfl) ?_
  refine tv_iload_n C dk_X5_readSign_15 rfl ?_
  refine tv_icmp_eq C dk_X5_readSign_16 (fun h2 => ?_) (fun h2 => ?_)
  · refine tv_aload_n C dk_X5_readSign_21 rfl ?_
    refine tv_dup C dk_X5_readSign_22 rfl ?_
    refine tv_getI C dk_X5_readSign_23 fl_RX5_26 (Nat.le_of_ble_eq_true rfl) rfl (fun _ _ _ _ => rfl) ?_
    refine tv_iconst (v := 1) C dk_X5_readSign_26 (by decide) ?_
    refine tv_iadd C dk_X5_readSign_27 ?_
    refine tv_putI C tvP0_ex dk_X5_readSign_28 fl_RX5_26 fw_5_2 (Nat.le_of_ble_eq_true rfl) rfl rfl (fun _ _ _ _ _ => rfl) rfl rfl ?_
    refine tv_iconst (v := 1) C dk_X5_readSign_31 (by decide) ?_
    exact tv_iret C hQ dk_X5_readSign_32 rfl (by rw [f_X5_readSign, if_neg h1, if_pos h2]) (by rw [f_X5_readSign, if_neg h1, if_pos h2])
  refine tv_iconst (v := 0) C dk_X5_readSign_19 (by decide) ?_
  exact tv_iret C hQ dk_X5_readSign_20 rfl (by rw [f_X5_readSign, if_neg h1, if_neg h2]) (by rw [f_X5_readSign, if_neg h1, if_neg h2])
theorem fz_X5_readSign {M : tvM} {x1 : Int32} : narrow .boolean (.int (f_X5_readSign M x1).1) = .int ((f_X5_readSign M x1).1) := by
  unfold f_X5_readSign; repeat' split
  all_goals first | rfl
/-- TideVault$Program.wordOf(I)Ljava/lang/String; -/
def f_X5_wordOf (x1 : Int32) : Nat := (if x1 = 0 then 0 else (if x1 = 1 then 1 else (if x1 = 2 then 2 else (if x1 = 3 then 3 else (if x1 = 4 then 4 else (if x1 = 5 then 5 else (if x1 = 6 then 6 else (if x1 = 7 then 7 else 8))))))))
theorem m_X5_wordOf (G : tvG) (M : tvM) (x1 : Int32) : tvRun G yX5_wordOf cX5_wordOf 1 (some (.object "java/lang/String")) 1 0 0 tvP0 tvP0 [.int x1] M (.inl (some (.ref (G.2.2.2.2.1 (f_X5_wordOf x1))))) M := by
  refine tvRun.of yk_X5_wordOf rfl [some (.int x1)] rfl (Nat.le_of_ble_eq_true rfl) ?_
  intro E hG C hQ; subst hG
  refine tv_iload_n C dk_X5_wordOf_0 rfl ?_
  refine tv_case (x := x1) 0 (fun h1 => ?_) (fun h1 => ?_)
  · refine tv_sw C dk_X5_wordOf_1_c0 h1 ?_
    refine tv_ldcS (i := 0) C dk_X5_wordOf_48 (List.mem_of_getElem? (i := 0) rfl) ?_
    exact tv_aret C hQ dk_X5_wordOf_50 (by rw [f_X5_wordOf, if_pos h1]) rfl
  refine tv_case (x := x1) 1 (fun h2 => ?_) (fun h2 => ?_)
  · refine tv_sw C dk_X5_wordOf_1_c1 h2 ?_
    refine tv_ldcS (i := 1) C dk_X5_wordOf_51 (List.mem_of_getElem? (i := 1) rfl) ?_
    exact tv_aret C hQ dk_X5_wordOf_53 (by rw [f_X5_wordOf, if_neg h1, if_pos h2]) rfl
  refine tv_case (x := x1) 2 (fun h3 => ?_) (fun h3 => ?_)
  · refine tv_sw C dk_X5_wordOf_1_c2 h3 ?_
    refine tv_ldcS (i := 2) C dk_X5_wordOf_54 (List.mem_of_getElem? (i := 2) rfl) ?_
    exact tv_aret C hQ dk_X5_wordOf_56 (by rw [f_X5_wordOf, if_neg h1, if_neg h2, if_pos h3]) rfl
  refine tv_case (x := x1) 3 (fun h4 => ?_) (fun h4 => ?_)
  · refine tv_sw C dk_X5_wordOf_1_c3 h4 ?_
    refine tv_ldcS (i := 3) C dk_X5_wordOf_57 (List.mem_of_getElem? (i := 3) rfl) ?_
    exact tv_aret C hQ dk_X5_wordOf_59 (by rw [f_X5_wordOf, if_neg h1, if_neg h2, if_neg h3, if_pos h4]) rfl
  refine tv_case (x := x1) 4 (fun h5 => ?_) (fun h5 => ?_)
  · refine tv_sw C dk_X5_wordOf_1_c4 h5 ?_
    refine tv_ldcS (i := 4) C dk_X5_wordOf_60 (List.mem_of_getElem? (i := 4) rfl) ?_
    exact tv_aret C hQ dk_X5_wordOf_62 (by rw [f_X5_wordOf, if_neg h1, if_neg h2, if_neg h3, if_neg h4, if_pos h5]) rfl
  refine tv_case (x := x1) 5 (fun h6 => ?_) (fun h6 => ?_)
  · refine tv_sw C dk_X5_wordOf_1_c5 h6 ?_
    refine tv_ldcS (i := 5) C dk_X5_wordOf_63 (List.mem_of_getElem? (i := 5) rfl) ?_
    exact tv_aret C hQ dk_X5_wordOf_65 (by rw [f_X5_wordOf, if_neg h1, if_neg h2, if_neg h3, if_neg h4, if_neg h5, if_pos h6]) rfl
  refine tv_case (x := x1) 6 (fun h7 => ?_) (fun h7 => ?_)
  · refine tv_sw C dk_X5_wordOf_1_c6 h7 ?_
    refine tv_ldcS (i := 6) C dk_X5_wordOf_66 (List.mem_of_getElem? (i := 6) rfl) ?_
    exact tv_aret C hQ dk_X5_wordOf_68 (by rw [f_X5_wordOf, if_neg h1, if_neg h2, if_neg h3, if_neg h4, if_neg h5, if_neg h6, if_pos h7]) rfl
  refine tv_case (x := x1) 7 (fun h8 => ?_) (fun h8 => ?_)
  · refine tv_sw C dk_X5_wordOf_1_c7 h8 ?_
    refine tv_ldcS (i := 7) C dk_X5_wordOf_69 (List.mem_of_getElem? (i := 7) rfl) ?_
    exact tv_aret C hQ dk_X5_wordOf_71 (by rw [f_X5_wordOf, if_neg h1, if_neg h2, if_neg h3, if_neg h4, if_neg h5, if_neg h6, if_neg h7, if_pos h8]) rfl
  refine tv_swd C dk_X5_wordOf_1 (tvsw_X5_wordOf_1 h1 h2 h3 h4 h5 h6 h7 h8) ?_
  refine tv_ldcS (i := 8) C dk_X5_wordOf_72 (List.mem_of_getElem? (i := 8) rfl) ?_
  exact tv_aret C hQ dk_X5_wordOf_74 (by rw [f_X5_wordOf, if_neg h1, if_neg h2, if_neg h3, if_neg h4, if_neg h5, if_neg h6, if_neg h7, if_neg h8]) rfl
/-- TideVault$Program.formOf(I)Ljava/lang/String; -/
def f_X5_formOf (x1 : Int32) : Nat := (if x1 = 0 then 10 else (if x1 = 1 then 11 else (if x1 = 2 then 12 else (if x1 = 3 then 13 else (if x1 = 4 then 14 else (if x1 = 5 then 15 else (if x1 = 6 then 16 else (if x1 = 7 then 16 else 17))))))))
theorem m_X5_formOf (G : tvG) (M : tvM) (x1 : Int32) : tvRun G yX5_formOf cX5_formOf 1 (some (.object "java/lang/String")) 1 0 0 tvP0 tvP0 [.int x1] M (.inl (some (.ref (G.2.2.2.2.1 (f_X5_formOf x1))))) M := by
  refine tvRun.of yk_X5_formOf rfl [some (.int x1)] rfl (Nat.le_of_ble_eq_true rfl) ?_
  intro E hG C hQ; subst hG
  refine tv_iload_n C dk_X5_formOf_0 rfl ?_
  refine tv_case (x := x1) 0 (fun h1 => ?_) (fun h1 => ?_)
  · refine tv_sw C dk_X5_formOf_1_c0 h1 ?_
    refine tv_ldcS (i := 10) C dk_X5_formOf_48 (List.mem_of_getElem? (i := 10) rfl) ?_
    exact tv_aret C hQ dk_X5_formOf_50 (by rw [f_X5_formOf, if_pos h1]) rfl
  refine tv_case (x := x1) 1 (fun h2 => ?_) (fun h2 => ?_)
  · refine tv_sw C dk_X5_formOf_1_c1 h2 ?_
    refine tv_ldcS (i := 11) C dk_X5_formOf_51 (List.mem_of_getElem? (i := 11) rfl) ?_
    exact tv_aret C hQ dk_X5_formOf_53 (by rw [f_X5_formOf, if_neg h1, if_pos h2]) rfl
  refine tv_case (x := x1) 2 (fun h3 => ?_) (fun h3 => ?_)
  · refine tv_sw C dk_X5_formOf_1_c2 h3 ?_
    refine tv_ldcS (i := 12) C dk_X5_formOf_54 (List.mem_of_getElem? (i := 12) rfl) ?_
    exact tv_aret C hQ dk_X5_formOf_56 (by rw [f_X5_formOf, if_neg h1, if_neg h2, if_pos h3]) rfl
  refine tv_case (x := x1) 3 (fun h4 => ?_) (fun h4 => ?_)
  · refine tv_sw C dk_X5_formOf_1_c3 h4 ?_
    refine tv_ldcS (i := 13) C dk_X5_formOf_57 (List.mem_of_getElem? (i := 13) rfl) ?_
    exact tv_aret C hQ dk_X5_formOf_59 (by rw [f_X5_formOf, if_neg h1, if_neg h2, if_neg h3, if_pos h4]) rfl
  refine tv_case (x := x1) 4 (fun h5 => ?_) (fun h5 => ?_)
  · refine tv_sw C dk_X5_formOf_1_c4 h5 ?_
    refine tv_ldcS (i := 14) C dk_X5_formOf_60 (List.mem_of_getElem? (i := 14) rfl) ?_
    exact tv_aret C hQ dk_X5_formOf_62 (by rw [f_X5_formOf, if_neg h1, if_neg h2, if_neg h3, if_neg h4, if_pos h5]) rfl
  refine tv_case (x := x1) 5 (fun h6 => ?_) (fun h6 => ?_)
  · refine tv_sw C dk_X5_formOf_1_c5 h6 ?_
    refine tv_ldcS (i := 15) C dk_X5_formOf_63 (List.mem_of_getElem? (i := 15) rfl) ?_
    exact tv_aret C hQ dk_X5_formOf_65 (by rw [f_X5_formOf, if_neg h1, if_neg h2, if_neg h3, if_neg h4, if_neg h5, if_pos h6]) rfl
  refine tv_case (x := x1) 6 (fun h7 => ?_) (fun h7 => ?_)
  · refine tv_sw C dk_X5_formOf_1_c6 h7 ?_
    refine tv_ldcS (i := 16) C dk_X5_formOf_66 (List.mem_of_getElem? (i := 16) rfl) ?_
    exact tv_aret C hQ dk_X5_formOf_68 (by rw [f_X5_formOf, if_neg h1, if_neg h2, if_neg h3, if_neg h4, if_neg h5, if_neg h6, if_pos h7]) rfl
  refine tv_case (x := x1) 7 (fun h8 => ?_) (fun h8 => ?_)
  · refine tv_sw C dk_X5_formOf_1_c7 h8 ?_
    refine tv_ldcS (i := 16) C dk_X5_formOf_69 (List.mem_of_getElem? (i := 16) rfl) ?_
    exact tv_aret C hQ dk_X5_formOf_71 (by rw [f_X5_formOf, if_neg h1, if_neg h2, if_neg h3, if_neg h4, if_neg h5, if_neg h6, if_neg h7, if_pos h8]) rfl
  refine tv_swd C dk_X5_formOf_1 (tvsw_X5_formOf_1 h1 h2 h3 h4 h5 h6 h7 h8) ?_
  refine tv_ldcS (i := 17) C dk_X5_formOf_72 (List.mem_of_getElem? (i := 17) rfl) ?_
  exact tv_aret C hQ dk_X5_formOf_74 (by rw [f_X5_formOf, if_neg h1, if_neg h2, if_neg h3, if_neg h4, if_neg h5, if_neg h6, if_neg h7, if_neg h8]) rfl
/-- TideVault.refusalOfLowMinutes(I)I -/
def f_X8_refusalOfLowMinutes (M : tvM) (x1 : Int32) : Int32 := (if x1 < 0 then 2 else (if x1 ≤ 1000 then 0 else 2))
theorem m_X8_refusalOfLowMinutes (G : tvG) (M : tvM) (x1 : Int32) : tvRun G yX8_refusalOfLowMinutes cX8_refusalOfLowMinutes 2 (some .int) 1 0 0 tvP0 tvP0 [.ref (G.2.1 + 0), .int x1] M (.inl (some (.int (f_X8_refusalOfLowMinutes M x1)))) M := by
  refine tvRun.of yk_X8_refusalOfLowMinutes rfl [some (.ref (G.2.1 + 0)), some (.int x1)] rfl (Nat.le_of_ble_eq_true rfl) ?_
  intro E hG C hQ; subst hG
  refine tv_iload_n C dk_X8_refusalOfLowMinutes_0 rfl ?_
  refine tv_if_lt C dk_X8_refusalOfLowMinutes_1 (fun h1 => ?_) (fun h1 => ?_)
  · refine tv_iconst (v := 2) C dk_X8_refusalOfLowMinutes_11 (by decide) ?_
    refine tv_goto C dk_X8_refusalOfLowMinutes_12 ?_
    exact tv_iret C hQ dk_X8_refusalOfLowMinutes_16 rfl (by rw [f_X8_refusalOfLowMinutes, if_pos h1]) rfl
  refine tv_iload_n C dk_X8_refusalOfLowMinutes_4 rfl ?_
  refine tv_sipush (v := 1000) C dk_X8_refusalOfLowMinutes_5 (by decide) ?_
  refine tv_icmp_le C dk_X8_refusalOfLowMinutes_8 (fun h2 => ?_) (fun h2 => ?_)
  · refine tv_iconst (v := 0) C dk_X8_refusalOfLowMinutes_15 (by decide) ?_
    exact tv_iret C hQ dk_X8_refusalOfLowMinutes_16 rfl (by rw [f_X8_refusalOfLowMinutes, if_neg h1, if_pos h2]) rfl
  refine tv_iconst (v := 2) C dk_X8_refusalOfLowMinutes_11 (by decide) ?_
  refine tv_goto C dk_X8_refusalOfLowMinutes_12 ?_
  exact tv_iret C hQ dk_X8_refusalOfLowMinutes_16 rfl (by rw [f_X8_refusalOfLowMinutes, if_neg h1, if_neg h2]) rfl
/-- TideVault.refusalOfHolderNumber(I)I -/
def f_X8_refusalOfHolderNumber (M : tvM) (x1 : Int32) : Int32 := (if (f_X2_has M 1 x1) = 0 then 1 else 0)
theorem m_X8_refusalOfHolderNumber (G : tvG) (M : tvM) (x1 : Int32) : tvRun G yX8_refusalOfHolderNumber cX8_refusalOfHolderNumber 2 (some .int) 2 0 0 tvP0 tvP0 [.ref (G.2.1 + 0), .int x1] M (.inl (some (.int (f_X8_refusalOfHolderNumber M x1)))) M := by
  refine tvRun.of yk_X8_refusalOfHolderNumber rfl [some (.ref (G.2.1 + 0)), some (.int x1)] rfl (Nat.le_of_ble_eq_true rfl) ?_
  intro E hG C hQ; subst hG
  refine tv_aload_n C dk_X8_refusalOfHolderNumber_0 rfl ?_
  refine tv_getR (r := 1) C dk_X8_refusalOfHolderNumber_1 fl_RX8_12 (Nat.le_of_ble_eq_true rfl) rfl rfl (fun _ _ _ _ => rfl) ?_
  refine tv_getR (r := (1 + 2)) C dk_X8_refusalOfHolderNumber_4 fl_RX8_62 (tvSB_sh tvSBn_1 0 (by decide)).2 (tvSB_sh tvSBn_1 0 (by decide)).1 (tvSB_rho tvSBn_1 (0, 1, 2) (by decide)) (fun _ _ _ _ => rfl) ?_
  refine tv_iload_n C dk_X8_refusalOfHolderNumber_7 rfl ?_
  refine tv_cV1 C dk_X8_refusalOfHolderNumber_8 ml_RX8_395 yk_X2_has yi_X2_has (m_X2_has _ M tvSBn_1 x1) (tvSB_sh tvSBn_1 2 (by decide)).2 (tvSB_sh tvSBn_1 2 (by decide)).1 rfl rfl rfl (Nat.le_of_ble_eq_true rfl) (Nat.le_of_ble_eq_true rfl) (Nat.le_of_ble_eq_true rfl) (Nat.le_of_ble_eq_true rfl) (Nat.le_of_ble_eq_true rfl) ?_
  refine tv_if_eq C dk_X8_refusalOfHolderNumber_11 (fun h1 => ?_) (fun h1 => ?_)
  · refine tv_iconst (v := 1) C dk_X8_refusalOfHolderNumber_18 (by decide) ?_
    exact tv_iret C hQ dk_X8_refusalOfHolderNumber_19 rfl (by rw [f_X8_refusalOfHolderNumber, if_pos h1]) rfl
  refine tv_iconst (v := 0) C dk_X8_refusalOfHolderNumber_14 (by decide) ?_
  refine tv_goto C dk_X8_refusalOfHolderNumber_15 ?_
  exact tv_iret C hQ dk_X8_refusalOfHolderNumber_19 rfl (by rw [f_X8_refusalOfHolderNumber, if_neg h1]) rfl
/-- TideVault.refusalOfBoxNumber(I)I -/
def f_X8_refusalOfBoxNumber (M : tvM) (x1 : Int32) : Int32 := (if (f_X0_has M 1 x1) = 0 then 1 else 0)
theorem m_X8_refusalOfBoxNumber (G : tvG) (M : tvM) (x1 : Int32) : tvRun G yX8_refusalOfBoxNumber cX8_refusalOfBoxNumber 2 (some .int) 2 0 0 tvP0 tvP0 [.ref (G.2.1 + 0), .int x1] M (.inl (some (.int (f_X8_refusalOfBoxNumber M x1)))) M := by
  refine tvRun.of yk_X8_refusalOfBoxNumber rfl [some (.ref (G.2.1 + 0)), some (.int x1)] rfl (Nat.le_of_ble_eq_true rfl) ?_
  intro E hG C hQ; subst hG
  refine tv_aload_n C dk_X8_refusalOfBoxNumber_0 rfl ?_
  refine tv_getR (r := 1) C dk_X8_refusalOfBoxNumber_1 fl_RX8_12 (Nat.le_of_ble_eq_true rfl) rfl rfl (fun _ _ _ _ => rfl) ?_
  refine tv_getR (r := (1 + 6)) C dk_X8_refusalOfBoxNumber_4 fl_RX8_75 (tvSB_sh tvSBn_1 0 (by decide)).2 (tvSB_sh tvSBn_1 0 (by decide)).1 (tvSB_rho tvSBn_1 (0, 2, 6) (by decide)) (fun _ _ _ _ => rfl) ?_
  refine tv_iload_n C dk_X8_refusalOfBoxNumber_7 rfl ?_
  refine tv_cV1 C dk_X8_refusalOfBoxNumber_8 ml_RX8_223 yk_X0_has yi_X0_has (m_X0_has _ M tvSBn_1 x1) (tvSB_sh tvSBn_1 6 (by decide)).2 (tvSB_sh tvSBn_1 6 (by decide)).1 rfl rfl rfl (Nat.le_of_ble_eq_true rfl) (Nat.le_of_ble_eq_true rfl) (Nat.le_of_ble_eq_true rfl) (Nat.le_of_ble_eq_true rfl) (Nat.le_of_ble_eq_true rfl) ?_
  refine tv_if_eq C dk_X8_refusalOfBoxNumber_11 (fun h1 => ?_) (fun h1 => ?_)
  · refine tv_iconst (v := 1) C dk_X8_refusalOfBoxNumber_18 (by decide) ?_
    exact tv_iret C hQ dk_X8_refusalOfBoxNumber_19 rfl (by rw [f_X8_refusalOfBoxNumber, if_pos h1]) rfl
  refine tv_iconst (v := 0) C dk_X8_refusalOfBoxNumber_14 (by decide) ?_
  refine tv_goto C dk_X8_refusalOfBoxNumber_15 ?_
  exact tv_iret C hQ dk_X8_refusalOfBoxNumber_19 rfl (by rw [f_X8_refusalOfBoxNumber, if_neg h1]) rfl
/-- TideVault.refusalUnless(CI)I -/
def f_X8_refusalUnless (M : tvM) (x1 : Int32) (x2 : Int32) : Int32 := (if (f_X0_has M 1 x2) = 0 then 1 else (if (f_X0_statusOf M 1 x2) = x1 then 0 else 5))
theorem m_X8_refusalUnless (G : tvG) (M : tvM) (x1 : Int32) (x2 : Int32) : tvRun G yX8_refusalUnless cX8_refusalUnless 3 (some .int) 3 0 0 tvP0 tvP0 [.ref (G.2.1 + 0), .int x1, .int x2] M (.inl (some (.int (f_X8_refusalUnless M x1 x2)))) M := by
  refine tvRun.of yk_X8_refusalUnless rfl [some (.ref (G.2.1 + 0)), some (.int x1), some (.int x2)] rfl (Nat.le_of_ble_eq_true rfl) ?_
  intro E hG C hQ; subst hG
  refine tv_aload_n C dk_X8_refusalUnless_0 rfl ?_
  refine tv_getR (r := 1) C dk_X8_refusalUnless_1 fl_RX8_12 (Nat.le_of_ble_eq_true rfl) rfl rfl (fun _ _ _ _ => rfl) ?_
  refine tv_getR (r := (1 + 6)) C dk_X8_refusalUnless_4 fl_RX8_75 (tvSB_sh tvSBn_1 0 (by decide)).2 (tvSB_sh tvSBn_1 0 (by decide)).1 (tvSB_rho tvSBn_1 (0, 2, 6) (by decide)) (fun _ _ _ _ => rfl) ?_
  refine tv_iload_n C dk_X8_refusalUnless_7 rfl ?_
  refine tv_cV1 C dk_X8_refusalUnless_8 ml_RX8_223 yk_X0_has yi_X0_has (m_X0_has _ M tvSBn_1 x2) (tvSB_sh tvSBn_1 6 (by decide)).2 (tvSB_sh tvSBn_1 6 (by decide)).1 rfl rfl rfl (Nat.le_of_ble_eq_true rfl) (Nat.le_of_ble_eq_true rfl) (Nat.le_of_ble_eq_true rfl) (Nat.le_of_ble_eq_true rfl) (Nat.le_of_ble_eq_true rfl) ?_
  refine tv_if_ne C dk_X8_refusalUnless_11 (fun h1 => ?_) (fun h1 => ?_)
  · refine tv_aload_n C dk_X8_refusalUnless_16 rfl ?_
    refine tv_getR (r := 1) C dk_X8_refusalUnless_17 fl_RX8_12 (Nat.le_of_ble_eq_true rfl) rfl rfl (fun _ _ _ _ => rfl) ?_
    refine tv_getR (r := (1 + 6)) C dk_X8_refusalUnless_20 fl_RX8_75 (tvSB_sh tvSBn_1 0 (by decide)).2 (tvSB_sh tvSBn_1 0 (by decide)).1 (tvSB_rho tvSBn_1 (0, 2, 6) (by decide)) (fun _ _ _ _ => rfl) ?_
    refine tv_iload_n C dk_X8_refusalUnless_23 rfl ?_
    refine tv_cV1 C dk_X8_refusalUnless_24 ml_RX8_189 yk_X0_statusOf yi_X0_statusOf (m_X0_statusOf _ M tvSBn_1 x2) (tvSB_sh tvSBn_1 6 (by decide)).2 (tvSB_sh tvSBn_1 6 (by decide)).1 rfl rfl rfl (Nat.le_of_ble_eq_true rfl) (Nat.le_of_ble_eq_true rfl) (Nat.le_of_ble_eq_true rfl) (Nat.le_of_ble_eq_true rfl) (Nat.le_of_ble_eq_true rfl) ?_
    refine tv_iload_n C dk_X8_refusalUnless_27 rfl ?_
    refine tv_icmp_ne C dk_X8_refusalUnless_28 (fun h2 => ?_) (fun h2 => ?_)
    · refine tv_iconst (v := 5) C dk_X8_refusalUnless_35 (by decide) ?_
      exact tv_iret C hQ dk_X8_refusalUnless_36 rfl (by rw [f_X8_refusalUnless, if_neg h1, if_neg h2]) rfl
    refine tv_iconst (v := 0) C dk_X8_refusalUnless_31 (by decide) ?_
    refine tv_goto C dk_X8_refusalUnless_32 ?_
    exact tv_iret C hQ dk_X8_refusalUnless_36 rfl (by rw [f_X8_refusalUnless, if_neg h1, if_pos h2]) rfl
  refine tv_iconst (v := 1) C dk_X8_refusalUnless_14 (by decide) ?_
  exact tv_iret C hQ dk_X8_refusalUnless_15 rfl (by rw [f_X8_refusalUnless, if_pos h1]) rfl
/-- TideVault.refusalOfEvent(I)I -/
def f_X8_refusalOfEvent (M : tvM) (x1 : Int32) : Int32 := (if (f_X4_has M 1 x1) = 0 then 5 else 0)
theorem m_X8_refusalOfEvent (G : tvG) (M : tvM) (x1 : Int32) : tvRun G yX8_refusalOfEvent cX8_refusalOfEvent 2 (some .int) 2 0 0 tvP0 tvP0 [.ref (G.2.1 + 0), .int x1] M (.inl (some (.int (f_X8_refusalOfEvent M x1)))) M := by
  refine tvRun.of yk_X8_refusalOfEvent rfl [some (.ref (G.2.1 + 0)), some (.int x1)] rfl (Nat.le_of_ble_eq_true rfl) ?_
  intro E hG C hQ; subst hG
  refine tv_aload_n C dk_X8_refusalOfEvent_0 rfl ?_
  refine tv_getR (r := 1) C dk_X8_refusalOfEvent_1 fl_RX8_12 (Nat.le_of_ble_eq_true rfl) rfl rfl (fun _ _ _ _ => rfl) ?_
  refine tv_getR (r := (1 + 16)) C dk_X8_refusalOfEvent_4 fl_RX8_257 (tvSB_sh tvSBn_1 0 (by decide)).2 (tvSB_sh tvSBn_1 0 (by decide)).1 (tvSB_rho tvSBn_1 (0, 3, 16) (by decide)) (fun _ _ _ _ => rfl) ?_
  refine tv_iload_n C dk_X8_refusalOfEvent_7 rfl ?_
  refine tv_cV1 C dk_X8_refusalOfEvent_8 ml_RX8_396 yk_X4_has yi_X4_has (m_X4_has _ M tvSBn_1 x1) (tvSB_sh tvSBn_1 16 (by decide)).2 (tvSB_sh tvSBn_1 16 (by decide)).1 rfl rfl rfl (Nat.le_of_ble_eq_true rfl) (Nat.le_of_ble_eq_true rfl) (Nat.le_of_ble_eq_true rfl) (Nat.le_of_ble_eq_true rfl) (Nat.le_of_ble_eq_true rfl) ?_
  refine tv_if_eq C dk_X8_refusalOfEvent_11 (fun h1 => ?_) (fun h1 => ?_)
  · refine tv_iconst (v := 5) C dk_X8_refusalOfEvent_18 (by decide) ?_
    exact tv_iret C hQ dk_X8_refusalOfEvent_19 rfl (by rw [f_X8_refusalOfEvent, if_pos h1]) rfl
  refine tv_iconst (v := 0) C dk_X8_refusalOfEvent_14 (by decide) ?_
  refine tv_goto C dk_X8_refusalOfEvent_15 ?_
  exact tv_iret C hQ dk_X8_refusalOfEvent_19 rfl (by rw [f_X8_refusalOfEvent, if_neg h1]) rfl
/-- TideVault.refusalWithoutFailure()I -/
def f_X8_refusalWithoutFailure (M : tvM) : Int32 := (if (tgi M 0 8) = (-1) then 5 else 0)
theorem m_X8_refusalWithoutFailure (G : tvG) (M : tvM) : tvRun G yX8_refusalWithoutFailure cX8_refusalWithoutFailure 1 (some .int) 1 0 0 tvP0 tvP0 [.ref (G.2.1 + 0)] M (.inl (some (.int (f_X8_refusalWithoutFailure M)))) M := by
  refine tvRun.of yk_X8_refusalWithoutFailure rfl [some (.ref (G.2.1 + 0))] rfl (Nat.le_of_ble_eq_true rfl) ?_
  intro E hG C hQ; subst hG
  refine tv_aload_n C dk_X8_refusalWithoutFailure_0 rfl ?_
  refine tv_getI C dk_X8_refusalWithoutFailure_1 fl_RX8_47 (Nat.le_of_ble_eq_true rfl) rfl (fun _ _ _ _ => rfl) ?_
  refine tv_iconst (v := (-1)) C dk_X8_refusalWithoutFailure_4 (by decide) ?_
  refine tv_icmp_ne C dk_X8_refusalWithoutFailure_5 (fun h1 => ?_) (fun h1 => ?_)
  · refine tv_iconst (v := 0) C dk_X8_refusalWithoutFailure_12 (by decide) ?_
    exact tv_iret C hQ dk_X8_refusalWithoutFailure_13 rfl (by rw [f_X8_refusalWithoutFailure, if_neg h1]) rfl
  refine tv_iconst (v := 5) C dk_X8_refusalWithoutFailure_8 (by decide) ?_
  refine tv_goto C dk_X8_refusalWithoutFailure_9 ?_
  exact tv_iret C hQ dk_X8_refusalWithoutFailure_13 rfl (by rw [f_X8_refusalWithoutFailure, if_pos h1]) rfl
/-- TideVault.hearCode(II)V -/
def f_X8_hearCode (M : tvM) (x1 : Int32) (x2 : Int32) : Option String × tvM := (if x1 = 0 then (if x1 = 4 then (if (f_X8_refuse (f_X6_hearWrongCode (f_X1_keep M) 1 x2) x1).1 = none then (none, (f_X6_hearWrongCode (f_X1_keep M) 1 x2)) else ((f_X8_refuse (f_X6_hearWrongCode (f_X1_keep M) 1 x2) x1).1, (f_X6_hearWrongCode (f_X1_keep M) 1 x2))) else (none, (f_X1_keep M))) else (if x1 = 4 then (if (f_X8_refuse (f_X6_hearWrongCode (f_X1_keep M) 1 x2) x1).1 = none then (none, (f_X6_hearWrongCode (f_X1_keep M) 1 x2)) else ((f_X8_refuse (f_X6_hearWrongCode (f_X1_keep M) 1 x2) x1).1, (f_X6_hearWrongCode (f_X1_keep M) 1 x2))) else (if (f_X8_refuse M x1).1 = none then (none, (f_X1_keep M)) else ((f_X8_refuse M x1).1, M))))
theorem m_X8_hearCode (G : tvG) (M : tvM) (x1 : Int32) (x2 : Int32) : tvRun G yX8_hearCode cX8_hearCode 3 none 7 1 6 tvP0 tvP0 [.ref (G.2.1 + 0), .int x1, .int x2] M (tvOx none (f_X8_hearCode M x1 x2).1) ((f_X8_hearCode M x1 x2).2) := by
  refine tvRun.of yk_X8_hearCode rfl [some (.ref (G.2.1 + 0)), some (.int x1), some (.int x2)] rfl (Nat.le_of_ble_eq_true rfl) ?_
  intro E hG C hQ; subst hG
  refine tv_iload_n C dk_X8_hearCode_0 rfl ?_
  refine tv_if_eq C dk_X8_hearCode_1 (fun h1 => ?_) (fun h1 => ?_)
  · refine tv_aload_n C dk_X8_hearCode_13 rfl ?_
    refine tv_getR (r := 61) C dk_X8_hearCode_14 fl_RX8_25 (Nat.le_of_ble_eq_true rfl) rfl rfl (fun _ _ _ _ => rfl) ?_
    refine tv_aload_n C dk_X8_hearCode_17 rfl ?_
    refine tv_getR (r := 1) C dk_X8_hearCode_18 fl_RX8_12 (Nat.le_of_ble_eq_true rfl) rfl rfl (fun _ _ _ _ => rfl) ?_
    refine tv_cV0 C dk_X8_hearCode_21 ml_RX8_58 yk_X1_keep yi_X1_keep (m_X1_keep _ M) (Nat.le_of_ble_eq_true rfl) rfl rfl rfl rfl (Nat.le_of_ble_eq_true rfl) (Nat.le_of_ble_eq_true rfl) (Nat.le_of_ble_eq_true rfl) (Nat.le_of_ble_eq_true rfl) (Nat.le_of_ble_eq_true rfl) ?_
    refine tv_iload_n C dk_X8_hearCode_24 rfl ?_
    refine tv_iconst (v := 4) C dk_X8_hearCode_25 (by decide) ?_
    refine tv_icmp_ne C dk_X8_hearCode_26 (fun h2 => ?_) (fun h2 => ?_)
    · exact tv_vret C hQ dk_X8_hearCode_41 (by rw [f_X8_hearCode, if_pos h1, if_neg h2]; rfl) (by rw [f_X8_hearCode, if_pos h1, if_neg h2])
    refine tv_aload_n C dk_X8_hearCode_29 rfl ?_
    refine tv_getR (r := 1) C dk_X8_hearCode_30 fl_RX8_12 (Nat.le_of_ble_eq_true rfl) rfl rfl (fun _ _ _ _ => rfl) ?_
    refine tv_iload_n C dk_X8_hearCode_33 rfl ?_
    refine tv_cV0 C dk_X8_hearCode_34 ml_RX8_383 yk_X6_hearWrongCode yi_X6_hearWrongCode (m_X6_hearWrongCode _ (f_X1_keep M) tvSBn_1 x2) (tvSB_sh tvSBn_1 0 (by decide)).2 (tvSB_sh tvSBn_1 0 (by decide)).1 rfl rfl rfl (Nat.le_of_ble_eq_true rfl) (Nat.le_of_ble_eq_true rfl) (Nat.le_of_ble_eq_true rfl) (Nat.le_of_ble_eq_true rfl) (Nat.le_of_ble_eq_true rfl) ?_
    refine tv_iload_n C dk_X8_hearCode_37 rfl ?_
    refine tv_cSx C dk_X8_hearCode_38 ml_RX8_54 yk_X8_refuse yi_X8_refuse (m_X8_refuse _ (f_X6_hearWrongCode (f_X1_keep M) 1 x2) x1) rfl rfl (Nat.le_of_ble_eq_true rfl) (Nat.le_of_ble_eq_true rfl) (Nat.le_of_ble_eq_true rfl) (Nat.le_of_ble_eq_true rfl) (Nat.le_of_ble_eq_true rfl) rfl rfl rfl (fun _ h3e => tv_out C hQ (by rw [f_X8_hearCode, if_pos h1, if_pos h2, if_neg (tv_sn h3e)]; rw [h3e]; rfl) (by rw [f_X8_hearCode, if_pos h1, if_pos h2, if_neg (tv_sn h3e)])) (fun h3 => ?_)
    exact tv_vret C hQ dk_X8_hearCode_41 (by rw [f_X8_hearCode, if_pos h1, if_pos h2, if_pos h3]; rfl) (by rw [f_X8_hearCode, if_pos h1, if_pos h2, if_pos h3])
  refine tv_iload_n C dk_X8_hearCode_4 rfl ?_
  refine tv_iconst (v := 4) C dk_X8_hearCode_5 (by decide) ?_
  refine tv_icmp_eq C dk_X8_hearCode_6 (fun h4 => ?_) (fun h4 => ?_)
  · refine tv_aload_n C dk_X8_hearCode_13 rfl ?_
    refine tv_getR (r := 61) C dk_X8_hearCode_14 fl_RX8_25 (Nat.le_of_ble_eq_true rfl) rfl rfl (fun _ _ _ _ => rfl) ?_
    refine tv_aload_n C dk_X8_hearCode_17 rfl ?_
    refine tv_getR (r := 1) C dk_X8_hearCode_18 fl_RX8_12 (Nat.le_of_ble_eq_true rfl) rfl rfl (fun _ _ _ _ => rfl) ?_
    refine tv_cV0 C dk_X8_hearCode_21 ml_RX8_58 yk_X1_keep yi_X1_keep (m_X1_keep _ M) (Nat.le_of_ble_eq_true rfl) rfl rfl rfl rfl (Nat.le_of_ble_eq_true rfl) (Nat.le_of_ble_eq_true rfl) (Nat.le_of_ble_eq_true rfl) (Nat.le_of_ble_eq_true rfl) (Nat.le_of_ble_eq_true rfl) ?_
    refine tv_iload_n C dk_X8_hearCode_24 rfl ?_
    refine tv_iconst (v := 4) C dk_X8_hearCode_25 (by decide) ?_
    refine tv_icmp_ne C dk_X8_hearCode_26 (fun h => absurd h4 h) (fun _ => ?_)
    refine tv_aload_n C dk_X8_hearCode_29 rfl ?_
    refine tv_getR (r := 1) C dk_X8_hearCode_30 fl_RX8_12 (Nat.le_of_ble_eq_true rfl) rfl rfl (fun _ _ _ _ => rfl) ?_
    refine tv_iload_n C dk_X8_hearCode_33 rfl ?_
    refine tv_cV0 C dk_X8_hearCode_34 ml_RX8_383 yk_X6_hearWrongCode yi_X6_hearWrongCode (m_X6_hearWrongCode _ (f_X1_keep M) tvSBn_1 x2) (tvSB_sh tvSBn_1 0 (by decide)).2 (tvSB_sh tvSBn_1 0 (by decide)).1 rfl rfl rfl (Nat.le_of_ble_eq_true rfl) (Nat.le_of_ble_eq_true rfl) (Nat.le_of_ble_eq_true rfl) (Nat.le_of_ble_eq_true rfl) (Nat.le_of_ble_eq_true rfl) ?_
    refine tv_iload_n C dk_X8_hearCode_37 rfl ?_
    refine tv_cSx C dk_X8_hearCode_38 ml_RX8_54 yk_X8_refuse yi_X8_refuse (m_X8_refuse _ (f_X6_hearWrongCode (f_X1_keep M) 1 x2) x1) rfl rfl (Nat.le_of_ble_eq_true rfl) (Nat.le_of_ble_eq_true rfl) (Nat.le_of_ble_eq_true rfl) (Nat.le_of_ble_eq_true rfl) (Nat.le_of_ble_eq_true rfl) rfl rfl rfl (fun _ h6e => tv_out C hQ (by rw [f_X8_hearCode, if_neg h1, if_pos h4, if_neg (tv_sn h6e)]; rw [h6e]; rfl) (by rw [f_X8_hearCode, if_neg h1, if_pos h4, if_neg (tv_sn h6e)])) (fun h6 => ?_)
    exact tv_vret C hQ dk_X8_hearCode_41 (by rw [f_X8_hearCode, if_neg h1, if_pos h4, if_pos h6]; rfl) (by rw [f_X8_hearCode, if_neg h1, if_pos h4, if_pos h6])
  refine tv_iload_n C dk_X8_hearCode_9 rfl ?_
  refine tv_cSx C dk_X8_hearCode_10 ml_RX8_54 yk_X8_refuse yi_X8_refuse (m_X8_refuse _ M x1) rfl rfl (Nat.le_of_ble_eq_true rfl) (Nat.le_of_ble_eq_true rfl) (Nat.le_of_ble_eq_true rfl) (Nat.le_of_ble_eq_true rfl) (Nat.le_of_ble_eq_true rfl) rfl rfl rfl (fun _ h7e => tv_out C hQ (by rw [f_X8_hearCode, if_neg h1, if_neg h4, if_neg (tv_sn h7e)]; rw [h7e]; rfl) (by rw [f_X8_hearCode, if_neg h1, if_neg h4, if_neg (tv_sn h7e)])) (fun h7 => ?_)
  refine tv_aload_n C dk_X8_hearCode_13 rfl ?_
  refine tv_getR (r := 61) C dk_X8_hearCode_14 fl_RX8_25 (Nat.le_of_ble_eq_true rfl) rfl rfl (fun _ _ _ _ => rfl) ?_
  refine tv_aload_n C dk_X8_hearCode_17 rfl ?_
  refine tv_getR (r := 1) C dk_X8_hearCode_18 fl_RX8_12 (Nat.le_of_ble_eq_true rfl) rfl rfl (fun _ _ _ _ => rfl) ?_
  refine tv_cV0 C dk_X8_hearCode_21 ml_RX8_58 yk_X1_keep yi_X1_keep (m_X1_keep _ M) (Nat.le_of_ble_eq_true rfl) rfl rfl rfl rfl (Nat.le_of_ble_eq_true rfl) (Nat.le_of_ble_eq_true rfl) (Nat.le_of_ble_eq_true rfl) (Nat.le_of_ble_eq_true rfl) (Nat.le_of_ble_eq_true rfl) ?_
  refine tv_iload_n C dk_X8_hearCode_24 rfl ?_
  refine tv_iconst (v := 4) C dk_X8_hearCode_25 (by decide) ?_
  refine tv_icmp_ne C dk_X8_hearCode_26 (fun _ => ?_) (fun h => absurd h h4)
  exact tv_vret C hQ dk_X8_hearCode_41 (by rw [f_X8_hearCode, if_neg h1, if_neg h4, if_pos h7]; rfl) (by rw [f_X8_hearCode, if_neg h1, if_neg h4, if_pos h7])
/-- TideVault.addHolder(I)I -/
def f_X8_addHolder (M : tvM) (x1 : Int32) : Option String × Int32 × tvM := (if (f_X8_refuse M (f_X6_refusalOfHolder M 1 x1)).1 = none then (none, (f_X2_add (f_X1_keep M) 1 x1).1, (f_X2_add (f_X1_keep M) 1 x1).2) else ((f_X8_refuse M (f_X6_refusalOfHolder M 1 x1)).1, 0, M))
theorem m_X8_addHolder (G : tvG) (M : tvM) (x1 : Int32) : tvRun G yX8_addHolder cX8_addHolder 2 (some .int) 7 1 6 tvP0 tvP0 [.ref (G.2.1 + 0), .int x1] M (tvOx (some (.int (f_X8_addHolder M x1).2.1)) (f_X8_addHolder M x1).1) ((f_X8_addHolder M x1).2.2) := by
  refine tvRun.of yk_X8_addHolder rfl [some (.ref (G.2.1 + 0)), some (.int x1)] rfl (Nat.le_of_ble_eq_true rfl) ?_
  intro E hG C hQ; subst hG
  refine tv_aload_n C dk_X8_addHolder_0 rfl ?_
  refine tv_getR (r := 1) C dk_X8_addHolder_1 fl_RX8_12 (Nat.le_of_ble_eq_true rfl) rfl rfl (fun _ _ _ _ => rfl) ?_
  refine tv_iload_n C dk_X8_addHolder_4 rfl ?_
  refine tv_cV1 C dk_X8_addHolder_5 ml_RX8_50 yk_X6_refusalOfHolder yi_X6_refusalOfHolder (m_X6_refusalOfHolder _ M tvSBn_1 x1) (tvSB_sh tvSBn_1 0 (by decide)).2 (tvSB_sh tvSBn_1 0 (by decide)).1 rfl rfl rfl (Nat.le_of_ble_eq_true rfl) (Nat.le_of_ble_eq_true rfl) (Nat.le_of_ble_eq_true rfl) (Nat.le_of_ble_eq_true rfl) (Nat.le_of_ble_eq_true rfl) ?_
  refine tv_cSx C dk_X8_addHolder_8 ml_RX8_54 yk_X8_refuse yi_X8_refuse (m_X8_refuse _ M (f_X6_refusalOfHolder M 1 x1)) rfl rfl (Nat.le_of_ble_eq_true rfl) (Nat.le_of_ble_eq_true rfl) (Nat.le_of_ble_eq_true rfl) (Nat.le_of_ble_eq_true rfl) (Nat.le_of_ble_eq_true rfl) rfl rfl rfl (fun _ h1e => tv_out C hQ (by rw [f_X8_addHolder, if_neg (tv_sn h1e)]; rw [h1e]; rfl) (by rw [f_X8_addHolder, if_neg (tv_sn h1e)])) (fun h1 => ?_)
  refine tv_aload_n C dk_X8_addHolder_11 rfl ?_
  refine tv_getR (r := 61) C dk_X8_addHolder_12 fl_RX8_25 (Nat.le_of_ble_eq_true rfl) rfl rfl (fun _ _ _ _ => rfl) ?_
  refine tv_aload_n C dk_X8_addHolder_15 rfl ?_
  refine tv_getR (r := 1) C dk_X8_addHolder_16 fl_RX8_12 (Nat.le_of_ble_eq_true rfl) rfl rfl (fun _ _ _ _ => rfl) ?_
  refine tv_cV0 C dk_X8_addHolder_19 ml_RX8_58 yk_X1_keep yi_X1_keep (m_X1_keep _ M) (Nat.le_of_ble_eq_true rfl) rfl rfl rfl rfl (Nat.le_of_ble_eq_true rfl) (Nat.le_of_ble_eq_true rfl) (Nat.le_of_ble_eq_true rfl) (Nat.le_of_ble_eq_true rfl) (Nat.le_of_ble_eq_true rfl) ?_
  refine tv_aload_n C dk_X8_addHolder_22 rfl ?_
  refine tv_getR (r := 1) C dk_X8_addHolder_23 fl_RX8_12 (Nat.le_of_ble_eq_true rfl) rfl rfl (fun _ _ _ _ => rfl) ?_
  refine tv_getR (r := (1 + 2)) C dk_X8_addHolder_26 fl_RX8_62 (tvSB_sh tvSBn_1 0 (by decide)).2 (tvSB_sh tvSBn_1 0 (by decide)).1 (tvSB_rho tvSBn_1 (0, 1, 2) (by decide)) (fun _ _ _ _ => rfl) ?_
  refine tv_iload_n C dk_X8_addHolder_29 rfl ?_
  refine tv_cV1 C dk_X8_addHolder_30 ml_RX8_66 yk_X2_add yi_X2_add (m_X2_add _ (f_X1_keep M) tvSBn_1 x1) (tvSB_sh tvSBn_1 2 (by decide)).2 (tvSB_sh tvSBn_1 2 (by decide)).1 rfl rfl rfl (Nat.le_of_ble_eq_true rfl) (Nat.le_of_ble_eq_true rfl) (Nat.le_of_ble_eq_true rfl) (Nat.le_of_ble_eq_true rfl) (Nat.le_of_ble_eq_true rfl) ?_
  exact tv_iret C hQ dk_X8_addHolder_33 rfl (by rw [f_X8_addHolder, if_pos h1]; rfl) (by rw [f_X8_addHolder, if_pos h1])
/-- TideVault.addBox(III)I -/
def f_X8_addBox (M : tvM) (x1 : Int32) (x2 : Int32) (x3 : Int32) : Option String × Int32 × tvM := (if (f_X8_refuse M (f_X6_refusalOfBox M 1 x1 x2 x3)).1 = none then (none, (f_X0_add (f_X1_keep M) 1 x1 x2 x3).1, (f_X0_add (f_X1_keep M) 1 x1 x2 x3).2) else ((f_X8_refuse M (f_X6_refusalOfBox M 1 x1 x2 x3)).1, 0, M))
theorem m_X8_addBox (G : tvG) (M : tvM) (x1 : Int32) (x2 : Int32) (x3 : Int32) : tvRun G yX8_addBox cX8_addBox 4 (some .int) 7 1 6 tvP0 tvP0 [.ref (G.2.1 + 0), .int x1, .int x2, .int x3] M (tvOx (some (.int (f_X8_addBox M x1 x2 x3).2.1)) (f_X8_addBox M x1 x2 x3).1) ((f_X8_addBox M x1 x2 x3).2.2) := by
  refine tvRun.of yk_X8_addBox rfl [some (.ref (G.2.1 + 0)), some (.int x1), some (.int x2), some (.int x3)] rfl (Nat.le_of_ble_eq_true rfl) ?_
  intro E hG C hQ; subst hG
  refine tv_aload_n C dk_X8_addBox_0 rfl ?_
  refine tv_getR (r := 1) C dk_X8_addBox_1 fl_RX8_12 (Nat.le_of_ble_eq_true rfl) rfl rfl (fun _ _ _ _ => rfl) ?_
  refine tv_iload_n C dk_X8_addBox_4 rfl ?_
  refine tv_iload_n C dk_X8_addBox_5 rfl ?_
  refine tv_iload_n C dk_X8_addBox_6 rfl ?_
  refine tv_cV1 C dk_X8_addBox_7 ml_RX8_71 yk_X6_refusalOfBox yi_X6_refusalOfBox (m_X6_refusalOfBox _ M tvSBn_1 x1 x2 x3) (tvSB_sh tvSBn_1 0 (by decide)).2 (tvSB_sh tvSBn_1 0 (by decide)).1 rfl rfl rfl (Nat.le_of_ble_eq_true rfl) (Nat.le_of_ble_eq_true rfl) (Nat.le_of_ble_eq_true rfl) (Nat.le_of_ble_eq_true rfl) (Nat.le_of_ble_eq_true rfl) ?_
  refine tv_cSx C dk_X8_addBox_10 ml_RX8_54 yk_X8_refuse yi_X8_refuse (m_X8_refuse _ M (f_X6_refusalOfBox M 1 x1 x2 x3)) rfl rfl (Nat.le_of_ble_eq_true rfl) (Nat.le_of_ble_eq_true rfl) (Nat.le_of_ble_eq_true rfl) (Nat.le_of_ble_eq_true rfl) (Nat.le_of_ble_eq_true rfl) rfl rfl rfl (fun _ h1e => tv_out C hQ (by rw [f_X8_addBox, if_neg (tv_sn h1e)]; rw [h1e]; rfl) (by rw [f_X8_addBox, if_neg (tv_sn h1e)])) (fun h1 => ?_)
  refine tv_aload_n C dk_X8_addBox_13 rfl ?_
  refine tv_getR (r := 61) C dk_X8_addBox_14 fl_RX8_25 (Nat.le_of_ble_eq_true rfl) rfl rfl (fun _ _ _ _ => rfl) ?_
  refine tv_aload_n C dk_X8_addBox_17 rfl ?_
  refine tv_getR (r := 1) C dk_X8_addBox_18 fl_RX8_12 (Nat.le_of_ble_eq_true rfl) rfl rfl (fun _ _ _ _ => rfl) ?_
  refine tv_cV0 C dk_X8_addBox_21 ml_RX8_58 yk_X1_keep yi_X1_keep (m_X1_keep _ M) (Nat.le_of_ble_eq_true rfl) rfl rfl rfl rfl (Nat.le_of_ble_eq_true rfl) (Nat.le_of_ble_eq_true rfl) (Nat.le_of_ble_eq_true rfl) (Nat.le_of_ble_eq_true rfl) (Nat.le_of_ble_eq_true rfl) ?_
  refine tv_aload_n C dk_X8_addBox_24 rfl ?_
  refine tv_getR (r := 1) C dk_X8_addBox_25 fl_RX8_12 (Nat.le_of_ble_eq_true rfl) rfl rfl (fun _ _ _ _ => rfl) ?_
  refine tv_getR (r := (1 + 6)) C dk_X8_addBox_28 fl_RX8_75 (tvSB_sh tvSBn_1 0 (by decide)).2 (tvSB_sh tvSBn_1 0 (by decide)).1 (tvSB_rho tvSBn_1 (0, 2, 6) (by decide)) (fun _ _ _ _ => rfl) ?_
  refine tv_iload_n C dk_X8_addBox_31 rfl ?_
  refine tv_iload_n C dk_X8_addBox_32 rfl ?_
  refine tv_iload_n C dk_X8_addBox_33 rfl ?_
  refine tv_cV1 C dk_X8_addBox_34 ml_RX8_79 yk_X0_add yi_X0_add (m_X0_add _ (f_X1_keep M) tvSBn_1 x1 x2 x3) (tvSB_sh tvSBn_1 6 (by decide)).2 (tvSB_sh tvSBn_1 6 (by decide)).1 rfl rfl rfl (Nat.le_of_ble_eq_true rfl) (Nat.le_of_ble_eq_true rfl) (Nat.le_of_ble_eq_true rfl) (Nat.le_of_ble_eq_true rfl) (Nat.le_of_ble_eq_true rfl) ?_
  exact tv_iret C hQ dk_X8_addBox_37 rfl (by rw [f_X8_addBox, if_pos h1]; rfl) (by rw [f_X8_addBox, if_pos h1])
/-- TideVault.setTide(II)I -/
def f_X8_setTide (M : tvM) (x1 : Int32) (x2 : Int32) : Option String × Int32 × tvM := (if (f_X8_refuse M (f_X6_refusalOfTide M 1 x1 x2)).1 = none then (none, (f_X7_become (f_X1_keep M) 1 x1 x2).1, (f_X7_become (f_X1_keep M) 1 x1 x2).2) else ((f_X8_refuse M (f_X6_refusalOfTide M 1 x1 x2)).1, 0, M))
theorem m_X8_setTide (G : tvG) (M : tvM) (x1 : Int32) (x2 : Int32) : tvRun G yX8_setTide cX8_setTide 3 (some .int) 7 1 6 tvP0 tvP0 [.ref (G.2.1 + 0), .int x1, .int x2] M (tvOx (some (.int (f_X8_setTide M x1 x2).2.1)) (f_X8_setTide M x1 x2).1) ((f_X8_setTide M x1 x2).2.2) := by
  refine tvRun.of yk_X8_setTide rfl [some (.ref (G.2.1 + 0)), some (.int x1), some (.int x2)] rfl (Nat.le_of_ble_eq_true rfl) ?_
  intro E hG C hQ; subst hG
  refine tv_aload_n C dk_X8_setTide_0 rfl ?_
  refine tv_getR (r := 1) C dk_X8_setTide_1 fl_RX8_12 (Nat.le_of_ble_eq_true rfl) rfl rfl (fun _ _ _ _ => rfl) ?_
  refine tv_iload_n C dk_X8_setTide_4 rfl ?_
  refine tv_iload_n C dk_X8_setTide_5 rfl ?_
  refine tv_cV1 C dk_X8_setTide_6 ml_RX8_83 yk_X6_refusalOfTide yi_X6_refusalOfTide (m_X6_refusalOfTide _ M tvSBn_1 x1 x2) (tvSB_sh tvSBn_1 0 (by decide)).2 (tvSB_sh tvSBn_1 0 (by decide)).1 rfl rfl rfl (Nat.le_of_ble_eq_true rfl) (Nat.le_of_ble_eq_true rfl) (Nat.le_of_ble_eq_true rfl) (Nat.le_of_ble_eq_true rfl) (Nat.le_of_ble_eq_true rfl) ?_
  refine tv_cSx C dk_X8_setTide_9 ml_RX8_54 yk_X8_refuse yi_X8_refuse (m_X8_refuse _ M (f_X6_refusalOfTide M 1 x1 x2)) rfl rfl (Nat.le_of_ble_eq_true rfl) (Nat.le_of_ble_eq_true rfl) (Nat.le_of_ble_eq_true rfl) (Nat.le_of_ble_eq_true rfl) (Nat.le_of_ble_eq_true rfl) rfl rfl rfl (fun _ h1e => tv_out C hQ (by rw [f_X8_setTide, if_neg (tv_sn h1e)]; rw [h1e]; rfl) (by rw [f_X8_setTide, if_neg (tv_sn h1e)])) (fun h1 => ?_)
  refine tv_aload_n C dk_X8_setTide_12 rfl ?_
  refine tv_getR (r := 61) C dk_X8_setTide_13 fl_RX8_25 (Nat.le_of_ble_eq_true rfl) rfl rfl (fun _ _ _ _ => rfl) ?_
  refine tv_aload_n C dk_X8_setTide_16 rfl ?_
  refine tv_getR (r := 1) C dk_X8_setTide_17 fl_RX8_12 (Nat.le_of_ble_eq_true rfl) rfl rfl (fun _ _ _ _ => rfl) ?_
  refine tv_cV0 C dk_X8_setTide_20 ml_RX8_58 yk_X1_keep yi_X1_keep (m_X1_keep _ M) (Nat.le_of_ble_eq_true rfl) rfl rfl rfl rfl (Nat.le_of_ble_eq_true rfl) (Nat.le_of_ble_eq_true rfl) (Nat.le_of_ble_eq_true rfl) (Nat.le_of_ble_eq_true rfl) (Nat.le_of_ble_eq_true rfl) ?_
  refine tv_aload_n C dk_X8_setTide_23 rfl ?_
  refine tv_getR (r := 1) C dk_X8_setTide_24 fl_RX8_12 (Nat.le_of_ble_eq_true rfl) rfl rfl (fun _ _ _ _ => rfl) ?_
  refine tv_getR (r := (1 + 1)) C dk_X8_setTide_27 fl_RX8_87 (tvSB_sh tvSBn_1 0 (by decide)).2 (tvSB_sh tvSBn_1 0 (by decide)).1 (tvSB_rho tvSBn_1 (0, 0, 1) (by decide)) (fun _ _ _ _ => rfl) ?_
  refine tv_iload_n C dk_X8_setTide_30 rfl ?_
  refine tv_iload_n C dk_X8_setTide_31 rfl ?_
  refine tv_cV1 C dk_X8_setTide_32 ml_RX8_91 yk_X7_become yi_X7_become (m_X7_become _ (f_X1_keep M) tvSBn_1 x1 x2) (tvSB_sh tvSBn_1 1 (by decide)).2 (tvSB_sh tvSBn_1 1 (by decide)).1 rfl rfl rfl (Nat.le_of_ble_eq_true rfl) (Nat.le_of_ble_eq_true rfl) (Nat.le_of_ble_eq_true rfl) (Nat.le_of_ble_eq_true rfl) (Nat.le_of_ble_eq_true rfl) ?_
  exact tv_iret C hQ dk_X8_setTide_35 rfl (by rw [f_X8_setTide, if_pos h1]; rfl) (by rw [f_X8_setTide, if_pos h1])
/-- TideVault.turnKey(III)C -/
def f_X8_turnKey (M : tvM) (x1 : Int32) (x2 : Int32) (x3 : Int32) : Option String × Int32 × tvM := (if (f_X8_hearCode M (f_X6_refusalOfTurn M 1 x1 x2 x3) x2).1 = none then (none, (f_X6_turn ((f_X8_hearCode M (f_X6_refusalOfTurn M 1 x1 x2 x3) x2).2) 1 x1 x2).1, (f_X6_turn ((f_X8_hearCode M (f_X6_refusalOfTurn M 1 x1 x2 x3) x2).2) 1 x1 x2).2) else ((f_X8_hearCode M (f_X6_refusalOfTurn M 1 x1 x2 x3) x2).1, 0, (f_X8_hearCode M (f_X6_refusalOfTurn M 1 x1 x2 x3) x2).2))
theorem m_X8_turnKey (G : tvG) (M : tvM) (x1 : Int32) (x2 : Int32) (x3 : Int32) : tvRun G yX8_turnKey cX8_turnKey 4 (some .char) 8 1 6 tvP0 tvP0 [.ref (G.2.1 + 0), .int x1, .int x2, .int x3] M (tvOx (some (.int (f_X8_turnKey M x1 x2 x3).2.1)) (f_X8_turnKey M x1 x2 x3).1) ((f_X8_turnKey M x1 x2 x3).2.2) := by
  refine tvRun.of yk_X8_turnKey rfl [some (.ref (G.2.1 + 0)), some (.int x1), some (.int x2), some (.int x3)] rfl (Nat.le_of_ble_eq_true rfl) ?_
  intro E hG C hQ; subst hG
  refine tv_aload_n C dk_X8_turnKey_0 rfl ?_
  refine tv_aload_n C dk_X8_turnKey_1 rfl ?_
  refine tv_getR (r := 1) C dk_X8_turnKey_2 fl_RX8_12 (Nat.le_of_ble_eq_true rfl) rfl rfl (fun _ _ _ _ => rfl) ?_
  refine tv_iload_n C dk_X8_turnKey_5 rfl ?_
  refine tv_iload_n C dk_X8_turnKey_6 rfl ?_
  refine tv_iload_n C dk_X8_turnKey_7 rfl ?_
  refine tv_cV1 C dk_X8_turnKey_8 ml_RX8_96 yk_X6_refusalOfTurn yi_X6_refusalOfTurn (m_X6_refusalOfTurn _ M tvSBn_1 x1 x2 x3) (tvSB_sh tvSBn_1 0 (by decide)).2 (tvSB_sh tvSBn_1 0 (by decide)).1 rfl rfl rfl (Nat.le_of_ble_eq_true rfl) (Nat.le_of_ble_eq_true rfl) (Nat.le_of_ble_eq_true rfl) (Nat.le_of_ble_eq_true rfl) (Nat.le_of_ble_eq_true rfl) ?_
  refine tv_iload_n C dk_X8_turnKey_11 rfl ?_
  refine tv_cVx C dk_X8_turnKey_12 ml_RX8_99 yk_X8_hearCode yi_X8_hearCode (m_X8_hearCode _ M (f_X6_refusalOfTurn M 1 x1 x2 x3) x2) (Nat.le_of_ble_eq_true rfl) rfl rfl rfl rfl (Nat.le_of_ble_eq_true rfl) (Nat.le_of_ble_eq_true rfl) (Nat.le_of_ble_eq_true rfl) (Nat.le_of_ble_eq_true rfl) (Nat.le_of_ble_eq_true rfl) rfl rfl rfl (fun _ h1e => tv_out C hQ (by rw [f_X8_turnKey, if_neg (tv_sn h1e)]; rw [h1e]; rfl) (by rw [f_X8_turnKey, if_neg (tv_sn h1e)])) (fun h1 => ?_)
  refine tv_aload_n C dk_X8_turnKey_15 rfl ?_
  refine tv_getR (r := 1) C dk_X8_turnKey_16 fl_RX8_12 (Nat.le_of_ble_eq_true rfl) rfl rfl (fun _ _ _ _ => rfl) ?_
  refine tv_iload_n C dk_X8_turnKey_19 rfl ?_
  refine tv_iload_n C dk_X8_turnKey_20 rfl ?_
  refine tv_cV1 C dk_X8_turnKey_21 ml_RX8_103 yk_X6_turn yi_X6_turn (m_X6_turn _ ((f_X8_hearCode M (f_X6_refusalOfTurn M 1 x1 x2 x3) x2).2) tvSBn_1 x1 x2) (tvSB_sh tvSBn_1 0 (by decide)).2 (tvSB_sh tvSBn_1 0 (by decide)).1 rfl rfl rfl (Nat.le_of_ble_eq_true rfl) (Nat.le_of_ble_eq_true rfl) (Nat.le_of_ble_eq_true rfl) (Nat.le_of_ble_eq_true rfl) (Nat.le_of_ble_eq_true rfl) ?_
  exact tv_iret C hQ dk_X8_turnKey_24 (fz_X6_turn) (by rw [f_X8_turnKey, if_pos h1]; rfl) (by rw [f_X8_turnKey, if_pos h1])
/-- TideVault.changeCode(III)I -/
def f_X8_changeCode (M : tvM) (x1 : Int32) (x2 : Int32) (x3 : Int32) : Option String × Int32 × tvM := (if (f_X8_hearCode M (f_X6_refusalOfCode M 1 x1 x2 x3) x1).1 = none then (none, (f_X6_recode ((f_X8_hearCode M (f_X6_refusalOfCode M 1 x1 x2 x3) x1).2) 1 x1 x3).1, (f_X6_recode ((f_X8_hearCode M (f_X6_refusalOfCode M 1 x1 x2 x3) x1).2) 1 x1 x3).2) else ((f_X8_hearCode M (f_X6_refusalOfCode M 1 x1 x2 x3) x1).1, 0, (f_X8_hearCode M (f_X6_refusalOfCode M 1 x1 x2 x3) x1).2))
theorem m_X8_changeCode (G : tvG) (M : tvM) (x1 : Int32) (x2 : Int32) (x3 : Int32) : tvRun G yX8_changeCode cX8_changeCode 4 (some .int) 8 1 6 tvP0 tvP0 [.ref (G.2.1 + 0), .int x1, .int x2, .int x3] M (tvOx (some (.int (f_X8_changeCode M x1 x2 x3).2.1)) (f_X8_changeCode M x1 x2 x3).1) ((f_X8_changeCode M x1 x2 x3).2.2) := by
  refine tvRun.of yk_X8_changeCode rfl [some (.ref (G.2.1 + 0)), some (.int x1), some (.int x2), some (.int x3)] rfl (Nat.le_of_ble_eq_true rfl) ?_
  intro E hG C hQ; subst hG
  refine tv_aload_n C dk_X8_changeCode_0 rfl ?_
  refine tv_aload_n C dk_X8_changeCode_1 rfl ?_
  refine tv_getR (r := 1) C dk_X8_changeCode_2 fl_RX8_12 (Nat.le_of_ble_eq_true rfl) rfl rfl (fun _ _ _ _ => rfl) ?_
  refine tv_iload_n C dk_X8_changeCode_5 rfl ?_
  refine tv_iload_n C dk_X8_changeCode_6 rfl ?_
  refine tv_iload_n C dk_X8_changeCode_7 rfl ?_
  refine tv_cV1 C dk_X8_changeCode_8 ml_RX8_107 yk_X6_refusalOfCode yi_X6_refusalOfCode (m_X6_refusalOfCode _ M tvSBn_1 x1 x2 x3) (tvSB_sh tvSBn_1 0 (by decide)).2 (tvSB_sh tvSBn_1 0 (by decide)).1 rfl rfl rfl (Nat.le_of_ble_eq_true rfl) (Nat.le_of_ble_eq_true rfl) (Nat.le_of_ble_eq_true rfl) (Nat.le_of_ble_eq_true rfl) (Nat.le_of_ble_eq_true rfl) ?_
  refine tv_iload_n C dk_X8_changeCode_11 rfl ?_
  refine tv_cVx C dk_X8_changeCode_12 ml_RX8_99 yk_X8_hearCode yi_X8_hearCode (m_X8_hearCode _ M (f_X6_refusalOfCode M 1 x1 x2 x3) x1) (Nat.le_of_ble_eq_true rfl) rfl rfl rfl rfl (Nat.le_of_ble_eq_true rfl) (Nat.le_of_ble_eq_true rfl) (Nat.le_of_ble_eq_true rfl) (Nat.le_of_ble_eq_true rfl) (Nat.le_of_ble_eq_true rfl) rfl rfl rfl (fun _ h1e => tv_out C hQ (by rw [f_X8_changeCode, if_neg (tv_sn h1e)]; rw [h1e]; rfl) (by rw [f_X8_changeCode, if_neg (tv_sn h1e)])) (fun h1 => ?_)
  refine tv_aload_n C dk_X8_changeCode_15 rfl ?_
  refine tv_getR (r := 1) C dk_X8_changeCode_16 fl_RX8_12 (Nat.le_of_ble_eq_true rfl) rfl rfl (fun _ _ _ _ => rfl) ?_
  refine tv_iload_n C dk_X8_changeCode_19 rfl ?_
  refine tv_iload_n C dk_X8_changeCode_20 rfl ?_
  refine tv_cV1 C dk_X8_changeCode_21 ml_RX8_110 yk_X6_recode yi_X6_recode (m_X6_recode _ ((f_X8_hearCode M (f_X6_refusalOfCode M 1 x1 x2 x3) x1).2) tvSBn_1 x1 x3) (tvSB_sh tvSBn_1 0 (by decide)).2 (tvSB_sh tvSBn_1 0 (by decide)).1 rfl rfl rfl (Nat.le_of_ble_eq_true rfl) (Nat.le_of_ble_eq_true rfl) (Nat.le_of_ble_eq_true rfl) (Nat.le_of_ble_eq_true rfl) (Nat.le_of_ble_eq_true rfl) ?_
  exact tv_iret C hQ dk_X8_changeCode_24 rfl (by rw [f_X8_changeCode, if_pos h1]; rfl) (by rw [f_X8_changeCode, if_pos h1])
/-- TideVault.deposit(II)I -/
def f_X8_deposit (M : tvM) (x1 : Int32) (x2 : Int32) : Option String × Int32 × tvM := (if (f_X8_refuse M (f_X6_refusalOfPut M 1 x1 x2)).1 = none then (none, (f_X6_put (f_X1_keep M) 1 x1 x2).1, (f_X6_put (f_X1_keep M) 1 x1 x2).2) else ((f_X8_refuse M (f_X6_refusalOfPut M 1 x1 x2)).1, 0, M))
theorem m_X8_deposit (G : tvG) (M : tvM) (x1 : Int32) (x2 : Int32) : tvRun G yX8_deposit cX8_deposit 3 (some .int) 7 1 6 tvP0 tvP0 [.ref (G.2.1 + 0), .int x1, .int x2] M (tvOx (some (.int (f_X8_deposit M x1 x2).2.1)) (f_X8_deposit M x1 x2).1) ((f_X8_deposit M x1 x2).2.2) := by
  refine tvRun.of yk_X8_deposit rfl [some (.ref (G.2.1 + 0)), some (.int x1), some (.int x2)] rfl (Nat.le_of_ble_eq_true rfl) ?_
  intro E hG C hQ; subst hG
  refine tv_aload_n C dk_X8_deposit_0 rfl ?_
  refine tv_getR (r := 1) C dk_X8_deposit_1 fl_RX8_12 (Nat.le_of_ble_eq_true rfl) rfl rfl (fun _ _ _ _ => rfl) ?_
  refine tv_iload_n C dk_X8_deposit_4 rfl ?_
  refine tv_iload_n C dk_X8_deposit_5 rfl ?_
  refine tv_cV1 C dk_X8_deposit_6 ml_RX8_113 yk_X6_refusalOfPut yi_X6_refusalOfPut (m_X6_refusalOfPut _ M tvSBn_1 x1 x2) (tvSB_sh tvSBn_1 0 (by decide)).2 (tvSB_sh tvSBn_1 0 (by decide)).1 rfl rfl rfl (Nat.le_of_ble_eq_true rfl) (Nat.le_of_ble_eq_true rfl) (Nat.le_of_ble_eq_true rfl) (Nat.le_of_ble_eq_true rfl) (Nat.le_of_ble_eq_true rfl) ?_
  refine tv_cSx C dk_X8_deposit_9 ml_RX8_54 yk_X8_refuse yi_X8_refuse (m_X8_refuse _ M (f_X6_refusalOfPut M 1 x1 x2)) rfl rfl (Nat.le_of_ble_eq_true rfl) (Nat.le_of_ble_eq_true rfl) (Nat.le_of_ble_eq_true rfl) (Nat.le_of_ble_eq_true rfl) (Nat.le_of_ble_eq_true rfl) rfl rfl rfl (fun _ h1e => tv_out C hQ (by rw [f_X8_deposit, if_neg (tv_sn h1e)]; rw [h1e]; rfl) (by rw [f_X8_deposit, if_neg (tv_sn h1e)])) (fun h1 => ?_)
  refine tv_aload_n C dk_X8_deposit_12 rfl ?_
  refine tv_getR (r := 61) C dk_X8_deposit_13 fl_RX8_25 (Nat.le_of_ble_eq_true rfl) rfl rfl (fun _ _ _ _ => rfl) ?_
  refine tv_aload_n C dk_X8_deposit_16 rfl ?_
  refine tv_getR (r := 1) C dk_X8_deposit_17 fl_RX8_12 (Nat.le_of_ble_eq_true rfl) rfl rfl (fun _ _ _ _ => rfl) ?_
  refine tv_cV0 C dk_X8_deposit_20 ml_RX8_58 yk_X1_keep yi_X1_keep (m_X1_keep _ M) (Nat.le_of_ble_eq_true rfl) rfl rfl rfl rfl (Nat.le_of_ble_eq_true rfl) (Nat.le_of_ble_eq_true rfl) (Nat.le_of_ble_eq_true rfl) (Nat.le_of_ble_eq_true rfl) (Nat.le_of_ble_eq_true rfl) ?_
  refine tv_aload_n C dk_X8_deposit_23 rfl ?_
  refine tv_getR (r := 1) C dk_X8_deposit_24 fl_RX8_12 (Nat.le_of_ble_eq_true rfl) rfl rfl (fun _ _ _ _ => rfl) ?_
  refine tv_iload_n C dk_X8_deposit_27 rfl ?_
  refine tv_iload_n C dk_X8_deposit_28 rfl ?_
  refine tv_cV1 C dk_X8_deposit_29 ml_RX8_116 yk_X6_put yi_X6_put (m_X6_put _ (f_X1_keep M) tvSBn_1 x1 x2) (tvSB_sh tvSBn_1 0 (by decide)).2 (tvSB_sh tvSBn_1 0 (by decide)).1 rfl rfl rfl (Nat.le_of_ble_eq_true rfl) (Nat.le_of_ble_eq_true rfl) (Nat.le_of_ble_eq_true rfl) (Nat.le_of_ble_eq_true rfl) (Nat.le_of_ble_eq_true rfl) ?_
  exact tv_iret C hQ dk_X8_deposit_32 rfl (by rw [f_X8_deposit, if_pos h1]; rfl) (by rw [f_X8_deposit, if_pos h1])
/-- TideVault.withdraw(I)I -/
def f_X8_withdraw (M : tvM) (x1 : Int32) : Option String × Int32 × tvM := (if (f_X8_refuse M (f_X6_refusalOfTake M 1 x1)).1 = none then (none, (f_X6_take (f_X1_keep M) 1 x1).1, (f_X6_take (f_X1_keep M) 1 x1).2) else ((f_X8_refuse M (f_X6_refusalOfTake M 1 x1)).1, 0, M))
theorem m_X8_withdraw (G : tvG) (M : tvM) (x1 : Int32) : tvRun G yX8_withdraw cX8_withdraw 2 (some .int) 7 1 6 tvP0 tvP0 [.ref (G.2.1 + 0), .int x1] M (tvOx (some (.int (f_X8_withdraw M x1).2.1)) (f_X8_withdraw M x1).1) ((f_X8_withdraw M x1).2.2) := by
  refine tvRun.of yk_X8_withdraw rfl [some (.ref (G.2.1 + 0)), some (.int x1)] rfl (Nat.le_of_ble_eq_true rfl) ?_
  intro E hG C hQ; subst hG
  refine tv_aload_n C dk_X8_withdraw_0 rfl ?_
  refine tv_getR (r := 1) C dk_X8_withdraw_1 fl_RX8_12 (Nat.le_of_ble_eq_true rfl) rfl rfl (fun _ _ _ _ => rfl) ?_
  refine tv_iload_n C dk_X8_withdraw_4 rfl ?_
  refine tv_cV1 C dk_X8_withdraw_5 ml_RX8_119 yk_X6_refusalOfTake yi_X6_refusalOfTake (m_X6_refusalOfTake _ M tvSBn_1 x1) (tvSB_sh tvSBn_1 0 (by decide)).2 (tvSB_sh tvSBn_1 0 (by decide)).1 rfl rfl rfl (Nat.le_of_ble_eq_true rfl) (Nat.le_of_ble_eq_true rfl) (Nat.le_of_ble_eq_true rfl) (Nat.le_of_ble_eq_true rfl) (Nat.le_of_ble_eq_true rfl) ?_
  refine tv_cSx C dk_X8_withdraw_8 ml_RX8_54 yk_X8_refuse yi_X8_refuse (m_X8_refuse _ M (f_X6_refusalOfTake M 1 x1)) rfl rfl (Nat.le_of_ble_eq_true rfl) (Nat.le_of_ble_eq_true rfl) (Nat.le_of_ble_eq_true rfl) (Nat.le_of_ble_eq_true rfl) (Nat.le_of_ble_eq_true rfl) rfl rfl rfl (fun _ h1e => tv_out C hQ (by rw [f_X8_withdraw, if_neg (tv_sn h1e)]; rw [h1e]; rfl) (by rw [f_X8_withdraw, if_neg (tv_sn h1e)])) (fun h1 => ?_)
  refine tv_aload_n C dk_X8_withdraw_11 rfl ?_
  refine tv_getR (r := 61) C dk_X8_withdraw_12 fl_RX8_25 (Nat.le_of_ble_eq_true rfl) rfl rfl (fun _ _ _ _ => rfl) ?_
  refine tv_aload_n C dk_X8_withdraw_15 rfl ?_
  refine tv_getR (r := 1) C dk_X8_withdraw_16 fl_RX8_12 (Nat.le_of_ble_eq_true rfl) rfl rfl (fun _ _ _ _ => rfl) ?_
  refine tv_cV0 C dk_X8_withdraw_19 ml_RX8_58 yk_X1_keep yi_X1_keep (m_X1_keep _ M) (Nat.le_of_ble_eq_true rfl) rfl rfl rfl rfl (Nat.le_of_ble_eq_true rfl) (Nat.le_of_ble_eq_true rfl) (Nat.le_of_ble_eq_true rfl) (Nat.le_of_ble_eq_true rfl) (Nat.le_of_ble_eq_true rfl) ?_
  refine tv_aload_n C dk_X8_withdraw_22 rfl ?_
  refine tv_getR (r := 1) C dk_X8_withdraw_23 fl_RX8_12 (Nat.le_of_ble_eq_true rfl) rfl rfl (fun _ _ _ _ => rfl) ?_
  refine tv_iload_n C dk_X8_withdraw_26 rfl ?_
  refine tv_cV1 C dk_X8_withdraw_27 ml_RX8_122 yk_X6_take yi_X6_take (m_X6_take _ (f_X1_keep M) tvSBn_1 x1) (tvSB_sh tvSBn_1 0 (by decide)).2 (tvSB_sh tvSBn_1 0 (by decide)).1 rfl rfl rfl (Nat.le_of_ble_eq_true rfl) (Nat.le_of_ble_eq_true rfl) (Nat.le_of_ble_eq_true rfl) (Nat.le_of_ble_eq_true rfl) (Nat.le_of_ble_eq_true rfl) ?_
  exact tv_iret C hQ dk_X8_withdraw_30 rfl (by rw [f_X8_withdraw, if_pos h1]; rfl) (by rw [f_X8_withdraw, if_pos h1])
/-- TideVault.close(I)I -/
def f_X8_close (M : tvM) (x1 : Int32) : Option String × Int32 × tvM := (if (f_X8_refuse M (f_X6_refusalOfClose M 1 x1)).1 = none then (none, (f_X6_shut (f_X1_keep M) 1 x1).1, (f_X6_shut (f_X1_keep M) 1 x1).2) else ((f_X8_refuse M (f_X6_refusalOfClose M 1 x1)).1, 0, M))
theorem m_X8_close (G : tvG) (M : tvM) (x1 : Int32) : tvRun G yX8_close cX8_close 2 (some .int) 7 1 6 tvP0 tvP0 [.ref (G.2.1 + 0), .int x1] M (tvOx (some (.int (f_X8_close M x1).2.1)) (f_X8_close M x1).1) ((f_X8_close M x1).2.2) := by
  refine tvRun.of yk_X8_close rfl [some (.ref (G.2.1 + 0)), some (.int x1)] rfl (Nat.le_of_ble_eq_true rfl) ?_
  intro E hG C hQ; subst hG
  refine tv_aload_n C dk_X8_close_0 rfl ?_
  refine tv_getR (r := 1) C dk_X8_close_1 fl_RX8_12 (Nat.le_of_ble_eq_true rfl) rfl rfl (fun _ _ _ _ => rfl) ?_
  refine tv_iload_n C dk_X8_close_4 rfl ?_
  refine tv_cV1 C dk_X8_close_5 ml_RX8_125 yk_X6_refusalOfClose yi_X6_refusalOfClose (m_X6_refusalOfClose _ M tvSBn_1 x1) (tvSB_sh tvSBn_1 0 (by decide)).2 (tvSB_sh tvSBn_1 0 (by decide)).1 rfl rfl rfl (Nat.le_of_ble_eq_true rfl) (Nat.le_of_ble_eq_true rfl) (Nat.le_of_ble_eq_true rfl) (Nat.le_of_ble_eq_true rfl) (Nat.le_of_ble_eq_true rfl) ?_
  refine tv_cSx C dk_X8_close_8 ml_RX8_54 yk_X8_refuse yi_X8_refuse (m_X8_refuse _ M (f_X6_refusalOfClose M 1 x1)) rfl rfl (Nat.le_of_ble_eq_true rfl) (Nat.le_of_ble_eq_true rfl) (Nat.le_of_ble_eq_true rfl) (Nat.le_of_ble_eq_true rfl) (Nat.le_of_ble_eq_true rfl) rfl rfl rfl (fun _ h1e => tv_out C hQ (by rw [f_X8_close, if_neg (tv_sn h1e)]; rw [h1e]; rfl) (by rw [f_X8_close, if_neg (tv_sn h1e)])) (fun h1 => ?_)
  refine tv_aload_n C dk_X8_close_11 rfl ?_
  refine tv_getR (r := 61) C dk_X8_close_12 fl_RX8_25 (Nat.le_of_ble_eq_true rfl) rfl rfl (fun _ _ _ _ => rfl) ?_
  refine tv_aload_n C dk_X8_close_15 rfl ?_
  refine tv_getR (r := 1) C dk_X8_close_16 fl_RX8_12 (Nat.le_of_ble_eq_true rfl) rfl rfl (fun _ _ _ _ => rfl) ?_
  refine tv_cV0 C dk_X8_close_19 ml_RX8_58 yk_X1_keep yi_X1_keep (m_X1_keep _ M) (Nat.le_of_ble_eq_true rfl) rfl rfl rfl rfl (Nat.le_of_ble_eq_true rfl) (Nat.le_of_ble_eq_true rfl) (Nat.le_of_ble_eq_true rfl) (Nat.le_of_ble_eq_true rfl) (Nat.le_of_ble_eq_true rfl) ?_
  refine tv_aload_n C dk_X8_close_22 rfl ?_
  refine tv_getR (r := 1) C dk_X8_close_23 fl_RX8_12 (Nat.le_of_ble_eq_true rfl) rfl rfl (fun _ _ _ _ => rfl) ?_
  refine tv_iload_n C dk_X8_close_26 rfl ?_
  refine tv_cV1 C dk_X8_close_27 ml_RX8_128 yk_X6_shut yi_X6_shut (m_X6_shut _ (f_X1_keep M) tvSBn_1 x1) (tvSB_sh tvSBn_1 0 (by decide)).2 (tvSB_sh tvSBn_1 0 (by decide)).1 rfl rfl rfl (Nat.le_of_ble_eq_true rfl) (Nat.le_of_ble_eq_true rfl) (Nat.le_of_ble_eq_true rfl) (Nat.le_of_ble_eq_true rfl) (Nat.le_of_ble_eq_true rfl) ?_
  exact tv_iret C hQ dk_X8_close_30 rfl (by rw [f_X8_close, if_pos h1]; rfl) (by rw [f_X8_close, if_pos h1])
/-- TideVault.pass(I)I -/
def f_X8_pass (M : tvM) (x1 : Int32) : Option String × Int32 × tvM := (if (f_X8_refuse M (f_X6_refusalOfWait M 1 x1)).1 = none then (none, (f_X6_letPass (f_X1_keep M) 1 x1).1, (f_X6_letPass (f_X1_keep M) 1 x1).2) else ((f_X8_refuse M (f_X6_refusalOfWait M 1 x1)).1, 0, M))
theorem m_X8_pass (G : tvG) (M : tvM) (x1 : Int32) : tvRun G yX8_pass cX8_pass 2 (some .int) 7 1 6 tvP0 tvP0 [.ref (G.2.1 + 0), .int x1] M (tvOx (some (.int (f_X8_pass M x1).2.1)) (f_X8_pass M x1).1) ((f_X8_pass M x1).2.2) := by
  refine tvRun.of yk_X8_pass rfl [some (.ref (G.2.1 + 0)), some (.int x1)] rfl (Nat.le_of_ble_eq_true rfl) ?_
  intro E hG C hQ; subst hG
  refine tv_aload_n C dk_X8_pass_0 rfl ?_
  refine tv_getR (r := 1) C dk_X8_pass_1 fl_RX8_12 (Nat.le_of_ble_eq_true rfl) rfl rfl (fun _ _ _ _ => rfl) ?_
  refine tv_iload_n C dk_X8_pass_4 rfl ?_
  refine tv_cV1 C dk_X8_pass_5 ml_RX8_131 yk_X6_refusalOfWait yi_X6_refusalOfWait (m_X6_refusalOfWait _ M tvSBn_1 x1) (tvSB_sh tvSBn_1 0 (by decide)).2 (tvSB_sh tvSBn_1 0 (by decide)).1 rfl rfl rfl (Nat.le_of_ble_eq_true rfl) (Nat.le_of_ble_eq_true rfl) (Nat.le_of_ble_eq_true rfl) (Nat.le_of_ble_eq_true rfl) (Nat.le_of_ble_eq_true rfl) ?_
  refine tv_cSx C dk_X8_pass_8 ml_RX8_54 yk_X8_refuse yi_X8_refuse (m_X8_refuse _ M (f_X6_refusalOfWait M 1 x1)) rfl rfl (Nat.le_of_ble_eq_true rfl) (Nat.le_of_ble_eq_true rfl) (Nat.le_of_ble_eq_true rfl) (Nat.le_of_ble_eq_true rfl) (Nat.le_of_ble_eq_true rfl) rfl rfl rfl (fun _ h1e => tv_out C hQ (by rw [f_X8_pass, if_neg (tv_sn h1e)]; rw [h1e]; rfl) (by rw [f_X8_pass, if_neg (tv_sn h1e)])) (fun h1 => ?_)
  refine tv_aload_n C dk_X8_pass_11 rfl ?_
  refine tv_getR (r := 61) C dk_X8_pass_12 fl_RX8_25 (Nat.le_of_ble_eq_true rfl) rfl rfl (fun _ _ _ _ => rfl) ?_
  refine tv_aload_n C dk_X8_pass_15 rfl ?_
  refine tv_getR (r := 1) C dk_X8_pass_16 fl_RX8_12 (Nat.le_of_ble_eq_true rfl) rfl rfl (fun _ _ _ _ => rfl) ?_
  refine tv_cV0 C dk_X8_pass_19 ml_RX8_58 yk_X1_keep yi_X1_keep (m_X1_keep _ M) (Nat.le_of_ble_eq_true rfl) rfl rfl rfl rfl (Nat.le_of_ble_eq_true rfl) (Nat.le_of_ble_eq_true rfl) (Nat.le_of_ble_eq_true rfl) (Nat.le_of_ble_eq_true rfl) (Nat.le_of_ble_eq_true rfl) ?_
  refine tv_aload_n C dk_X8_pass_22 rfl ?_
  refine tv_getR (r := 1) C dk_X8_pass_23 fl_RX8_12 (Nat.le_of_ble_eq_true rfl) rfl rfl (fun _ _ _ _ => rfl) ?_
  refine tv_iload_n C dk_X8_pass_26 rfl ?_
  refine tv_cV1 C dk_X8_pass_27 ml_RX8_134 yk_X6_letPass yi_X6_letPass (n_X6_letPass _ (f_X1_keep M) tvSBn_1 x1) (tvSB_sh tvSBn_1 0 (by decide)).2 (tvSB_sh tvSBn_1 0 (by decide)).1 rfl rfl rfl (Nat.le_of_ble_eq_true rfl) (Nat.le_of_ble_eq_true rfl) (Nat.le_of_ble_eq_true rfl) (Nat.le_of_ble_eq_true rfl) (Nat.le_of_ble_eq_true rfl) ?_
  exact tv_iret C hQ dk_X8_pass_30 rfl (by rw [f_X8_pass, if_pos h1]; rfl) (by rw [f_X8_pass, if_pos h1])
/-- TideVault.time()I -/
def f_X8_time (M : tvM) : Int32 := (tgi M 1 4)
theorem m_X8_time (G : tvG) (M : tvM) : tvRun G yX8_time cX8_time 1 (some .int) 1 0 0 tvP0 tvP0 [.ref (G.2.1 + 0)] M (.inl (some (.int (f_X8_time M)))) M := by
  refine tvRun.of yk_X8_time rfl [some (.ref (G.2.1 + 0))] rfl (Nat.le_of_ble_eq_true rfl) ?_
  intro E hG C hQ; subst hG
  refine tv_aload_n C dk_X8_time_0 rfl ?_
  refine tv_getR (r := 1) C dk_X8_time_1 fl_RX8_12 (Nat.le_of_ble_eq_true rfl) rfl rfl (fun _ _ _ _ => rfl) ?_
  refine tv_getI C dk_X8_time_4 fl_RX8_137 (tvSB_sh tvSBn_1 0 (by decide)).2 (tvSB_sh tvSBn_1 0 (by decide)).1 (fun _ _ _ _ => rfl) ?_
  exact tv_iret C hQ dk_X8_time_7 rfl (by rw [f_X8_time]) rfl
/-- TideVault.isLowTide()Z -/
def f_X8_isLowTide (M : tvM) : Int32 := (f_X6_isLow M 1)
theorem m_X8_isLowTide (G : tvG) (M : tvM) : tvRun G yX8_isLowTide cX8_isLowTide 1 (some .boolean) 3 0 0 tvP0 tvP0 [.ref (G.2.1 + 0)] M (.inl (some (.int (f_X8_isLowTide M)))) M := by
  refine tvRun.of yk_X8_isLowTide rfl [some (.ref (G.2.1 + 0))] rfl (Nat.le_of_ble_eq_true rfl) ?_
  intro E hG C hQ; subst hG
  refine tv_aload_n C dk_X8_isLowTide_0 rfl ?_
  refine tv_getR (r := 1) C dk_X8_isLowTide_1 fl_RX8_12 (Nat.le_of_ble_eq_true rfl) rfl rfl (fun _ _ _ _ => rfl) ?_
  refine tv_cV1 C dk_X8_isLowTide_4 ml_RX8_140 yk_X6_isLow yi_X6_isLow (m_X6_isLow _ M tvSBn_1) (tvSB_sh tvSBn_1 0 (by decide)).2 (tvSB_sh tvSBn_1 0 (by decide)).1 rfl rfl rfl (Nat.le_of_ble_eq_true rfl) (Nat.le_of_ble_eq_true rfl) (Nat.le_of_ble_eq_true rfl) (Nat.le_of_ble_eq_true rfl) (Nat.le_of_ble_eq_true rfl) ?_
  exact tv_iret C hQ dk_X8_isLowTide_7 (fz_X6_isLow) (by rw [f_X8_isLowTide]) rfl
theorem fz_X8_isLowTide {M : tvM} : narrow .boolean (.int (f_X8_isLowTide M)) = .int (f_X8_isLowTide M) := by
  unfold f_X8_isLowTide; repeat' split
  all_goals first | rfl | exact (fz_X6_isLow)
/-- TideVault.lowMinutes(I)I -/
def f_X8_lowMinutes (M : tvM) (x1 : Int32) : Option String × Int32 × tvM := (if (f_X8_refuse M (f_X8_refusalOfLowMinutes M x1)).1 = none then (none, (f_X7_lowByFormula M 1 (tgi M 1 4) x1), M) else ((f_X8_refuse M (f_X8_refusalOfLowMinutes M x1)).1, 0, M))
theorem m_X8_lowMinutes (G : tvG) (M : tvM) (x1 : Int32) : tvRun G yX8_lowMinutes cX8_lowMinutes 2 (some .int) 7 1 6 tvP0 tvP0 [.ref (G.2.1 + 0), .int x1] M (tvOx (some (.int (f_X8_lowMinutes M x1).2.1)) (f_X8_lowMinutes M x1).1) ((f_X8_lowMinutes M x1).2.2) := by
  refine tvRun.of yk_X8_lowMinutes rfl [some (.ref (G.2.1 + 0)), some (.int x1)] rfl (Nat.le_of_ble_eq_true rfl) ?_
  intro E hG C hQ; subst hG
  refine tv_aload_n C dk_X8_lowMinutes_0 rfl ?_
  refine tv_iload_n C dk_X8_lowMinutes_1 rfl ?_
  refine tv_cV1 C dk_X8_lowMinutes_2 ml_RX8_144 yk_X8_refusalOfLowMinutes yi_X8_refusalOfLowMinutes (m_X8_refusalOfLowMinutes _ M x1) (Nat.le_of_ble_eq_true rfl) rfl rfl rfl rfl (Nat.le_of_ble_eq_true rfl) (Nat.le_of_ble_eq_true rfl) (Nat.le_of_ble_eq_true rfl) (Nat.le_of_ble_eq_true rfl) (Nat.le_of_ble_eq_true rfl) ?_
  refine tv_cSx C dk_X8_lowMinutes_5 ml_RX8_54 yk_X8_refuse yi_X8_refuse (m_X8_refuse _ M (f_X8_refusalOfLowMinutes M x1)) rfl rfl (Nat.le_of_ble_eq_true rfl) (Nat.le_of_ble_eq_true rfl) (Nat.le_of_ble_eq_true rfl) (Nat.le_of_ble_eq_true rfl) (Nat.le_of_ble_eq_true rfl) rfl rfl rfl (fun _ h1e => tv_out C hQ (by rw [f_X8_lowMinutes, if_neg (tv_sn h1e)]; rw [h1e]; rfl) (by rw [f_X8_lowMinutes, if_neg (tv_sn h1e)])) (fun h1 => ?_)
  refine tv_aload_n C dk_X8_lowMinutes_8 rfl ?_
  refine tv_getR (r := 1) C dk_X8_lowMinutes_9 fl_RX8_12 (Nat.le_of_ble_eq_true rfl) rfl rfl (fun _ _ _ _ => rfl) ?_
  refine tv_getR (r := (1 + 1)) C dk_X8_lowMinutes_12 fl_RX8_87 (tvSB_sh tvSBn_1 0 (by decide)).2 (tvSB_sh tvSBn_1 0 (by decide)).1 (tvSB_rho tvSBn_1 (0, 0, 1) (by decide)) (fun _ _ _ _ => rfl) ?_
  refine tv_aload_n C dk_X8_lowMinutes_15 rfl ?_
  refine tv_getR (r := 1) C dk_X8_lowMinutes_16 fl_RX8_12 (Nat.le_of_ble_eq_true rfl) rfl rfl (fun _ _ _ _ => rfl) ?_
  refine tv_getI C dk_X8_lowMinutes_19 fl_RX8_137 (tvSB_sh tvSBn_1 0 (by decide)).2 (tvSB_sh tvSBn_1 0 (by decide)).1 (fun _ _ _ _ => rfl) ?_
  refine tv_iload_n C dk_X8_lowMinutes_22 rfl ?_
  refine tv_cV1 C dk_X8_lowMinutes_23 ml_RX8_147 yk_X7_lowByFormula yi_X7_lowByFormula (m_X7_lowByFormula _ M tvSBn_1 (tgi M 1 4) x1) (tvSB_sh tvSBn_1 1 (by decide)).2 (tvSB_sh tvSBn_1 1 (by decide)).1 rfl rfl rfl (Nat.le_of_ble_eq_true rfl) (Nat.le_of_ble_eq_true rfl) (Nat.le_of_ble_eq_true rfl) (Nat.le_of_ble_eq_true rfl) (Nat.le_of_ble_eq_true rfl) ?_
  exact tv_iret C hQ dk_X8_lowMinutes_26 rfl (by rw [f_X8_lowMinutes, if_pos h1]; rfl) (by rw [f_X8_lowMinutes, if_pos h1])
/-- TideVault.lowMinutesByCounting(I)I -/
def f_X8_lowMinutesByCounting (M : tvM) (x1 : Int32) : Option String × Int32 × tvM := (if (f_X8_refuse M (f_X8_refusalOfLowMinutes M x1)).1 = none then (none, (f_X7_lowByCounting M 1 (tgi M 1 4) x1), M) else ((f_X8_refuse M (f_X8_refusalOfLowMinutes M x1)).1, 0, M))
theorem m_X8_lowMinutesByCounting (G : tvG) (M : tvM) (x1 : Int32) : tvRun G yX8_lowMinutesByCounting cX8_lowMinutesByCounting 2 (some .int) 7 1 6 tvP0 tvP0 [.ref (G.2.1 + 0), .int x1] M (tvOx (some (.int (f_X8_lowMinutesByCounting M x1).2.1)) (f_X8_lowMinutesByCounting M x1).1) ((f_X8_lowMinutesByCounting M x1).2.2) := by
  refine tvRun.of yk_X8_lowMinutesByCounting rfl [some (.ref (G.2.1 + 0)), some (.int x1)] rfl (Nat.le_of_ble_eq_true rfl) ?_
  intro E hG C hQ; subst hG
  refine tv_aload_n C dk_X8_lowMinutesByCounting_0 rfl ?_
  refine tv_iload_n C dk_X8_lowMinutesByCounting_1 rfl ?_
  refine tv_cV1 C dk_X8_lowMinutesByCounting_2 ml_RX8_144 yk_X8_refusalOfLowMinutes yi_X8_refusalOfLowMinutes (m_X8_refusalOfLowMinutes _ M x1) (Nat.le_of_ble_eq_true rfl) rfl rfl rfl rfl (Nat.le_of_ble_eq_true rfl) (Nat.le_of_ble_eq_true rfl) (Nat.le_of_ble_eq_true rfl) (Nat.le_of_ble_eq_true rfl) (Nat.le_of_ble_eq_true rfl) ?_
  refine tv_cSx C dk_X8_lowMinutesByCounting_5 ml_RX8_54 yk_X8_refuse yi_X8_refuse (m_X8_refuse _ M (f_X8_refusalOfLowMinutes M x1)) rfl rfl (Nat.le_of_ble_eq_true rfl) (Nat.le_of_ble_eq_true rfl) (Nat.le_of_ble_eq_true rfl) (Nat.le_of_ble_eq_true rfl) (Nat.le_of_ble_eq_true rfl) rfl rfl rfl (fun _ h1e => tv_out C hQ (by rw [f_X8_lowMinutesByCounting, if_neg (tv_sn h1e)]; rw [h1e]; rfl) (by rw [f_X8_lowMinutesByCounting, if_neg (tv_sn h1e)])) (fun h1 => ?_)
  refine tv_aload_n C dk_X8_lowMinutesByCounting_8 rfl ?_
  refine tv_getR (r := 1) C dk_X8_lowMinutesByCounting_9 fl_RX8_12 (Nat.le_of_ble_eq_true rfl) rfl rfl (fun _ _ _ _ => rfl) ?_
  refine tv_getR (r := (1 + 1)) C dk_X8_lowMinutesByCounting_12 fl_RX8_87 (tvSB_sh tvSBn_1 0 (by decide)).2 (tvSB_sh tvSBn_1 0 (by decide)).1 (tvSB_rho tvSBn_1 (0, 0, 1) (by decide)) (fun _ _ _ _ => rfl) ?_
  refine tv_aload_n C dk_X8_lowMinutesByCounting_15 rfl ?_
  refine tv_getR (r := 1) C dk_X8_lowMinutesByCounting_16 fl_RX8_12 (Nat.le_of_ble_eq_true rfl) rfl rfl (fun _ _ _ _ => rfl) ?_
  refine tv_getI C dk_X8_lowMinutesByCounting_19 fl_RX8_137 (tvSB_sh tvSBn_1 0 (by decide)).2 (tvSB_sh tvSBn_1 0 (by decide)).1 (fun _ _ _ _ => rfl) ?_
  refine tv_iload_n C dk_X8_lowMinutesByCounting_22 rfl ?_
  refine tv_cV1 C dk_X8_lowMinutesByCounting_23 ml_RX8_150 yk_X7_lowByCounting yi_X7_lowByCounting (n_X7_lowByCounting _ M tvSBn_1 (tgi M 1 4) x1) (tvSB_sh tvSBn_1 1 (by decide)).2 (tvSB_sh tvSBn_1 1 (by decide)).1 rfl rfl rfl (Nat.le_of_ble_eq_true rfl) (Nat.le_of_ble_eq_true rfl) (Nat.le_of_ble_eq_true rfl) (Nat.le_of_ble_eq_true rfl) (Nat.le_of_ble_eq_true rfl) ?_
  exact tv_iret C hQ dk_X8_lowMinutesByCounting_26 rfl (by rw [f_X8_lowMinutesByCounting, if_pos h1]; rfl) (by rw [f_X8_lowMinutesByCounting, if_pos h1])
/-- TideVault.alarm()I -/
def f_X8_alarm (M : tvM) : Int32 := (tgi M 1 5)
theorem m_X8_alarm (G : tvG) (M : tvM) : tvRun G yX8_alarm cX8_alarm 1 (some .int) 1 0 0 tvP0 tvP0 [.ref (G.2.1 + 0)] M (.inl (some (.int (f_X8_alarm M)))) M := by
  refine tvRun.of yk_X8_alarm rfl [some (.ref (G.2.1 + 0))] rfl (Nat.le_of_ble_eq_true rfl) ?_
  intro E hG C hQ; subst hG
  refine tv_aload_n C dk_X8_alarm_0 rfl ?_
  refine tv_getR (r := 1) C dk_X8_alarm_1 fl_RX8_12 (Nat.le_of_ble_eq_true rfl) rfl rfl (fun _ _ _ _ => rfl) ?_
  refine tv_getI C dk_X8_alarm_4 fl_RX8_153 (tvSB_sh tvSBn_1 0 (by decide)).2 (tvSB_sh tvSBn_1 0 (by decide)).1 (fun _ _ _ _ => rfl) ?_
  exact tv_iret C hQ dk_X8_alarm_7 rfl (by rw [f_X8_alarm]) rfl
/-- TideVault.holders()I -/
def f_X8_holders (M : tvM) : Int32 := (tgi M (1 + 2) 0)
theorem m_X8_holders (G : tvG) (M : tvM) : tvRun G yX8_holders cX8_holders 1 (some .int) 1 0 0 tvP0 tvP0 [.ref (G.2.1 + 0)] M (.inl (some (.int (f_X8_holders M)))) M := by
  refine tvRun.of yk_X8_holders rfl [some (.ref (G.2.1 + 0))] rfl (Nat.le_of_ble_eq_true rfl) ?_
  intro E hG C hQ; subst hG
  refine tv_aload_n C dk_X8_holders_0 rfl ?_
  refine tv_getR (r := 1) C dk_X8_holders_1 fl_RX8_12 (Nat.le_of_ble_eq_true rfl) rfl rfl (fun _ _ _ _ => rfl) ?_
  refine tv_getR (r := (1 + 2)) C dk_X8_holders_4 fl_RX8_62 (tvSB_sh tvSBn_1 0 (by decide)).2 (tvSB_sh tvSBn_1 0 (by decide)).1 (tvSB_rho tvSBn_1 (0, 1, 2) (by decide)) (fun _ _ _ _ => rfl) ?_
  refine tv_getI C dk_X8_holders_7 fl_RX8_156 (tvSB_sh tvSBn_1 2 (by decide)).2 (tvSB_sh tvSBn_1 2 (by decide)).1 (fun _ _ _ _ => rfl) ?_
  exact tv_iret C hQ dk_X8_holders_10 rfl (by rw [f_X8_holders]) rfl
/-- TideVault.attempts(I)I -/
def f_X8_attempts (M : tvM) (x1 : Int32) : Option String × Int32 × tvM := (if (f_X8_refuse M (f_X8_refusalOfHolderNumber M x1)).1 = none then (none, (f_X2_attemptsOf M 1 x1), M) else ((f_X8_refuse M (f_X8_refusalOfHolderNumber M x1)).1, 0, M))
theorem m_X8_attempts (G : tvG) (M : tvM) (x1 : Int32) : tvRun G yX8_attempts cX8_attempts 2 (some .int) 7 1 6 tvP0 tvP0 [.ref (G.2.1 + 0), .int x1] M (tvOx (some (.int (f_X8_attempts M x1).2.1)) (f_X8_attempts M x1).1) ((f_X8_attempts M x1).2.2) := by
  refine tvRun.of yk_X8_attempts rfl [some (.ref (G.2.1 + 0)), some (.int x1)] rfl (Nat.le_of_ble_eq_true rfl) ?_
  intro E hG C hQ; subst hG
  refine tv_aload_n C dk_X8_attempts_0 rfl ?_
  refine tv_iload_n C dk_X8_attempts_1 rfl ?_
  refine tv_cV1 C dk_X8_attempts_2 ml_RX8_159 yk_X8_refusalOfHolderNumber yi_X8_refusalOfHolderNumber (m_X8_refusalOfHolderNumber _ M x1) (Nat.le_of_ble_eq_true rfl) rfl rfl rfl rfl (Nat.le_of_ble_eq_true rfl) (Nat.le_of_ble_eq_true rfl) (Nat.le_of_ble_eq_true rfl) (Nat.le_of_ble_eq_true rfl) (Nat.le_of_ble_eq_true rfl) ?_
  refine tv_cSx C dk_X8_attempts_5 ml_RX8_54 yk_X8_refuse yi_X8_refuse (m_X8_refuse _ M (f_X8_refusalOfHolderNumber M x1)) rfl rfl (Nat.le_of_ble_eq_true rfl) (Nat.le_of_ble_eq_true rfl) (Nat.le_of_ble_eq_true rfl) (Nat.le_of_ble_eq_true rfl) (Nat.le_of_ble_eq_true rfl) rfl rfl rfl (fun _ h1e => tv_out C hQ (by rw [f_X8_attempts, if_neg (tv_sn h1e)]; rw [h1e]; rfl) (by rw [f_X8_attempts, if_neg (tv_sn h1e)])) (fun h1 => ?_)
  refine tv_aload_n C dk_X8_attempts_8 rfl ?_
  refine tv_getR (r := 1) C dk_X8_attempts_9 fl_RX8_12 (Nat.le_of_ble_eq_true rfl) rfl rfl (fun _ _ _ _ => rfl) ?_
  refine tv_getR (r := (1 + 2)) C dk_X8_attempts_12 fl_RX8_62 (tvSB_sh tvSBn_1 0 (by decide)).2 (tvSB_sh tvSBn_1 0 (by decide)).1 (tvSB_rho tvSBn_1 (0, 1, 2) (by decide)) (fun _ _ _ _ => rfl) ?_
  refine tv_iload_n C dk_X8_attempts_15 rfl ?_
  refine tv_cV1 C dk_X8_attempts_16 ml_RX8_162 yk_X2_attemptsOf yi_X2_attemptsOf (m_X2_attemptsOf _ M tvSBn_1 x1) (tvSB_sh tvSBn_1 2 (by decide)).2 (tvSB_sh tvSBn_1 2 (by decide)).1 rfl rfl rfl (Nat.le_of_ble_eq_true rfl) (Nat.le_of_ble_eq_true rfl) (Nat.le_of_ble_eq_true rfl) (Nat.le_of_ble_eq_true rfl) (Nat.le_of_ble_eq_true rfl) ?_
  exact tv_iret C hQ dk_X8_attempts_19 rfl (by rw [f_X8_attempts, if_pos h1]; rfl) (by rw [f_X8_attempts, if_pos h1])
/-- TideVault.minutesLocked(I)I -/
def f_X8_minutesLocked (M : tvM) (x1 : Int32) : Option String × Int32 × tvM := (if (f_X8_refuse M (f_X8_refusalOfHolderNumber M x1)).1 = none then (none, (f_X2_lockedFor M 1 x1 (tgi M 1 4)), M) else ((f_X8_refuse M (f_X8_refusalOfHolderNumber M x1)).1, 0, M))
theorem m_X8_minutesLocked (G : tvG) (M : tvM) (x1 : Int32) : tvRun G yX8_minutesLocked cX8_minutesLocked 2 (some .int) 7 1 6 tvP0 tvP0 [.ref (G.2.1 + 0), .int x1] M (tvOx (some (.int (f_X8_minutesLocked M x1).2.1)) (f_X8_minutesLocked M x1).1) ((f_X8_minutesLocked M x1).2.2) := by
  refine tvRun.of yk_X8_minutesLocked rfl [some (.ref (G.2.1 + 0)), some (.int x1)] rfl (Nat.le_of_ble_eq_true rfl) ?_
  intro E hG C hQ; subst hG
  refine tv_aload_n C dk_X8_minutesLocked_0 rfl ?_
  refine tv_iload_n C dk_X8_minutesLocked_1 rfl ?_
  refine tv_cV1 C dk_X8_minutesLocked_2 ml_RX8_159 yk_X8_refusalOfHolderNumber yi_X8_refusalOfHolderNumber (m_X8_refusalOfHolderNumber _ M x1) (Nat.le_of_ble_eq_true rfl) rfl rfl rfl rfl (Nat.le_of_ble_eq_true rfl) (Nat.le_of_ble_eq_true rfl) (Nat.le_of_ble_eq_true rfl) (Nat.le_of_ble_eq_true rfl) (Nat.le_of_ble_eq_true rfl) ?_
  refine tv_cSx C dk_X8_minutesLocked_5 ml_RX8_54 yk_X8_refuse yi_X8_refuse (m_X8_refuse _ M (f_X8_refusalOfHolderNumber M x1)) rfl rfl (Nat.le_of_ble_eq_true rfl) (Nat.le_of_ble_eq_true rfl) (Nat.le_of_ble_eq_true rfl) (Nat.le_of_ble_eq_true rfl) (Nat.le_of_ble_eq_true rfl) rfl rfl rfl (fun _ h1e => tv_out C hQ (by rw [f_X8_minutesLocked, if_neg (tv_sn h1e)]; rw [h1e]; rfl) (by rw [f_X8_minutesLocked, if_neg (tv_sn h1e)])) (fun h1 => ?_)
  refine tv_aload_n C dk_X8_minutesLocked_8 rfl ?_
  refine tv_getR (r := 1) C dk_X8_minutesLocked_9 fl_RX8_12 (Nat.le_of_ble_eq_true rfl) rfl rfl (fun _ _ _ _ => rfl) ?_
  refine tv_getR (r := (1 + 2)) C dk_X8_minutesLocked_12 fl_RX8_62 (tvSB_sh tvSBn_1 0 (by decide)).2 (tvSB_sh tvSBn_1 0 (by decide)).1 (tvSB_rho tvSBn_1 (0, 1, 2) (by decide)) (fun _ _ _ _ => rfl) ?_
  refine tv_iload_n C dk_X8_minutesLocked_15 rfl ?_
  refine tv_aload_n C dk_X8_minutesLocked_16 rfl ?_
  refine tv_getR (r := 1) C dk_X8_minutesLocked_17 fl_RX8_12 (Nat.le_of_ble_eq_true rfl) rfl rfl (fun _ _ _ _ => rfl) ?_
  refine tv_getI C dk_X8_minutesLocked_20 fl_RX8_137 (tvSB_sh tvSBn_1 0 (by decide)).2 (tvSB_sh tvSBn_1 0 (by decide)).1 (fun _ _ _ _ => rfl) ?_
  refine tv_cV1 C dk_X8_minutesLocked_23 ml_RX8_165 yk_X2_lockedFor yi_X2_lockedFor (m_X2_lockedFor _ M tvSBn_1 x1 (tgi M 1 4)) (tvSB_sh tvSBn_1 2 (by decide)).2 (tvSB_sh tvSBn_1 2 (by decide)).1 rfl rfl rfl (Nat.le_of_ble_eq_true rfl) (Nat.le_of_ble_eq_true rfl) (Nat.le_of_ble_eq_true rfl) (Nat.le_of_ble_eq_true rfl) (Nat.le_of_ble_eq_true rfl) ?_
  exact tv_iret C hQ dk_X8_minutesLocked_26 rfl (by rw [f_X8_minutesLocked, if_pos h1]; rfl) (by rw [f_X8_minutesLocked, if_pos h1])
/-- TideVault.boxesOf(I)I -/
def f_X8_boxesOf (M : tvM) (x1 : Int32) : Option String × Int32 × tvM := (if (f_X8_refuse M (f_X8_refusalOfHolderNumber M x1)).1 = none then (none, (f_X0_countOf M 1 x1), M) else ((f_X8_refuse M (f_X8_refusalOfHolderNumber M x1)).1, 0, M))
theorem m_X8_boxesOf (G : tvG) (M : tvM) (x1 : Int32) : tvRun G yX8_boxesOf cX8_boxesOf 2 (some .int) 7 1 6 tvP0 tvP0 [.ref (G.2.1 + 0), .int x1] M (tvOx (some (.int (f_X8_boxesOf M x1).2.1)) (f_X8_boxesOf M x1).1) ((f_X8_boxesOf M x1).2.2) := by
  refine tvRun.of yk_X8_boxesOf rfl [some (.ref (G.2.1 + 0)), some (.int x1)] rfl (Nat.le_of_ble_eq_true rfl) ?_
  intro E hG C hQ; subst hG
  refine tv_aload_n C dk_X8_boxesOf_0 rfl ?_
  refine tv_iload_n C dk_X8_boxesOf_1 rfl ?_
  refine tv_cV1 C dk_X8_boxesOf_2 ml_RX8_159 yk_X8_refusalOfHolderNumber yi_X8_refusalOfHolderNumber (m_X8_refusalOfHolderNumber _ M x1) (Nat.le_of_ble_eq_true rfl) rfl rfl rfl rfl (Nat.le_of_ble_eq_true rfl) (Nat.le_of_ble_eq_true rfl) (Nat.le_of_ble_eq_true rfl) (Nat.le_of_ble_eq_true rfl) (Nat.le_of_ble_eq_true rfl) ?_
  refine tv_cSx C dk_X8_boxesOf_5 ml_RX8_54 yk_X8_refuse yi_X8_refuse (m_X8_refuse _ M (f_X8_refusalOfHolderNumber M x1)) rfl rfl (Nat.le_of_ble_eq_true rfl) (Nat.le_of_ble_eq_true rfl) (Nat.le_of_ble_eq_true rfl) (Nat.le_of_ble_eq_true rfl) (Nat.le_of_ble_eq_true rfl) rfl rfl rfl (fun _ h1e => tv_out C hQ (by rw [f_X8_boxesOf, if_neg (tv_sn h1e)]; rw [h1e]; rfl) (by rw [f_X8_boxesOf, if_neg (tv_sn h1e)])) (fun h1 => ?_)
  refine tv_aload_n C dk_X8_boxesOf_8 rfl ?_
  refine tv_getR (r := 1) C dk_X8_boxesOf_9 fl_RX8_12 (Nat.le_of_ble_eq_true rfl) rfl rfl (fun _ _ _ _ => rfl) ?_
  refine tv_getR (r := (1 + 6)) C dk_X8_boxesOf_12 fl_RX8_75 (tvSB_sh tvSBn_1 0 (by decide)).2 (tvSB_sh tvSBn_1 0 (by decide)).1 (tvSB_rho tvSBn_1 (0, 2, 6) (by decide)) (fun _ _ _ _ => rfl) ?_
  refine tv_iload_n C dk_X8_boxesOf_15 rfl ?_
  refine tv_cV1 C dk_X8_boxesOf_16 ml_RX8_168 yk_X0_countOf yi_X0_countOf (n_X0_countOf _ M tvSBn_1 x1) (tvSB_sh tvSBn_1 6 (by decide)).2 (tvSB_sh tvSBn_1 6 (by decide)).1 rfl rfl rfl (Nat.le_of_ble_eq_true rfl) (Nat.le_of_ble_eq_true rfl) (Nat.le_of_ble_eq_true rfl) (Nat.le_of_ble_eq_true rfl) (Nat.le_of_ble_eq_true rfl) ?_
  exact tv_iret C hQ dk_X8_boxesOf_19 rfl (by rw [f_X8_boxesOf, if_pos h1]; rfl) (by rw [f_X8_boxesOf, if_pos h1])
/-- TideVault.boxes()I -/
def f_X8_boxes (M : tvM) : Int32 := (tgi M (1 + 6) 0)
theorem m_X8_boxes (G : tvG) (M : tvM) : tvRun G yX8_boxes cX8_boxes 1 (some .int) 1 0 0 tvP0 tvP0 [.ref (G.2.1 + 0)] M (.inl (some (.int (f_X8_boxes M)))) M := by
  refine tvRun.of yk_X8_boxes rfl [some (.ref (G.2.1 + 0))] rfl (Nat.le_of_ble_eq_true rfl) ?_
  intro E hG C hQ; subst hG
  refine tv_aload_n C dk_X8_boxes_0 rfl ?_
  refine tv_getR (r := 1) C dk_X8_boxes_1 fl_RX8_12 (Nat.le_of_ble_eq_true rfl) rfl rfl (fun _ _ _ _ => rfl) ?_
  refine tv_getR (r := (1 + 6)) C dk_X8_boxes_4 fl_RX8_75 (tvSB_sh tvSBn_1 0 (by decide)).2 (tvSB_sh tvSBn_1 0 (by decide)).1 (tvSB_rho tvSBn_1 (0, 2, 6) (by decide)) (fun _ _ _ _ => rfl) ?_
  refine tv_getI C dk_X8_boxes_7 fl_RX8_171 (tvSB_sh tvSBn_1 6 (by decide)).2 (tvSB_sh tvSBn_1 6 (by decide)).1 (fun _ _ _ _ => rfl) ?_
  exact tv_iret C hQ dk_X8_boxes_10 rfl (by rw [f_X8_boxes]) rfl
/-- TideVault.otherHolder(II)I -/
def f_X8_otherHolder (M : tvM) (x1 : Int32) (x2 : Int32) : Option String × Int32 × tvM := (if (f_X8_refuse M (f_X8_refusalOfBoxNumber M x1)).1 = none then (if (f_X0_belongsTo M 1 x1 x2) = 0 then ((some "java/lang/IllegalArgumentException"), 0, M) else (none, (f_X0_partnerOf M 1 x1 x2), M)) else ((f_X8_refuse M (f_X8_refusalOfBoxNumber M x1)).1, 0, M))
theorem m_X8_otherHolder (G : tvG) (M : tvM) (x1 : Int32) (x2 : Int32) : tvRun G yX8_otherHolder cX8_otherHolder 3 (some .int) 7 2 12 tvP0 tvP0 [.ref (G.2.1 + 0), .int x1, .int x2] M (tvOx (some (.int (f_X8_otherHolder M x1 x2).2.1)) (f_X8_otherHolder M x1 x2).1) ((f_X8_otherHolder M x1 x2).2.2) := by
  refine tvRun.of yk_X8_otherHolder rfl [some (.ref (G.2.1 + 0)), some (.int x1), some (.int x2)] rfl (Nat.le_of_ble_eq_true rfl) ?_
  intro E hG C hQ; subst hG
  refine tv_aload_n C dk_X8_otherHolder_0 rfl ?_
  refine tv_iload_n C dk_X8_otherHolder_1 rfl ?_
  refine tv_cV1 C dk_X8_otherHolder_2 ml_RX8_172 yk_X8_refusalOfBoxNumber yi_X8_refusalOfBoxNumber (m_X8_refusalOfBoxNumber _ M x1) (Nat.le_of_ble_eq_true rfl) rfl rfl rfl rfl (Nat.le_of_ble_eq_true rfl) (Nat.le_of_ble_eq_true rfl) (Nat.le_of_ble_eq_true rfl) (Nat.le_of_ble_eq_true rfl) (Nat.le_of_ble_eq_true rfl) ?_
  refine tv_cSx C dk_X8_otherHolder_5 ml_RX8_54 yk_X8_refuse yi_X8_refuse (m_X8_refuse _ M (f_X8_refusalOfBoxNumber M x1)) rfl rfl (Nat.le_of_ble_eq_true rfl) (Nat.le_of_ble_eq_true rfl) (Nat.le_of_ble_eq_true rfl) (Nat.le_of_ble_eq_true rfl) (Nat.le_of_ble_eq_true rfl) rfl rfl rfl (fun _ h1e => tv_out C hQ (by rw [f_X8_otherHolder, if_neg (tv_sn h1e)]; rw [h1e]; rfl) (by rw [f_X8_otherHolder, if_neg (tv_sn h1e)])) (fun h1 => ?_)
  refine tv_aload_n C dk_X8_otherHolder_8 rfl ?_
  refine tv_getR (r := 1) C dk_X8_otherHolder_9 fl_RX8_12 (Nat.le_of_ble_eq_true rfl) rfl rfl (fun _ _ _ _ => rfl) ?_
  refine tv_getR (r := (1 + 6)) C dk_X8_otherHolder_12 fl_RX8_75 (tvSB_sh tvSBn_1 0 (by decide)).2 (tvSB_sh tvSBn_1 0 (by decide)).1 (tvSB_rho tvSBn_1 (0, 2, 6) (by decide)) (fun _ _ _ _ => rfl) ?_
  refine tv_iload_n C dk_X8_otherHolder_15 rfl ?_
  refine tv_iload_n C dk_X8_otherHolder_16 rfl ?_
  refine tv_cV1 C dk_X8_otherHolder_17 ml_RX8_175 yk_X0_belongsTo yi_X0_belongsTo (m_X0_belongsTo _ M tvSBn_1 x1 x2) (tvSB_sh tvSBn_1 6 (by decide)).2 (tvSB_sh tvSBn_1 6 (by decide)).1 rfl rfl rfl (Nat.le_of_ble_eq_true rfl) (Nat.le_of_ble_eq_true rfl) (Nat.le_of_ble_eq_true rfl) (Nat.le_of_ble_eq_true rfl) (Nat.le_of_ble_eq_true rfl) ?_
  refine tv_if_ne C dk_X8_otherHolder_20 (fun h2 => ?_) (fun h2 => ?_)
  · refine tv_aload_n C dk_X8_otherHolder_33 rfl ?_
    refine tv_getR (r := 1) C dk_X8_otherHolder_34 fl_RX8_12 (Nat.le_of_ble_eq_true rfl) rfl rfl (fun _ _ _ _ => rfl) ?_
    refine tv_getR (r := (1 + 6)) C dk_X8_otherHolder_37 fl_RX8_75 (tvSB_sh tvSBn_1 0 (by decide)).2 (tvSB_sh tvSBn_1 0 (by decide)).1 (tvSB_rho tvSBn_1 (0, 2, 6) (by decide)) (fun _ _ _ _ => rfl) ?_
    refine tv_iload_n C dk_X8_otherHolder_40 rfl ?_
    refine tv_iload_n C dk_X8_otherHolder_41 rfl ?_
    refine tv_cV1 C dk_X8_otherHolder_42 ml_RX8_186 yk_X0_partnerOf yi_X0_partnerOf (m_X0_partnerOf _ M tvSBn_1 x1 x2) (tvSB_sh tvSBn_1 6 (by decide)).2 (tvSB_sh tvSBn_1 6 (by decide)).1 rfl rfl rfl (Nat.le_of_ble_eq_true rfl) (Nat.le_of_ble_eq_true rfl) (Nat.le_of_ble_eq_true rfl) (Nat.le_of_ble_eq_true rfl) (Nat.le_of_ble_eq_true rfl) ?_
    exact tv_iret C hQ dk_X8_otherHolder_45 rfl (by rw [f_X8_otherHolder, if_pos h1, if_neg h2]; rfl) (by rw [f_X8_otherHolder, if_pos h1, if_neg h2])
  exact tv_throw C tvP0_ex hQ th_RX8_179_181 dk_X8_otherHolder_23 dk_X8_otherHolder_26 dk_X8_otherHolder_27 dk_X8_otherHolder_29 dk_X8_otherHolder_32 (Nat.le_of_ble_eq_true rfl) (Nat.le_of_ble_eq_true rfl) (by rw [f_X8_otherHolder, if_pos h1, if_pos h2]; rfl) (by rw [f_X8_otherHolder, if_pos h1, if_pos h2])
/-- TideVault.status(I)C -/
def f_X8_status (M : tvM) (x1 : Int32) : Option String × Int32 × tvM := (if (f_X8_refuse M (f_X8_refusalOfBoxNumber M x1)).1 = none then (none, (f_X0_statusOf M 1 x1), M) else ((f_X8_refuse M (f_X8_refusalOfBoxNumber M x1)).1, 0, M))
theorem m_X8_status (G : tvG) (M : tvM) (x1 : Int32) : tvRun G yX8_status cX8_status 2 (some .char) 7 1 6 tvP0 tvP0 [.ref (G.2.1 + 0), .int x1] M (tvOx (some (.int (f_X8_status M x1).2.1)) (f_X8_status M x1).1) ((f_X8_status M x1).2.2) := by
  refine tvRun.of yk_X8_status rfl [some (.ref (G.2.1 + 0)), some (.int x1)] rfl (Nat.le_of_ble_eq_true rfl) ?_
  intro E hG C hQ; subst hG
  refine tv_aload_n C dk_X8_status_0 rfl ?_
  refine tv_iload_n C dk_X8_status_1 rfl ?_
  refine tv_cV1 C dk_X8_status_2 ml_RX8_172 yk_X8_refusalOfBoxNumber yi_X8_refusalOfBoxNumber (m_X8_refusalOfBoxNumber _ M x1) (Nat.le_of_ble_eq_true rfl) rfl rfl rfl rfl (Nat.le_of_ble_eq_true rfl) (Nat.le_of_ble_eq_true rfl) (Nat.le_of_ble_eq_true rfl) (Nat.le_of_ble_eq_true rfl) (Nat.le_of_ble_eq_true rfl) ?_
  refine tv_cSx C dk_X8_status_5 ml_RX8_54 yk_X8_refuse yi_X8_refuse (m_X8_refuse _ M (f_X8_refusalOfBoxNumber M x1)) rfl rfl (Nat.le_of_ble_eq_true rfl) (Nat.le_of_ble_eq_true rfl) (Nat.le_of_ble_eq_true rfl) (Nat.le_of_ble_eq_true rfl) (Nat.le_of_ble_eq_true rfl) rfl rfl rfl (fun _ h1e => tv_out C hQ (by rw [f_X8_status, if_neg (tv_sn h1e)]; rw [h1e]; rfl) (by rw [f_X8_status, if_neg (tv_sn h1e)])) (fun h1 => ?_)
  refine tv_aload_n C dk_X8_status_8 rfl ?_
  refine tv_getR (r := 1) C dk_X8_status_9 fl_RX8_12 (Nat.le_of_ble_eq_true rfl) rfl rfl (fun _ _ _ _ => rfl) ?_
  refine tv_getR (r := (1 + 6)) C dk_X8_status_12 fl_RX8_75 (tvSB_sh tvSBn_1 0 (by decide)).2 (tvSB_sh tvSBn_1 0 (by decide)).1 (tvSB_rho tvSBn_1 (0, 2, 6) (by decide)) (fun _ _ _ _ => rfl) ?_
  refine tv_iload_n C dk_X8_status_15 rfl ?_
  refine tv_cV1 C dk_X8_status_16 ml_RX8_189 yk_X0_statusOf yi_X0_statusOf (m_X0_statusOf _ M tvSBn_1 x1) (tvSB_sh tvSBn_1 6 (by decide)).2 (tvSB_sh tvSBn_1 6 (by decide)).1 rfl rfl rfl (Nat.le_of_ble_eq_true rfl) (Nat.le_of_ble_eq_true rfl) (Nat.le_of_ble_eq_true rfl) (Nat.le_of_ble_eq_true rfl) (Nat.le_of_ble_eq_true rfl) ?_
  exact tv_iret C hQ dk_X8_status_19 (fz_X0_statusOf) (by rw [f_X8_status, if_pos h1]; rfl) (by rw [f_X8_status, if_pos h1])
/-- TideVault.firstHolder(I)I -/
def f_X8_firstHolder (M : tvM) (x1 : Int32) : Option String × Int32 × tvM := (if (f_X8_refuse M (f_X8_refusalUnless M 104 x1)).1 = none then (none, (f_X0_firstOf M 1 x1), M) else ((f_X8_refuse M (f_X8_refusalUnless M 104 x1)).1, 0, M))
theorem m_X8_firstHolder (G : tvG) (M : tvM) (x1 : Int32) : tvRun G yX8_firstHolder cX8_firstHolder 2 (some .int) 7 1 6 tvP0 tvP0 [.ref (G.2.1 + 0), .int x1] M (tvOx (some (.int (f_X8_firstHolder M x1).2.1)) (f_X8_firstHolder M x1).1) ((f_X8_firstHolder M x1).2.2) := by
  refine tvRun.of yk_X8_firstHolder rfl [some (.ref (G.2.1 + 0)), some (.int x1)] rfl (Nat.le_of_ble_eq_true rfl) ?_
  intro E hG C hQ; subst hG
  refine tv_aload_n C dk_X8_firstHolder_0 rfl ?_
  refine tv_bipush (v := 104) C dk_X8_firstHolder_1 (by decide) ?_
  refine tv_iload_n C dk_X8_firstHolder_3 rfl ?_
  refine tv_cV1 C dk_X8_firstHolder_4 ml_RX8_193 yk_X8_refusalUnless yi_X8_refusalUnless (m_X8_refusalUnless _ M 104 x1) (Nat.le_of_ble_eq_true rfl) rfl rfl rfl rfl (Nat.le_of_ble_eq_true rfl) (Nat.le_of_ble_eq_true rfl) (Nat.le_of_ble_eq_true rfl) (Nat.le_of_ble_eq_true rfl) (Nat.le_of_ble_eq_true rfl) ?_
  refine tv_cSx C dk_X8_firstHolder_7 ml_RX8_54 yk_X8_refuse yi_X8_refuse (m_X8_refuse _ M (f_X8_refusalUnless M 104 x1)) rfl rfl (Nat.le_of_ble_eq_true rfl) (Nat.le_of_ble_eq_true rfl) (Nat.le_of_ble_eq_true rfl) (Nat.le_of_ble_eq_true rfl) (Nat.le_of_ble_eq_true rfl) rfl rfl rfl (fun _ h1e => tv_out C hQ (by rw [f_X8_firstHolder, if_neg (tv_sn h1e)]; rw [h1e]; rfl) (by rw [f_X8_firstHolder, if_neg (tv_sn h1e)])) (fun h1 => ?_)
  refine tv_aload_n C dk_X8_firstHolder_10 rfl ?_
  refine tv_getR (r := 1) C dk_X8_firstHolder_11 fl_RX8_12 (Nat.le_of_ble_eq_true rfl) rfl rfl (fun _ _ _ _ => rfl) ?_
  refine tv_getR (r := (1 + 6)) C dk_X8_firstHolder_14 fl_RX8_75 (tvSB_sh tvSBn_1 0 (by decide)).2 (tvSB_sh tvSBn_1 0 (by decide)).1 (tvSB_rho tvSBn_1 (0, 2, 6) (by decide)) (fun _ _ _ _ => rfl) ?_
  refine tv_iload_n C dk_X8_firstHolder_17 rfl ?_
  refine tv_cV1 C dk_X8_firstHolder_18 ml_RX8_197 yk_X0_firstOf yi_X0_firstOf (m_X0_firstOf _ M tvSBn_1 x1) (tvSB_sh tvSBn_1 6 (by decide)).2 (tvSB_sh tvSBn_1 6 (by decide)).1 rfl rfl rfl (Nat.le_of_ble_eq_true rfl) (Nat.le_of_ble_eq_true rfl) (Nat.le_of_ble_eq_true rfl) (Nat.le_of_ble_eq_true rfl) (Nat.le_of_ble_eq_true rfl) ?_
  exact tv_iret C hQ dk_X8_firstHolder_21 rfl (by rw [f_X8_firstHolder, if_pos h1]; rfl) (by rw [f_X8_firstHolder, if_pos h1])
/-- TideVault.remainingDelay(I)I -/
def f_X8_remainingDelay (M : tvM) (x1 : Int32) : Option String × Int32 × tvM := (if (f_X8_refuse M (f_X8_refusalUnless M 112 x1)).1 = none then (none, (f_X0_remainingOf M 1 x1), M) else ((f_X8_refuse M (f_X8_refusalUnless M 112 x1)).1, 0, M))
theorem m_X8_remainingDelay (G : tvG) (M : tvM) (x1 : Int32) : tvRun G yX8_remainingDelay cX8_remainingDelay 2 (some .int) 7 1 6 tvP0 tvP0 [.ref (G.2.1 + 0), .int x1] M (tvOx (some (.int (f_X8_remainingDelay M x1).2.1)) (f_X8_remainingDelay M x1).1) ((f_X8_remainingDelay M x1).2.2) := by
  refine tvRun.of yk_X8_remainingDelay rfl [some (.ref (G.2.1 + 0)), some (.int x1)] rfl (Nat.le_of_ble_eq_true rfl) ?_
  intro E hG C hQ; subst hG
  refine tv_aload_n C dk_X8_remainingDelay_0 rfl ?_
  refine tv_bipush (v := 112) C dk_X8_remainingDelay_1 (by decide) ?_
  refine tv_iload_n C dk_X8_remainingDelay_3 rfl ?_
  refine tv_cV1 C dk_X8_remainingDelay_4 ml_RX8_193 yk_X8_refusalUnless yi_X8_refusalUnless (m_X8_refusalUnless _ M 112 x1) (Nat.le_of_ble_eq_true rfl) rfl rfl rfl rfl (Nat.le_of_ble_eq_true rfl) (Nat.le_of_ble_eq_true rfl) (Nat.le_of_ble_eq_true rfl) (Nat.le_of_ble_eq_true rfl) (Nat.le_of_ble_eq_true rfl) ?_
  refine tv_cSx C dk_X8_remainingDelay_7 ml_RX8_54 yk_X8_refuse yi_X8_refuse (m_X8_refuse _ M (f_X8_refusalUnless M 112 x1)) rfl rfl (Nat.le_of_ble_eq_true rfl) (Nat.le_of_ble_eq_true rfl) (Nat.le_of_ble_eq_true rfl) (Nat.le_of_ble_eq_true rfl) (Nat.le_of_ble_eq_true rfl) rfl rfl rfl (fun _ h1e => tv_out C hQ (by rw [f_X8_remainingDelay, if_neg (tv_sn h1e)]; rw [h1e]; rfl) (by rw [f_X8_remainingDelay, if_neg (tv_sn h1e)])) (fun h1 => ?_)
  refine tv_aload_n C dk_X8_remainingDelay_10 rfl ?_
  refine tv_getR (r := 1) C dk_X8_remainingDelay_11 fl_RX8_12 (Nat.le_of_ble_eq_true rfl) rfl rfl (fun _ _ _ _ => rfl) ?_
  refine tv_getR (r := (1 + 6)) C dk_X8_remainingDelay_14 fl_RX8_75 (tvSB_sh tvSBn_1 0 (by decide)).2 (tvSB_sh tvSBn_1 0 (by decide)).1 (tvSB_rho tvSBn_1 (0, 2, 6) (by decide)) (fun _ _ _ _ => rfl) ?_
  refine tv_iload_n C dk_X8_remainingDelay_17 rfl ?_
  refine tv_cV1 C dk_X8_remainingDelay_18 ml_RX8_200 yk_X0_remainingOf yi_X0_remainingOf (m_X0_remainingOf _ M tvSBn_1 x1) (tvSB_sh tvSBn_1 6 (by decide)).2 (tvSB_sh tvSBn_1 6 (by decide)).1 rfl rfl rfl (Nat.le_of_ble_eq_true rfl) (Nat.le_of_ble_eq_true rfl) (Nat.le_of_ble_eq_true rfl) (Nat.le_of_ble_eq_true rfl) (Nat.le_of_ble_eq_true rfl) ?_
  exact tv_iret C hQ dk_X8_remainingDelay_21 rfl (by rw [f_X8_remainingDelay, if_pos h1]; rfl) (by rw [f_X8_remainingDelay, if_pos h1])
/-- TideVault.minutesUntilOpen(I)I -/
def f_X8_minutesUntilOpen (M : tvM) (x1 : Int32) : Option String × Int32 × tvM := (if (f_X8_refuse M (f_X8_refusalUnless M 112 x1)).1 = none then (none, (f_X6_searchOpening M 1 x1), M) else ((f_X8_refuse M (f_X8_refusalUnless M 112 x1)).1, 0, M))
theorem m_X8_minutesUntilOpen (G : tvG) (M : tvM) (x1 : Int32) : tvRun G yX8_minutesUntilOpen cX8_minutesUntilOpen 2 (some .int) 7 1 6 tvP0 tvP0 [.ref (G.2.1 + 0), .int x1] M (tvOx (some (.int (f_X8_minutesUntilOpen M x1).2.1)) (f_X8_minutesUntilOpen M x1).1) ((f_X8_minutesUntilOpen M x1).2.2) := by
  refine tvRun.of yk_X8_minutesUntilOpen rfl [some (.ref (G.2.1 + 0)), some (.int x1)] rfl (Nat.le_of_ble_eq_true rfl) ?_
  intro E hG C hQ; subst hG
  refine tv_aload_n C dk_X8_minutesUntilOpen_0 rfl ?_
  refine tv_bipush (v := 112) C dk_X8_minutesUntilOpen_1 (by decide) ?_
  refine tv_iload_n C dk_X8_minutesUntilOpen_3 rfl ?_
  refine tv_cV1 C dk_X8_minutesUntilOpen_4 ml_RX8_193 yk_X8_refusalUnless yi_X8_refusalUnless (m_X8_refusalUnless _ M 112 x1) (Nat.le_of_ble_eq_true rfl) rfl rfl rfl rfl (Nat.le_of_ble_eq_true rfl) (Nat.le_of_ble_eq_true rfl) (Nat.le_of_ble_eq_true rfl) (Nat.le_of_ble_eq_true rfl) (Nat.le_of_ble_eq_true rfl) ?_
  refine tv_cSx C dk_X8_minutesUntilOpen_7 ml_RX8_54 yk_X8_refuse yi_X8_refuse (m_X8_refuse _ M (f_X8_refusalUnless M 112 x1)) rfl rfl (Nat.le_of_ble_eq_true rfl) (Nat.le_of_ble_eq_true rfl) (Nat.le_of_ble_eq_true rfl) (Nat.le_of_ble_eq_true rfl) (Nat.le_of_ble_eq_true rfl) rfl rfl rfl (fun _ h1e => tv_out C hQ (by rw [f_X8_minutesUntilOpen, if_neg (tv_sn h1e)]; rw [h1e]; rfl) (by rw [f_X8_minutesUntilOpen, if_neg (tv_sn h1e)])) (fun h1 => ?_)
  refine tv_aload_n C dk_X8_minutesUntilOpen_10 rfl ?_
  refine tv_getR (r := 1) C dk_X8_minutesUntilOpen_11 fl_RX8_12 (Nat.le_of_ble_eq_true rfl) rfl rfl (fun _ _ _ _ => rfl) ?_
  refine tv_iload_n C dk_X8_minutesUntilOpen_14 rfl ?_
  refine tv_cV1 C dk_X8_minutesUntilOpen_15 ml_RX8_203 yk_X6_searchOpening yi_X6_searchOpening (n_X6_searchOpening _ M tvSBn_1 x1) (tvSB_sh tvSBn_1 0 (by decide)).2 (tvSB_sh tvSBn_1 0 (by decide)).1 rfl rfl rfl (Nat.le_of_ble_eq_true rfl) (Nat.le_of_ble_eq_true rfl) (Nat.le_of_ble_eq_true rfl) (Nat.le_of_ble_eq_true rfl) (Nat.le_of_ble_eq_true rfl) ?_
  exact tv_iret C hQ dk_X8_minutesUntilOpen_18 rfl (by rw [f_X8_minutesUntilOpen, if_pos h1]; rfl) (by rw [f_X8_minutesUntilOpen, if_pos h1])
/-- TideVault.minutesUntilOpenBySimulation(I)I -/
def f_X8_minutesUntilOpenBySimulation (M : tvM) (x1 : Int32) : Option String × Int32 × tvM := (if (f_X8_refuse M (f_X8_refusalUnless M 112 x1)).1 = none then (none, (f_X6_waitForOpening (f_X6_copyFrom M 21 1) 21 x1).1, (f_X6_waitForOpening (f_X6_copyFrom M 21 1) 21 x1).2) else ((f_X8_refuse M (f_X8_refusalUnless M 112 x1)).1, 0, M))
theorem m_X8_minutesUntilOpenBySimulation (G : tvG) (M : tvM) (x1 : Int32) : tvRun G yX8_minutesUntilOpenBySimulation cX8_minutesUntilOpenBySimulation 2 (some .int) 7 1 6 tvP0 tvP0 [.ref (G.2.1 + 0), .int x1] M (tvOx (some (.int (f_X8_minutesUntilOpenBySimulation M x1).2.1)) (f_X8_minutesUntilOpenBySimulation M x1).1) ((f_X8_minutesUntilOpenBySimulation M x1).2.2) := by
  refine tvRun.of yk_X8_minutesUntilOpenBySimulation rfl [some (.ref (G.2.1 + 0)), some (.int x1)] rfl (Nat.le_of_ble_eq_true rfl) ?_
  intro E hG C hQ; subst hG
  refine tv_aload_n C dk_X8_minutesUntilOpenBySimulation_0 rfl ?_
  refine tv_bipush (v := 112) C dk_X8_minutesUntilOpenBySimulation_1 (by decide) ?_
  refine tv_iload_n C dk_X8_minutesUntilOpenBySimulation_3 rfl ?_
  refine tv_cV1 C dk_X8_minutesUntilOpenBySimulation_4 ml_RX8_193 yk_X8_refusalUnless yi_X8_refusalUnless (m_X8_refusalUnless _ M 112 x1) (Nat.le_of_ble_eq_true rfl) rfl rfl rfl rfl (Nat.le_of_ble_eq_true rfl) (Nat.le_of_ble_eq_true rfl) (Nat.le_of_ble_eq_true rfl) (Nat.le_of_ble_eq_true rfl) (Nat.le_of_ble_eq_true rfl) ?_
  refine tv_cSx C dk_X8_minutesUntilOpenBySimulation_7 ml_RX8_54 yk_X8_refuse yi_X8_refuse (m_X8_refuse _ M (f_X8_refusalUnless M 112 x1)) rfl rfl (Nat.le_of_ble_eq_true rfl) (Nat.le_of_ble_eq_true rfl) (Nat.le_of_ble_eq_true rfl) (Nat.le_of_ble_eq_true rfl) (Nat.le_of_ble_eq_true rfl) rfl rfl rfl (fun _ h1e => tv_out C hQ (by rw [f_X8_minutesUntilOpenBySimulation, if_neg (tv_sn h1e)]; rw [h1e]; rfl) (by rw [f_X8_minutesUntilOpenBySimulation, if_neg (tv_sn h1e)])) (fun h1 => ?_)
  refine tv_aload_n C dk_X8_minutesUntilOpenBySimulation_10 rfl ?_
  refine tv_getR (r := 21) C dk_X8_minutesUntilOpenBySimulation_11 fl_RX8_16 (Nat.le_of_ble_eq_true rfl) rfl rfl (fun _ _ _ _ => rfl) ?_
  refine tv_aload_n C dk_X8_minutesUntilOpenBySimulation_14 rfl ?_
  refine tv_getR (r := 1) C dk_X8_minutesUntilOpenBySimulation_15 fl_RX8_12 (Nat.le_of_ble_eq_true rfl) rfl rfl (fun _ _ _ _ => rfl) ?_
  refine tv_cV0 C dk_X8_minutesUntilOpenBySimulation_18 ml_RX8_206 yk_X6_copyFrom yi_X6_copyFrom (m_X6_copyFrom _ M tvSBn_21 tvSBn_1 (by decide)) (tvSB_sh tvSBn_21 0 (by decide)).2 (tvSB_sh tvSBn_21 0 (by decide)).1 rfl rfl rfl (Nat.le_of_ble_eq_true rfl) (Nat.le_of_ble_eq_true rfl) (Nat.le_of_ble_eq_true rfl) (Nat.le_of_ble_eq_true rfl) (Nat.le_of_ble_eq_true rfl) ?_
  refine tv_aload_n C dk_X8_minutesUntilOpenBySimulation_21 rfl ?_
  refine tv_getR (r := 21) C dk_X8_minutesUntilOpenBySimulation_22 fl_RX8_16 (Nat.le_of_ble_eq_true rfl) rfl rfl (fun _ _ _ _ => rfl) ?_
  refine tv_iload_n C dk_X8_minutesUntilOpenBySimulation_25 rfl ?_
  refine tv_cV1 C dk_X8_minutesUntilOpenBySimulation_26 ml_RX8_209 yk_X6_waitForOpening yi_X6_waitForOpening (n_X6_waitForOpening _ (f_X6_copyFrom M 21 1) tvSBn_21 x1) (tvSB_sh tvSBn_21 0 (by decide)).2 (tvSB_sh tvSBn_21 0 (by decide)).1 rfl rfl rfl (Nat.le_of_ble_eq_true rfl) (Nat.le_of_ble_eq_true rfl) (Nat.le_of_ble_eq_true rfl) (Nat.le_of_ble_eq_true rfl) (Nat.le_of_ble_eq_true rfl) ?_
  exact tv_iret C hQ dk_X8_minutesUntilOpenBySimulation_29 rfl (by rw [f_X8_minutesUntilOpenBySimulation, if_pos h1]; rfl) (by rw [f_X8_minutesUntilOpenBySimulation, if_pos h1])
/-- TideVault.pearls(I)I -/
def f_X8_pearls (M : tvM) (x1 : Int32) : Option String × Int32 × tvM := (if (f_X8_refuse M (f_X8_refusalOfBoxNumber M x1)).1 = none then (none, (f_X0_pearlsIn M 1 x1), M) else ((f_X8_refuse M (f_X8_refusalOfBoxNumber M x1)).1, 0, M))
theorem m_X8_pearls (G : tvG) (M : tvM) (x1 : Int32) : tvRun G yX8_pearls cX8_pearls 2 (some .int) 7 1 6 tvP0 tvP0 [.ref (G.2.1 + 0), .int x1] M (tvOx (some (.int (f_X8_pearls M x1).2.1)) (f_X8_pearls M x1).1) ((f_X8_pearls M x1).2.2) := by
  refine tvRun.of yk_X8_pearls rfl [some (.ref (G.2.1 + 0)), some (.int x1)] rfl (Nat.le_of_ble_eq_true rfl) ?_
  intro E hG C hQ; subst hG
  refine tv_aload_n C dk_X8_pearls_0 rfl ?_
  refine tv_iload_n C dk_X8_pearls_1 rfl ?_
  refine tv_cV1 C dk_X8_pearls_2 ml_RX8_172 yk_X8_refusalOfBoxNumber yi_X8_refusalOfBoxNumber (m_X8_refusalOfBoxNumber _ M x1) (Nat.le_of_ble_eq_true rfl) rfl rfl rfl rfl (Nat.le_of_ble_eq_true rfl) (Nat.le_of_ble_eq_true rfl) (Nat.le_of_ble_eq_true rfl) (Nat.le_of_ble_eq_true rfl) (Nat.le_of_ble_eq_true rfl) ?_
  refine tv_cSx C dk_X8_pearls_5 ml_RX8_54 yk_X8_refuse yi_X8_refuse (m_X8_refuse _ M (f_X8_refusalOfBoxNumber M x1)) rfl rfl (Nat.le_of_ble_eq_true rfl) (Nat.le_of_ble_eq_true rfl) (Nat.le_of_ble_eq_true rfl) (Nat.le_of_ble_eq_true rfl) (Nat.le_of_ble_eq_true rfl) rfl rfl rfl (fun _ h1e => tv_out C hQ (by rw [f_X8_pearls, if_neg (tv_sn h1e)]; rw [h1e]; rfl) (by rw [f_X8_pearls, if_neg (tv_sn h1e)])) (fun h1 => ?_)
  refine tv_aload_n C dk_X8_pearls_8 rfl ?_
  refine tv_getR (r := 1) C dk_X8_pearls_9 fl_RX8_12 (Nat.le_of_ble_eq_true rfl) rfl rfl (fun _ _ _ _ => rfl) ?_
  refine tv_getR (r := (1 + 6)) C dk_X8_pearls_12 fl_RX8_75 (tvSB_sh tvSBn_1 0 (by decide)).2 (tvSB_sh tvSBn_1 0 (by decide)).1 (tvSB_rho tvSBn_1 (0, 2, 6) (by decide)) (fun _ _ _ _ => rfl) ?_
  refine tv_iload_n C dk_X8_pearls_15 rfl ?_
  refine tv_cV1 C dk_X8_pearls_16 ml_RX8_212 yk_X0_pearlsIn yi_X0_pearlsIn (m_X0_pearlsIn _ M tvSBn_1 x1) (tvSB_sh tvSBn_1 6 (by decide)).2 (tvSB_sh tvSBn_1 6 (by decide)).1 rfl rfl rfl (Nat.le_of_ble_eq_true rfl) (Nat.le_of_ble_eq_true rfl) (Nat.le_of_ble_eq_true rfl) (Nat.le_of_ble_eq_true rfl) (Nat.le_of_ble_eq_true rfl) ?_
  exact tv_iret C hQ dk_X8_pearls_19 rfl (by rw [f_X8_pearls, if_pos h1]; rfl) (by rw [f_X8_pearls, if_pos h1])
/-- TideVault.pearl(II)I -/
def f_X8_pearl (M : tvM) (x1 : Int32) (x2 : Int32) : Option String × Int32 × tvM := (if (f_X8_refuse M (f_X8_refusalOfBoxNumber M x1)).1 = none then (if x2 < 0 then ((some "java/util/NoSuchElementException"), 0, M) else (if x2 < (f_X0_pearlsIn M 1 x1) then (none, (f_X0_valueOf M 1 x1 x2), M) else ((some "java/util/NoSuchElementException"), 0, M))) else ((f_X8_refuse M (f_X8_refusalOfBoxNumber M x1)).1, 0, M))
theorem m_X8_pearl (G : tvG) (M : tvM) (x1 : Int32) (x2 : Int32) : tvRun G yX8_pearl cX8_pearl 3 (some .int) 7 2 12 tvP0 tvP0 [.ref (G.2.1 + 0), .int x1, .int x2] M (tvOx (some (.int (f_X8_pearl M x1 x2).2.1)) (f_X8_pearl M x1 x2).1) ((f_X8_pearl M x1 x2).2.2) := by
  refine tvRun.of yk_X8_pearl rfl [some (.ref (G.2.1 + 0)), some (.int x1), some (.int x2)] rfl (Nat.le_of_ble_eq_true rfl) ?_
  intro E hG C hQ; subst hG
  refine tv_aload_n C dk_X8_pearl_0 rfl ?_
  refine tv_iload_n C dk_X8_pearl_1 rfl ?_
  refine tv_cV1 C dk_X8_pearl_2 ml_RX8_172 yk_X8_refusalOfBoxNumber yi_X8_refusalOfBoxNumber (m_X8_refusalOfBoxNumber _ M x1) (Nat.le_of_ble_eq_true rfl) rfl rfl rfl rfl (Nat.le_of_ble_eq_true rfl) (Nat.le_of_ble_eq_true rfl) (Nat.le_of_ble_eq_true rfl) (Nat.le_of_ble_eq_true rfl) (Nat.le_of_ble_eq_true rfl) ?_
  refine tv_cSx C dk_X8_pearl_5 ml_RX8_54 yk_X8_refuse yi_X8_refuse (m_X8_refuse _ M (f_X8_refusalOfBoxNumber M x1)) rfl rfl (Nat.le_of_ble_eq_true rfl) (Nat.le_of_ble_eq_true rfl) (Nat.le_of_ble_eq_true rfl) (Nat.le_of_ble_eq_true rfl) (Nat.le_of_ble_eq_true rfl) rfl rfl rfl (fun _ h1e => tv_out C hQ (by rw [f_X8_pearl, if_neg (tv_sn h1e)]; rw [h1e]; rfl) (by rw [f_X8_pearl, if_neg (tv_sn h1e)])) (fun h1 => ?_)
  refine tv_iload_n C dk_X8_pearl_8 rfl ?_
  refine tv_if_lt C dk_X8_pearl_9 (fun h2 => ?_) (fun h2 => ?_)
  · exact tv_throwN C tvP0_ex hQ th_RX8_215_217 dk_X8_pearl_27 dk_X8_pearl_30 dk_X8_pearl_31 dk_X8_pearl_33 dk_X8_pearl_36 (Nat.le_of_ble_eq_true rfl) (Nat.le_of_ble_eq_true rfl) (by rw [f_X8_pearl, if_pos h1, if_pos h2]; rfl) (by rw [f_X8_pearl, if_pos h1, if_pos h2])
  refine tv_iload_n C dk_X8_pearl_12 rfl ?_
  refine tv_aload_n C dk_X8_pearl_13 rfl ?_
  refine tv_getR (r := 1) C dk_X8_pearl_14 fl_RX8_12 (Nat.le_of_ble_eq_true rfl) rfl rfl (fun _ _ _ _ => rfl) ?_
  refine tv_getR (r := (1 + 6)) C dk_X8_pearl_17 fl_RX8_75 (tvSB_sh tvSBn_1 0 (by decide)).2 (tvSB_sh tvSBn_1 0 (by decide)).1 (tvSB_rho tvSBn_1 (0, 2, 6) (by decide)) (fun _ _ _ _ => rfl) ?_
  refine tv_iload_n C dk_X8_pearl_20 rfl ?_
  refine tv_cV1 C dk_X8_pearl_21 ml_RX8_212 yk_X0_pearlsIn yi_X0_pearlsIn (m_X0_pearlsIn _ M tvSBn_1 x1) (tvSB_sh tvSBn_1 6 (by decide)).2 (tvSB_sh tvSBn_1 6 (by decide)).1 rfl rfl rfl (Nat.le_of_ble_eq_true rfl) (Nat.le_of_ble_eq_true rfl) (Nat.le_of_ble_eq_true rfl) (Nat.le_of_ble_eq_true rfl) (Nat.le_of_ble_eq_true rfl) ?_
  refine tv_icmp_lt C dk_X8_pearl_24 (fun h3 => ?_) (fun h3 => ?_)
  · refine tv_aload_n C dk_X8_pearl_37 rfl ?_
    refine tv_getR (r := 1) C dk_X8_pearl_38 fl_RX8_12 (Nat.le_of_ble_eq_true rfl) rfl rfl (fun _ _ _ _ => rfl) ?_
    refine tv_getR (r := (1 + 6)) C dk_X8_pearl_41 fl_RX8_75 (tvSB_sh tvSBn_1 0 (by decide)).2 (tvSB_sh tvSBn_1 0 (by decide)).1 (tvSB_rho tvSBn_1 (0, 2, 6) (by decide)) (fun _ _ _ _ => rfl) ?_
    refine tv_iload_n C dk_X8_pearl_44 rfl ?_
    refine tv_iload_n C dk_X8_pearl_45 rfl ?_
    refine tv_cV1 C dk_X8_pearl_46 ml_RX8_220 yk_X0_valueOf yi_X0_valueOf (m_X0_valueOf _ M tvSBn_1 x1 x2) (tvSB_sh tvSBn_1 6 (by decide)).2 (tvSB_sh tvSBn_1 6 (by decide)).1 rfl rfl rfl (Nat.le_of_ble_eq_true rfl) (Nat.le_of_ble_eq_true rfl) (Nat.le_of_ble_eq_true rfl) (Nat.le_of_ble_eq_true rfl) (Nat.le_of_ble_eq_true rfl) ?_
    exact tv_iret C hQ dk_X8_pearl_49 rfl (by rw [f_X8_pearl, if_pos h1, if_neg h2, if_pos h3]; rfl) (by rw [f_X8_pearl, if_pos h1, if_neg h2, if_pos h3])
  exact tv_throwN C tvP0_ex hQ th_RX8_215_217 dk_X8_pearl_27 dk_X8_pearl_30 dk_X8_pearl_31 dk_X8_pearl_33 dk_X8_pearl_36 (Nat.le_of_ble_eq_true rfl) (Nat.le_of_ble_eq_true rfl) (by rw [f_X8_pearl, if_pos h1, if_neg h2, if_neg h3]; rfl) (by rw [f_X8_pearl, if_pos h1, if_neg h2, if_neg h3])
/-- TideVault.boxByValue(I)I -/
def f_X8_boxByValue (M : tvM) (x1 : Int32) : Option String × Int32 × tvM := (if (f_X0_has M 1 x1) = 0 then ((some "java/util/NoSuchElementException"), 0, M) else (none, (f_X0_atRank M 1 x1), M))
theorem m_X8_boxByValue (G : tvG) (M : tvM) (x1 : Int32) : tvRun G yX8_boxByValue cX8_boxByValue 2 (some .int) 6 1 6 tvP0 tvP0 [.ref (G.2.1 + 0), .int x1] M (tvOx (some (.int (f_X8_boxByValue M x1).2.1)) (f_X8_boxByValue M x1).1) ((f_X8_boxByValue M x1).2.2) := by
  refine tvRun.of yk_X8_boxByValue rfl [some (.ref (G.2.1 + 0)), some (.int x1)] rfl (Nat.le_of_ble_eq_true rfl) ?_
  intro E hG C hQ; subst hG
  refine tv_aload_n C dk_X8_boxByValue_0 rfl ?_
  refine tv_getR (r := 1) C dk_X8_boxByValue_1 fl_RX8_12 (Nat.le_of_ble_eq_true rfl) rfl rfl (fun _ _ _ _ => rfl) ?_
  refine tv_getR (r := (1 + 6)) C dk_X8_boxByValue_4 fl_RX8_75 (tvSB_sh tvSBn_1 0 (by decide)).2 (tvSB_sh tvSBn_1 0 (by decide)).1 (tvSB_rho tvSBn_1 (0, 2, 6) (by decide)) (fun _ _ _ _ => rfl) ?_
  refine tv_iload_n C dk_X8_boxByValue_7 rfl ?_
  refine tv_cV1 C dk_X8_boxByValue_8 ml_RX8_223 yk_X0_has yi_X0_has (m_X0_has _ M tvSBn_1 x1) (tvSB_sh tvSBn_1 6 (by decide)).2 (tvSB_sh tvSBn_1 6 (by decide)).1 rfl rfl rfl (Nat.le_of_ble_eq_true rfl) (Nat.le_of_ble_eq_true rfl) (Nat.le_of_ble_eq_true rfl) (Nat.le_of_ble_eq_true rfl) (Nat.le_of_ble_eq_true rfl) ?_
  refine tv_if_ne C dk_X8_boxByValue_11 (fun h1 => ?_) (fun h1 => ?_)
  · refine tv_aload_n C dk_X8_boxByValue_24 rfl ?_
    refine tv_getR (r := 1) C dk_X8_boxByValue_25 fl_RX8_12 (Nat.le_of_ble_eq_true rfl) rfl rfl (fun _ _ _ _ => rfl) ?_
    refine tv_getR (r := (1 + 6)) C dk_X8_boxByValue_28 fl_RX8_75 (tvSB_sh tvSBn_1 0 (by decide)).2 (tvSB_sh tvSBn_1 0 (by decide)).1 (tvSB_rho tvSBn_1 (0, 2, 6) (by decide)) (fun _ _ _ _ => rfl) ?_
    refine tv_iload_n C dk_X8_boxByValue_31 rfl ?_
    refine tv_cV1 C dk_X8_boxByValue_32 ml_RX8_229 yk_X0_atRank yi_X0_atRank (n_X0_atRank _ M tvSBn_1 x1) (tvSB_sh tvSBn_1 6 (by decide)).2 (tvSB_sh tvSBn_1 6 (by decide)).1 rfl rfl rfl (Nat.le_of_ble_eq_true rfl) (Nat.le_of_ble_eq_true rfl) (Nat.le_of_ble_eq_true rfl) (Nat.le_of_ble_eq_true rfl) (Nat.le_of_ble_eq_true rfl) ?_
    exact tv_iret C hQ dk_X8_boxByValue_35 rfl (by rw [f_X8_boxByValue, if_neg h1]; rfl) (by rw [f_X8_boxByValue, if_neg h1])
  exact tv_throwN C tvP0_ex hQ th_RX8_215_227 dk_X8_boxByValue_14 dk_X8_boxByValue_17 dk_X8_boxByValue_18 dk_X8_boxByValue_20 dk_X8_boxByValue_23 (Nat.le_of_ble_eq_true rfl) (Nat.le_of_ble_eq_true rfl) (by rw [f_X8_boxByValue, if_pos h1]; rfl) (by rw [f_X8_boxByValue, if_pos h1])
/-- TideVault.totalValue()J -/
def f_X8_totalValue (M : tvM) : Int64 := (f_X0_sumOfAll M 1)
theorem m_X8_totalValue (G : tvG) (M : tvM) : tvRun G yX8_totalValue cX8_totalValue 1 (some .long) 5 0 0 tvP0 tvP0 [.ref (G.2.1 + 0)] M (.inl (some (.long (f_X8_totalValue M)))) M := by
  refine tvRun.of yk_X8_totalValue rfl [some (.ref (G.2.1 + 0))] rfl (Nat.le_of_ble_eq_true rfl) ?_
  intro E hG C hQ; subst hG
  refine tv_aload_n C dk_X8_totalValue_0 rfl ?_
  refine tv_getR (r := 1) C dk_X8_totalValue_1 fl_RX8_12 (Nat.le_of_ble_eq_true rfl) rfl rfl (fun _ _ _ _ => rfl) ?_
  refine tv_getR (r := (1 + 6)) C dk_X8_totalValue_4 fl_RX8_75 (tvSB_sh tvSBn_1 0 (by decide)).2 (tvSB_sh tvSBn_1 0 (by decide)).1 (tvSB_rho tvSBn_1 (0, 2, 6) (by decide)) (fun _ _ _ _ => rfl) ?_
  refine tv_cV1 C dk_X8_totalValue_7 ml_RX8_232 yk_X0_sumOfAll yi_X0_sumOfAll (n_X0_sumOfAll _ M tvSBn_1) (tvSB_sh tvSBn_1 6 (by decide)).2 (tvSB_sh tvSBn_1 6 (by decide)).1 rfl rfl rfl (Nat.le_of_ble_eq_true rfl) (Nat.le_of_ble_eq_true rfl) (Nat.le_of_ble_eq_true rfl) (Nat.le_of_ble_eq_true rfl) (Nat.le_of_ble_eq_true rfl) ?_
  exact tv_lret C hQ dk_X8_totalValue_10 (by rw [f_X8_totalValue]) rfl
/-- TideVault.totalValueByLedger()J -/
def f_X8_totalValueByLedger (M : tvM) : Int64 := (tgl M 1 8)
theorem m_X8_totalValueByLedger (G : tvG) (M : tvM) : tvRun G yX8_totalValueByLedger cX8_totalValueByLedger 1 (some .long) 1 0 0 tvP0 tvP0 [.ref (G.2.1 + 0)] M (.inl (some (.long (f_X8_totalValueByLedger M)))) M := by
  refine tvRun.of yk_X8_totalValueByLedger rfl [some (.ref (G.2.1 + 0))] rfl (Nat.le_of_ble_eq_true rfl) ?_
  intro E hG C hQ; subst hG
  refine tv_aload_n C dk_X8_totalValueByLedger_0 rfl ?_
  refine tv_getR (r := 1) C dk_X8_totalValueByLedger_1 fl_RX8_12 (Nat.le_of_ble_eq_true rfl) rfl rfl (fun _ _ _ _ => rfl) ?_
  refine tv_getL C dk_X8_totalValueByLedger_4 fl_RX8_236 (tvSB_sh tvSBn_1 0 (by decide)).2 (tvSB_sh tvSBn_1 0 (by decide)).1 (fun _ _ _ _ => rfl) ?_
  exact tv_lret C hQ dk_X8_totalValueByLedger_7 (by rw [f_X8_totalValueByLedger]) rfl
/-- TideVault.events()I -/
def f_X8_events (M : tvM) : Int32 := (tgi M (1 + 16) 1)
theorem m_X8_events (G : tvG) (M : tvM) : tvRun G yX8_events cX8_events 1 (some .int) 1 0 0 tvP0 tvP0 [.ref (G.2.1 + 0)] M (.inl (some (.int (f_X8_events M)))) M := by
  refine tvRun.of yk_X8_events rfl [some (.ref (G.2.1 + 0))] rfl (Nat.le_of_ble_eq_true rfl) ?_
  intro E hG C hQ; subst hG
  refine tv_aload_n C dk_X8_events_0 rfl ?_
  refine tv_getR (r := 1) C dk_X8_events_1 fl_RX8_12 (Nat.le_of_ble_eq_true rfl) rfl rfl (fun _ _ _ _ => rfl) ?_
  refine tv_getR (r := (1 + 16)) C dk_X8_events_4 fl_RX8_257 (tvSB_sh tvSBn_1 0 (by decide)).2 (tvSB_sh tvSBn_1 0 (by decide)).1 (tvSB_rho tvSBn_1 (0, 3, 16) (by decide)) (fun _ _ _ _ => rfl) ?_
  refine tv_getI C dk_X8_events_7 fl_RX8_261 (tvSB_sh tvSBn_1 16 (by decide)).2 (tvSB_sh tvSBn_1 16 (by decide)).1 (fun _ _ _ _ => rfl) ?_
  exact tv_iret C hQ dk_X8_events_10 rfl (by rw [f_X8_events]) rfl
/-- TideVault.eventKind(I)C -/
def f_X8_eventKind (M : tvM) (x1 : Int32) : Option String × Int32 × tvM := (if (f_X8_refuse M (f_X8_refusalOfEvent M x1)).1 = none then (none, (f_X4_kindOf M 1 x1), M) else ((f_X8_refuse M (f_X8_refusalOfEvent M x1)).1, 0, M))
theorem m_X8_eventKind (G : tvG) (M : tvM) (x1 : Int32) : tvRun G yX8_eventKind cX8_eventKind 2 (some .char) 7 1 6 tvP0 tvP0 [.ref (G.2.1 + 0), .int x1] M (tvOx (some (.int (f_X8_eventKind M x1).2.1)) (f_X8_eventKind M x1).1) ((f_X8_eventKind M x1).2.2) := by
  refine tvRun.of yk_X8_eventKind rfl [some (.ref (G.2.1 + 0)), some (.int x1)] rfl (Nat.le_of_ble_eq_true rfl) ?_
  intro E hG C hQ; subst hG
  refine tv_aload_n C dk_X8_eventKind_0 rfl ?_
  refine tv_iload_n C dk_X8_eventKind_1 rfl ?_
  refine tv_cV1 C dk_X8_eventKind_2 ml_RX8_264 yk_X8_refusalOfEvent yi_X8_refusalOfEvent (m_X8_refusalOfEvent _ M x1) (Nat.le_of_ble_eq_true rfl) rfl rfl rfl rfl (Nat.le_of_ble_eq_true rfl) (Nat.le_of_ble_eq_true rfl) (Nat.le_of_ble_eq_true rfl) (Nat.le_of_ble_eq_true rfl) (Nat.le_of_ble_eq_true rfl) ?_
  refine tv_cSx C dk_X8_eventKind_5 ml_RX8_54 yk_X8_refuse yi_X8_refuse (m_X8_refuse _ M (f_X8_refusalOfEvent M x1)) rfl rfl (Nat.le_of_ble_eq_true rfl) (Nat.le_of_ble_eq_true rfl) (Nat.le_of_ble_eq_true rfl) (Nat.le_of_ble_eq_true rfl) (Nat.le_of_ble_eq_true rfl) rfl rfl rfl (fun _ h1e => tv_out C hQ (by rw [f_X8_eventKind, if_neg (tv_sn h1e)]; rw [h1e]; rfl) (by rw [f_X8_eventKind, if_neg (tv_sn h1e)])) (fun h1 => ?_)
  refine tv_aload_n C dk_X8_eventKind_8 rfl ?_
  refine tv_getR (r := 1) C dk_X8_eventKind_9 fl_RX8_12 (Nat.le_of_ble_eq_true rfl) rfl rfl (fun _ _ _ _ => rfl) ?_
  refine tv_getR (r := (1 + 16)) C dk_X8_eventKind_12 fl_RX8_257 (tvSB_sh tvSBn_1 0 (by decide)).2 (tvSB_sh tvSBn_1 0 (by decide)).1 (tvSB_rho tvSBn_1 (0, 3, 16) (by decide)) (fun _ _ _ _ => rfl) ?_
  refine tv_iload_n C dk_X8_eventKind_15 rfl ?_
  refine tv_cV1 C dk_X8_eventKind_16 ml_RX8_267 yk_X4_kindOf yi_X4_kindOf (m_X4_kindOf _ M tvSBn_1 x1) (tvSB_sh tvSBn_1 16 (by decide)).2 (tvSB_sh tvSBn_1 16 (by decide)).1 rfl rfl rfl (Nat.le_of_ble_eq_true rfl) (Nat.le_of_ble_eq_true rfl) (Nat.le_of_ble_eq_true rfl) (Nat.le_of_ble_eq_true rfl) (Nat.le_of_ble_eq_true rfl) ?_
  exact tv_iret C hQ dk_X8_eventKind_19 (fz_X4_kindOf) (by rw [f_X8_eventKind, if_pos h1]; rfl) (by rw [f_X8_eventKind, if_pos h1])
/-- TideVault.eventTime(I)I -/
def f_X8_eventTime (M : tvM) (x1 : Int32) : Option String × Int32 × tvM := (if (f_X8_refuse M (f_X8_refusalOfEvent M x1)).1 = none then (none, (f_X4_timeOf M 1 x1), M) else ((f_X8_refuse M (f_X8_refusalOfEvent M x1)).1, 0, M))
theorem m_X8_eventTime (G : tvG) (M : tvM) (x1 : Int32) : tvRun G yX8_eventTime cX8_eventTime 2 (some .int) 7 1 6 tvP0 tvP0 [.ref (G.2.1 + 0), .int x1] M (tvOx (some (.int (f_X8_eventTime M x1).2.1)) (f_X8_eventTime M x1).1) ((f_X8_eventTime M x1).2.2) := by
  refine tvRun.of yk_X8_eventTime rfl [some (.ref (G.2.1 + 0)), some (.int x1)] rfl (Nat.le_of_ble_eq_true rfl) ?_
  intro E hG C hQ; subst hG
  refine tv_aload_n C dk_X8_eventTime_0 rfl ?_
  refine tv_iload_n C dk_X8_eventTime_1 rfl ?_
  refine tv_cV1 C dk_X8_eventTime_2 ml_RX8_264 yk_X8_refusalOfEvent yi_X8_refusalOfEvent (m_X8_refusalOfEvent _ M x1) (Nat.le_of_ble_eq_true rfl) rfl rfl rfl rfl (Nat.le_of_ble_eq_true rfl) (Nat.le_of_ble_eq_true rfl) (Nat.le_of_ble_eq_true rfl) (Nat.le_of_ble_eq_true rfl) (Nat.le_of_ble_eq_true rfl) ?_
  refine tv_cSx C dk_X8_eventTime_5 ml_RX8_54 yk_X8_refuse yi_X8_refuse (m_X8_refuse _ M (f_X8_refusalOfEvent M x1)) rfl rfl (Nat.le_of_ble_eq_true rfl) (Nat.le_of_ble_eq_true rfl) (Nat.le_of_ble_eq_true rfl) (Nat.le_of_ble_eq_true rfl) (Nat.le_of_ble_eq_true rfl) rfl rfl rfl (fun _ h1e => tv_out C hQ (by rw [f_X8_eventTime, if_neg (tv_sn h1e)]; rw [h1e]; rfl) (by rw [f_X8_eventTime, if_neg (tv_sn h1e)])) (fun h1 => ?_)
  refine tv_aload_n C dk_X8_eventTime_8 rfl ?_
  refine tv_getR (r := 1) C dk_X8_eventTime_9 fl_RX8_12 (Nat.le_of_ble_eq_true rfl) rfl rfl (fun _ _ _ _ => rfl) ?_
  refine tv_getR (r := (1 + 16)) C dk_X8_eventTime_12 fl_RX8_257 (tvSB_sh tvSBn_1 0 (by decide)).2 (tvSB_sh tvSBn_1 0 (by decide)).1 (tvSB_rho tvSBn_1 (0, 3, 16) (by decide)) (fun _ _ _ _ => rfl) ?_
  refine tv_iload_n C dk_X8_eventTime_15 rfl ?_
  refine tv_cV1 C dk_X8_eventTime_16 ml_RX8_270 yk_X4_timeOf yi_X4_timeOf (m_X4_timeOf _ M tvSBn_1 x1) (tvSB_sh tvSBn_1 16 (by decide)).2 (tvSB_sh tvSBn_1 16 (by decide)).1 rfl rfl rfl (Nat.le_of_ble_eq_true rfl) (Nat.le_of_ble_eq_true rfl) (Nat.le_of_ble_eq_true rfl) (Nat.le_of_ble_eq_true rfl) (Nat.le_of_ble_eq_true rfl) ?_
  exact tv_iret C hQ dk_X8_eventTime_19 rfl (by rw [f_X8_eventTime, if_pos h1]; rfl) (by rw [f_X8_eventTime, if_pos h1])
/-- TideVault.eventNumber(I)I -/
def f_X8_eventNumber (M : tvM) (x1 : Int32) : Option String × Int32 × tvM := (if (f_X8_refuse M (f_X8_refusalOfEvent M x1)).1 = none then (none, (f_X4_numberOf M 1 x1), M) else ((f_X8_refuse M (f_X8_refusalOfEvent M x1)).1, 0, M))
theorem m_X8_eventNumber (G : tvG) (M : tvM) (x1 : Int32) : tvRun G yX8_eventNumber cX8_eventNumber 2 (some .int) 7 1 6 tvP0 tvP0 [.ref (G.2.1 + 0), .int x1] M (tvOx (some (.int (f_X8_eventNumber M x1).2.1)) (f_X8_eventNumber M x1).1) ((f_X8_eventNumber M x1).2.2) := by
  refine tvRun.of yk_X8_eventNumber rfl [some (.ref (G.2.1 + 0)), some (.int x1)] rfl (Nat.le_of_ble_eq_true rfl) ?_
  intro E hG C hQ; subst hG
  refine tv_aload_n C dk_X8_eventNumber_0 rfl ?_
  refine tv_iload_n C dk_X8_eventNumber_1 rfl ?_
  refine tv_cV1 C dk_X8_eventNumber_2 ml_RX8_264 yk_X8_refusalOfEvent yi_X8_refusalOfEvent (m_X8_refusalOfEvent _ M x1) (Nat.le_of_ble_eq_true rfl) rfl rfl rfl rfl (Nat.le_of_ble_eq_true rfl) (Nat.le_of_ble_eq_true rfl) (Nat.le_of_ble_eq_true rfl) (Nat.le_of_ble_eq_true rfl) (Nat.le_of_ble_eq_true rfl) ?_
  refine tv_cSx C dk_X8_eventNumber_5 ml_RX8_54 yk_X8_refuse yi_X8_refuse (m_X8_refuse _ M (f_X8_refusalOfEvent M x1)) rfl rfl (Nat.le_of_ble_eq_true rfl) (Nat.le_of_ble_eq_true rfl) (Nat.le_of_ble_eq_true rfl) (Nat.le_of_ble_eq_true rfl) (Nat.le_of_ble_eq_true rfl) rfl rfl rfl (fun _ h1e => tv_out C hQ (by rw [f_X8_eventNumber, if_neg (tv_sn h1e)]; rw [h1e]; rfl) (by rw [f_X8_eventNumber, if_neg (tv_sn h1e)])) (fun h1 => ?_)
  refine tv_aload_n C dk_X8_eventNumber_8 rfl ?_
  refine tv_getR (r := 1) C dk_X8_eventNumber_9 fl_RX8_12 (Nat.le_of_ble_eq_true rfl) rfl rfl (fun _ _ _ _ => rfl) ?_
  refine tv_getR (r := (1 + 16)) C dk_X8_eventNumber_12 fl_RX8_257 (tvSB_sh tvSBn_1 0 (by decide)).2 (tvSB_sh tvSBn_1 0 (by decide)).1 (tvSB_rho tvSBn_1 (0, 3, 16) (by decide)) (fun _ _ _ _ => rfl) ?_
  refine tv_iload_n C dk_X8_eventNumber_15 rfl ?_
  refine tv_cV1 C dk_X8_eventNumber_16 ml_RX8_273 yk_X4_numberOf yi_X4_numberOf (m_X4_numberOf _ M tvSBn_1 x1) (tvSB_sh tvSBn_1 16 (by decide)).2 (tvSB_sh tvSBn_1 16 (by decide)).1 rfl rfl rfl (Nat.le_of_ble_eq_true rfl) (Nat.le_of_ble_eq_true rfl) (Nat.le_of_ble_eq_true rfl) (Nat.le_of_ble_eq_true rfl) (Nat.le_of_ble_eq_true rfl) ?_
  exact tv_iret C hQ dk_X8_eventNumber_19 rfl (by rw [f_X8_eventNumber, if_pos h1]; rfl) (by rw [f_X8_eventNumber, if_pos h1])
/-- TideVault.charAt(I)C -/
def f_X8_charAt (M : tvM) (x1 : Int32) : Option String × Int32 × tvM := (if x1 < 0 then ((some "java/lang/IndexOutOfBoundsException"), 0, M) else (if x1 < (tgi M 247 1) then (none, (f_X3_at M x1), M) else ((some "java/lang/IndexOutOfBoundsException"), 0, M)))
theorem m_X8_charAt (G : tvG) (M : tvM) (x1 : Int32) : tvRun G yX8_charAt cX8_charAt 2 (some .char) 6 1 6 tvP0 tvP0 [.ref (G.2.1 + 0), .int x1] M (tvOx (some (.int (f_X8_charAt M x1).2.1)) (f_X8_charAt M x1).1) ((f_X8_charAt M x1).2.2) := by
  refine tvRun.of yk_X8_charAt rfl [some (.ref (G.2.1 + 0)), some (.int x1)] rfl (Nat.le_of_ble_eq_true rfl) ?_
  intro E hG C hQ; subst hG
  refine tv_iload_n C dk_X8_charAt_0 rfl ?_
  refine tv_if_lt C dk_X8_charAt_1 (fun h1 => ?_) (fun h1 => ?_)
  · exact tv_throwW C tvP0_ex hQ th_RX8_294_296 dk_X8_charAt_15 dk_X8_charAt_18 dk_X8_charAt_19 dk_X8_charAt_22 dk_X8_charAt_25 (Nat.le_of_ble_eq_true rfl) (Nat.le_of_ble_eq_true rfl) (by rw [f_X8_charAt, if_pos h1]; rfl) (by rw [f_X8_charAt, if_pos h1])
  refine tv_iload_n C dk_X8_charAt_4 rfl ?_
  refine tv_aload_n C dk_X8_charAt_5 rfl ?_
  refine tv_getR (r := 247) C dk_X8_charAt_6 fl_RX8_39 (Nat.le_of_ble_eq_true rfl) rfl rfl (fun _ _ _ _ => rfl) ?_
  refine tv_getI C dk_X8_charAt_9 fl_RX8_291 (Nat.le_of_ble_eq_true rfl) rfl (fun _ _ _ _ => rfl) ?_
  refine tv_icmp_lt C dk_X8_charAt_12 (fun h2 => ?_) (fun h2 => ?_)
  · refine tv_aload_n C dk_X8_charAt_26 rfl ?_
    refine tv_getR (r := 247) C dk_X8_charAt_27 fl_RX8_39 (Nat.le_of_ble_eq_true rfl) rfl rfl (fun _ _ _ _ => rfl) ?_
    refine tv_iload_n C dk_X8_charAt_30 rfl ?_
    refine tv_cV1 C dk_X8_charAt_31 ml_RX8_299 yk_X3_at yi_X3_at (m_X3_at _ M x1) (Nat.le_of_ble_eq_true rfl) rfl rfl rfl rfl (Nat.le_of_ble_eq_true rfl) (Nat.le_of_ble_eq_true rfl) (Nat.le_of_ble_eq_true rfl) (Nat.le_of_ble_eq_true rfl) (Nat.le_of_ble_eq_true rfl) ?_
    exact tv_iret C hQ dk_X8_charAt_34 (fz_X3_at) (by rw [f_X8_charAt, if_neg h1, if_pos h2]; rfl) (by rw [f_X8_charAt, if_neg h1, if_pos h2])
  exact tv_throwW C tvP0_ex hQ th_RX8_294_296 dk_X8_charAt_15 dk_X8_charAt_18 dk_X8_charAt_19 dk_X8_charAt_22 dk_X8_charAt_25 (Nat.le_of_ble_eq_true rfl) (Nat.le_of_ble_eq_true rfl) (by rw [f_X8_charAt, if_neg h1, if_neg h2]; rfl) (by rw [f_X8_charAt, if_neg h1, if_neg h2])
/-- TideVault.type(C)I -/
def f_X8_type (M : tvM) (x1 : Int32) : Option String × Int32 × tvM := (if (f_X5_isFull M) = 0 then (none, (f_X5_append M x1).1, (f_X5_append M x1).2) else ((some "java/lang/IllegalStateException"), 0, M))
theorem m_X8_type (G : tvG) (M : tvM) (x1 : Int32) : tvRun G yX8_type cX8_type 2 (some .int) 6 1 6 tvP0 tvP0 [.ref (G.2.1 + 0), .int x1] M (tvOx (some (.int (f_X8_type M x1).2.1)) (f_X8_type M x1).1) ((f_X8_type M x1).2.2) := by
  refine tvRun.of yk_X8_type rfl [some (.ref (G.2.1 + 0)), some (.int x1)] rfl (Nat.le_of_ble_eq_true rfl) ?_
  intro E hG C hQ; subst hG
  refine tv_aload_n C dk_X8_type_0 rfl ?_
  refine tv_getR (r := 243) C dk_X8_type_1 fl_RX8_32 (Nat.le_of_ble_eq_true rfl) rfl rfl (fun _ _ _ _ => rfl) ?_
  refine tv_cV1 C dk_X8_type_4 ml_RX8_302 yk_X5_isFull yi_X5_isFull (m_X5_isFull _ M) (Nat.le_of_ble_eq_true rfl) rfl rfl rfl rfl (Nat.le_of_ble_eq_true rfl) (Nat.le_of_ble_eq_true rfl) (Nat.le_of_ble_eq_true rfl) (Nat.le_of_ble_eq_true rfl) (Nat.le_of_ble_eq_true rfl) ?_
  refine tv_if_eq C dk_X8_type_7 (fun h1 => ?_) (fun h1 => ?_)
  · refine tv_aload_n C dk_X8_type_21 rfl ?_
    refine tv_getR (r := 243) C dk_X8_type_22 fl_RX8_32 (Nat.le_of_ble_eq_true rfl) rfl rfl (fun _ _ _ _ => rfl) ?_
    refine tv_iload_n C dk_X8_type_25 rfl ?_
    refine tv_cV1 C dk_X8_type_26 ml_RX8_310 yk_X5_append yi_X5_append (m_X5_append _ M x1) (Nat.le_of_ble_eq_true rfl) rfl rfl rfl rfl (Nat.le_of_ble_eq_true rfl) (Nat.le_of_ble_eq_true rfl) (Nat.le_of_ble_eq_true rfl) (Nat.le_of_ble_eq_true rfl) (Nat.le_of_ble_eq_true rfl) ?_
    exact tv_iret C hQ dk_X8_type_29 rfl (by rw [f_X8_type, if_pos h1]; rfl) (by rw [f_X8_type, if_pos h1])
  exact tv_throwW C tvP0_ex hQ th_RX8_305_307 dk_X8_type_10 dk_X8_type_13 dk_X8_type_14 dk_X8_type_17 dk_X8_type_20 (Nat.le_of_ble_eq_true rfl) (Nat.le_of_ble_eq_true rfl) (by rw [f_X8_type, if_neg h1]; rfl) (by rw [f_X8_type, if_neg h1])
/-- TideVault.errorPosition()I -/
def f_X8_errorPosition (M : tvM) : Option String × Int32 × tvM := (if (tgi M 0 7) = (-1) then ((some "java/util/NoSuchElementException"), 0, M) else (none, (tgi M 0 7), M))
theorem m_X8_errorPosition (G : tvG) (M : tvM) : tvRun G yX8_errorPosition cX8_errorPosition 1 (some .int) 6 1 6 tvP0 tvP0 [.ref (G.2.1 + 0)] M (tvOx (some (.int (f_X8_errorPosition M).2.1)) (f_X8_errorPosition M).1) ((f_X8_errorPosition M).2.2) := by
  refine tvRun.of yk_X8_errorPosition rfl [some (.ref (G.2.1 + 0))] rfl (Nat.le_of_ble_eq_true rfl) ?_
  intro E hG C hQ; subst hG
  refine tv_aload_n C dk_X8_errorPosition_0 rfl ?_
  refine tv_getI C dk_X8_errorPosition_1 fl_RX8_43 (Nat.le_of_ble_eq_true rfl) rfl (fun _ _ _ _ => rfl) ?_
  refine tv_iconst (v := (-1)) C dk_X8_errorPosition_4 (by decide) ?_
  refine tv_icmp_ne C dk_X8_errorPosition_5 (fun h1 => ?_) (fun h1 => ?_)
  · refine tv_aload_n C dk_X8_errorPosition_19 rfl ?_
    refine tv_getI C dk_X8_errorPosition_20 fl_RX8_43 (Nat.le_of_ble_eq_true rfl) rfl (fun _ _ _ _ => rfl) ?_
    exact tv_iret C hQ dk_X8_errorPosition_23 rfl (by rw [f_X8_errorPosition, if_neg h1]; rfl) (by rw [f_X8_errorPosition, if_neg h1])
  exact tv_throwNW C tvP0_ex hQ th_RX8_215_353 dk_X8_errorPosition_8 dk_X8_errorPosition_11 dk_X8_errorPosition_12 dk_X8_errorPosition_15 dk_X8_errorPosition_18 (Nat.le_of_ble_eq_true rfl) (Nat.le_of_ble_eq_true rfl) (by rw [f_X8_errorPosition, if_pos h1]; rfl) (by rw [f_X8_errorPosition, if_pos h1])
/-- TideVault.failedCommand()I -/
def f_X8_failedCommand (M : tvM) : Option String × Int32 × tvM := (if (f_X8_refuse M (f_X8_refusalWithoutFailure M)).1 = none then (none, (tgi M 0 8), M) else ((f_X8_refuse M (f_X8_refusalWithoutFailure M)).1, 0, M))
theorem m_X8_failedCommand (G : tvG) (M : tvM) : tvRun G yX8_failedCommand cX8_failedCommand 1 (some .int) 7 1 6 tvP0 tvP0 [.ref (G.2.1 + 0)] M (tvOx (some (.int (f_X8_failedCommand M).2.1)) (f_X8_failedCommand M).1) ((f_X8_failedCommand M).2.2) := by
  refine tvRun.of yk_X8_failedCommand rfl [some (.ref (G.2.1 + 0))] rfl (Nat.le_of_ble_eq_true rfl) ?_
  intro E hG C hQ; subst hG
  refine tv_aload_n C dk_X8_failedCommand_0 rfl ?_
  refine tv_cV1 C dk_X8_failedCommand_1 ml_RX8_355 yk_X8_refusalWithoutFailure yi_X8_refusalWithoutFailure (m_X8_refusalWithoutFailure _ M) (Nat.le_of_ble_eq_true rfl) rfl rfl rfl rfl (Nat.le_of_ble_eq_true rfl) (Nat.le_of_ble_eq_true rfl) (Nat.le_of_ble_eq_true rfl) (Nat.le_of_ble_eq_true rfl) (Nat.le_of_ble_eq_true rfl) ?_
  refine tv_cSx C dk_X8_failedCommand_4 ml_RX8_54 yk_X8_refuse yi_X8_refuse (m_X8_refuse _ M (f_X8_refusalWithoutFailure M)) rfl rfl (Nat.le_of_ble_eq_true rfl) (Nat.le_of_ble_eq_true rfl) (Nat.le_of_ble_eq_true rfl) (Nat.le_of_ble_eq_true rfl) (Nat.le_of_ble_eq_true rfl) rfl rfl rfl (fun _ h1e => tv_out C hQ (by rw [f_X8_failedCommand, if_neg (tv_sn h1e)]; rw [h1e]; rfl) (by rw [f_X8_failedCommand, if_neg (tv_sn h1e)])) (fun h1 => ?_)
  refine tv_aload_n C dk_X8_failedCommand_7 rfl ?_
  refine tv_getI C dk_X8_failedCommand_8 fl_RX8_47 (Nat.le_of_ble_eq_true rfl) rfl (fun _ _ _ _ => rfl) ?_
  exact tv_iret C hQ dk_X8_failedCommand_11 rfl (by rw [f_X8_failedCommand, if_pos h1]; rfl) (by rw [f_X8_failedCommand, if_pos h1])
/-- TideVault.undo()I -/
def f_X8_undo (M : tvM) : Option String × Int32 × tvM := (if (tgi M 61 2) = 0 then ((some "java/lang/IllegalStateException"), 0, M) else (none, (f_X1_stepBack M).1, (f_X1_stepBack M).2))
theorem m_X8_undo (G : tvG) (M : tvM) : tvRun G yX8_undo cX8_undo 1 (some .int) 6 1 6 tvP0 tvP0 [.ref (G.2.1 + 0)] M (tvOx (some (.int (f_X8_undo M).2.1)) (f_X8_undo M).1) ((f_X8_undo M).2.2) := by
  refine tvRun.of yk_X8_undo rfl [some (.ref (G.2.1 + 0))] rfl (Nat.le_of_ble_eq_true rfl) ?_
  intro E hG C hQ; subst hG
  refine tv_aload_n C dk_X8_undo_0 rfl ?_
  refine tv_getR (r := 61) C dk_X8_undo_1 fl_RX8_25 (Nat.le_of_ble_eq_true rfl) rfl rfl (fun _ _ _ _ => rfl) ?_
  refine tv_getI C dk_X8_undo_4 fl_RX8_358 (Nat.le_of_ble_eq_true rfl) rfl (fun _ _ _ _ => rfl) ?_
  refine tv_if_ne C dk_X8_undo_7 (fun h1 => ?_) (fun h1 => ?_)
  · refine tv_aload_n C dk_X8_undo_21 rfl ?_
    refine tv_getR (r := 61) C dk_X8_undo_22 fl_RX8_25 (Nat.le_of_ble_eq_true rfl) rfl rfl (fun _ _ _ _ => rfl) ?_
    refine tv_aload_n C dk_X8_undo_25 rfl ?_
    refine tv_getR (r := 1) C dk_X8_undo_26 fl_RX8_12 (Nat.le_of_ble_eq_true rfl) rfl rfl (fun _ _ _ _ => rfl) ?_
    refine tv_cV1 C dk_X8_undo_29 ml_RX8_361 yk_X1_stepBack yi_X1_stepBack (m_X1_stepBack _ M) (Nat.le_of_ble_eq_true rfl) rfl rfl rfl rfl (Nat.le_of_ble_eq_true rfl) (Nat.le_of_ble_eq_true rfl) (Nat.le_of_ble_eq_true rfl) (Nat.le_of_ble_eq_true rfl) (Nat.le_of_ble_eq_true rfl) ?_
    exact tv_iret C hQ dk_X8_undo_32 rfl (by rw [f_X8_undo, if_neg h1]; rfl) (by rw [f_X8_undo, if_neg h1])
  exact tv_throwW C tvP0_ex hQ th_RX8_305_359 dk_X8_undo_10 dk_X8_undo_13 dk_X8_undo_14 dk_X8_undo_17 dk_X8_undo_20 (Nat.le_of_ble_eq_true rfl) (Nat.le_of_ble_eq_true rfl) (by rw [f_X8_undo, if_pos h1]; rfl) (by rw [f_X8_undo, if_pos h1])
/-- TideVault.save()I -/
def f_X8_save (M : tvM) : Int32 × tvM := ((tgi (tpi (f_X6_copyFrom M 41 1) 0 6 1) (1 + 6) 0), (tpi (f_X6_copyFrom M 41 1) 0 6 1))
theorem m_X8_save (G : tvG) (M : tvM) : tvRun G yX8_save cX8_save 1 (some .int) 3 0 0 tvP0 tvP0 [.ref (G.2.1 + 0)] M (.inl (some (.int (f_X8_save M).1))) ((f_X8_save M).2) := by
  refine tvRun.of yk_X8_save rfl [some (.ref (G.2.1 + 0))] rfl (Nat.le_of_ble_eq_true rfl) ?_
  intro E hG C hQ; subst hG
  refine tv_aload_n C dk_X8_save_0 rfl ?_
  refine tv_getR (r := 41) C dk_X8_save_1 fl_RX8_19 (Nat.le_of_ble_eq_true rfl) rfl rfl (fun _ _ _ _ => rfl) ?_
  refine tv_aload_n C dk_X8_save_4 rfl ?_
  refine tv_getR (r := 1) C dk_X8_save_5 fl_RX8_12 (Nat.le_of_ble_eq_true rfl) rfl rfl (fun _ _ _ _ => rfl) ?_
  refine tv_cV0 C dk_X8_save_8 ml_RX8_206 yk_X6_copyFrom yi_X6_copyFrom (m_X6_copyFrom _ M tvSBn_41 tvSBn_1 (by decide)) (tvSB_sh tvSBn_41 0 (by decide)).2 (tvSB_sh tvSBn_41 0 (by decide)).1 rfl rfl rfl (Nat.le_of_ble_eq_true rfl) (Nat.le_of_ble_eq_true rfl) (Nat.le_of_ble_eq_true rfl) (Nat.le_of_ble_eq_true rfl) (Nat.le_of_ble_eq_true rfl) ?_
  refine tv_aload_n C dk_X8_save_11 rfl ?_
  refine tv_iconst (v := 1) C dk_X8_save_12 (by decide) ?_
  refine tv_putI C tvP0_ex dk_X8_save_13 fl_RX8_365 fw_8_6 (Nat.le_of_ble_eq_true rfl) rfl rfl (fun _ _ _ _ _ => rfl) rfl rfl ?_
  refine tv_aload_n C dk_X8_save_16 rfl ?_
  refine tv_getR (r := 1) C dk_X8_save_17 fl_RX8_12 (Nat.le_of_ble_eq_true rfl) rfl rfl (fun _ _ _ _ => rfl) ?_
  refine tv_getR (r := (1 + 6)) C dk_X8_save_20 fl_RX8_75 (tvSB_sh tvSBn_1 0 (by decide)).2 (tvSB_sh tvSBn_1 0 (by decide)).1 (tvSB_rho tvSBn_1 (0, 2, 6) (by decide)) (fun _ _ _ _ => rfl) ?_
  refine tv_getI C dk_X8_save_23 fl_RX8_171 (tvSB_sh tvSBn_1 6 (by decide)).2 (tvSB_sh tvSBn_1 6 (by decide)).1 (fun _ _ _ _ => rfl) ?_
  exact tv_iret C hQ dk_X8_save_26 rfl (by rw [f_X8_save]) (by rw [f_X8_save])
/-- TideVault.restore()I -/
def f_X8_restore (M : tvM) : Option String × Int32 × tvM := (if (tgi M 0 6) = 0 then ((some "java/lang/IllegalStateException"), 0, M) else (none, (tgi (f_X1_forget (f_X6_copyFrom M 1 41)) (1 + 6) 0), (f_X1_forget (f_X6_copyFrom M 1 41))))
theorem m_X8_restore (G : tvG) (M : tvM) : tvRun G yX8_restore cX8_restore 1 (some .int) 6 1 6 tvP0 tvP0 [.ref (G.2.1 + 0)] M (tvOx (some (.int (f_X8_restore M).2.1)) (f_X8_restore M).1) ((f_X8_restore M).2.2) := by
  refine tvRun.of yk_X8_restore rfl [some (.ref (G.2.1 + 0))] rfl (Nat.le_of_ble_eq_true rfl) ?_
  intro E hG C hQ; subst hG
  refine tv_aload_n C dk_X8_restore_0 rfl ?_
  refine tv_getI C dk_X8_restore_1 fl_RX8_365 (Nat.le_of_ble_eq_true rfl) rfl (fun _ _ _ _ => rfl) ?_
  refine tv_if_ne C dk_X8_restore_4 (fun h1 => ?_) (fun h1 => ?_)
  · refine tv_aload_n C dk_X8_restore_18 rfl ?_
    refine tv_getR (r := 1) C dk_X8_restore_19 fl_RX8_12 (Nat.le_of_ble_eq_true rfl) rfl rfl (fun _ _ _ _ => rfl) ?_
    refine tv_aload_n C dk_X8_restore_22 rfl ?_
    refine tv_getR (r := 41) C dk_X8_restore_23 fl_RX8_19 (Nat.le_of_ble_eq_true rfl) rfl rfl (fun _ _ _ _ => rfl) ?_
    refine tv_cV0 C dk_X8_restore_26 ml_RX8_206 yk_X6_copyFrom yi_X6_copyFrom (m_X6_copyFrom _ M tvSBn_1 tvSBn_41 (by decide)) (tvSB_sh tvSBn_1 0 (by decide)).2 (tvSB_sh tvSBn_1 0 (by decide)).1 rfl rfl rfl (Nat.le_of_ble_eq_true rfl) (Nat.le_of_ble_eq_true rfl) (Nat.le_of_ble_eq_true rfl) (Nat.le_of_ble_eq_true rfl) (Nat.le_of_ble_eq_true rfl) ?_
    refine tv_aload_n C dk_X8_restore_29 rfl ?_
    refine tv_getR (r := 61) C dk_X8_restore_30 fl_RX8_25 (Nat.le_of_ble_eq_true rfl) rfl rfl (fun _ _ _ _ => rfl) ?_
    refine tv_cV0 C dk_X8_restore_33 ml_RX8_370 yk_X1_forget yi_X1_forget (m_X1_forget _ (f_X6_copyFrom M 1 41)) (Nat.le_of_ble_eq_true rfl) rfl rfl rfl rfl (Nat.le_of_ble_eq_true rfl) (Nat.le_of_ble_eq_true rfl) (Nat.le_of_ble_eq_true rfl) (Nat.le_of_ble_eq_true rfl) (Nat.le_of_ble_eq_true rfl) ?_
    refine tv_aload_n C dk_X8_restore_36 rfl ?_
    refine tv_getR (r := 1) C dk_X8_restore_37 fl_RX8_12 (Nat.le_of_ble_eq_true rfl) rfl rfl (fun _ _ _ _ => rfl) ?_
    refine tv_getR (r := (1 + 6)) C dk_X8_restore_40 fl_RX8_75 (tvSB_sh tvSBn_1 0 (by decide)).2 (tvSB_sh tvSBn_1 0 (by decide)).1 (tvSB_rho tvSBn_1 (0, 2, 6) (by decide)) (fun _ _ _ _ => rfl) ?_
    refine tv_getI C dk_X8_restore_43 fl_RX8_171 (tvSB_sh tvSBn_1 6 (by decide)).2 (tvSB_sh tvSBn_1 6 (by decide)).1 (fun _ _ _ _ => rfl) ?_
    exact tv_iret C hQ dk_X8_restore_46 rfl (by rw [f_X8_restore, if_neg h1]; rfl) (by rw [f_X8_restore, if_neg h1])
  exact tv_throwW C tvP0_ex hQ th_RX8_305_368 dk_X8_restore_7 dk_X8_restore_10 dk_X8_restore_11 dk_X8_restore_14 dk_X8_restore_17 (Nat.le_of_ble_eq_true rfl) (Nat.le_of_ble_eq_true rfl) (by rw [f_X8_restore, if_pos h1]; rfl) (by rw [f_X8_restore, if_pos h1])
/-- TideVault.wasWrongCode()Z -/
def f_X8_wasWrongCode (M : tvM) : Option String × Int32 × tvM := (if (f_X8_refuse M (f_X8_refusalWithoutFailure M)).1 = none then (none, (tgi M 0 9), M) else ((f_X8_refuse M (f_X8_refusalWithoutFailure M)).1, 0, M))
theorem m_X8_wasWrongCode (G : tvG) (M : tvM) (hz : narrow .boolean (.int (tgi M 0 9)) = .int (tgi M 0 9)) : tvRun G yX8_wasWrongCode cX8_wasWrongCode 1 (some .boolean) 7 1 6 tvP0 tvP0 [.ref (G.2.1 + 0)] M (tvOx (some (.int (f_X8_wasWrongCode M).2.1)) (f_X8_wasWrongCode M).1) ((f_X8_wasWrongCode M).2.2) := by
  refine tvRun.of yk_X8_wasWrongCode rfl [some (.ref (G.2.1 + 0))] rfl (Nat.le_of_ble_eq_true rfl) ?_
  intro E hG C hQ; subst hG
  refine tv_aload_n C dk_X8_wasWrongCode_0 rfl ?_
  refine tv_cV1 C dk_X8_wasWrongCode_1 ml_RX8_355 yk_X8_refusalWithoutFailure yi_X8_refusalWithoutFailure (m_X8_refusalWithoutFailure _ M) (Nat.le_of_ble_eq_true rfl) rfl rfl rfl rfl (Nat.le_of_ble_eq_true rfl) (Nat.le_of_ble_eq_true rfl) (Nat.le_of_ble_eq_true rfl) (Nat.le_of_ble_eq_true rfl) (Nat.le_of_ble_eq_true rfl) ?_
  refine tv_cSx C dk_X8_wasWrongCode_4 ml_RX8_54 yk_X8_refuse yi_X8_refuse (m_X8_refuse _ M (f_X8_refusalWithoutFailure M)) rfl rfl (Nat.le_of_ble_eq_true rfl) (Nat.le_of_ble_eq_true rfl) (Nat.le_of_ble_eq_true rfl) (Nat.le_of_ble_eq_true rfl) (Nat.le_of_ble_eq_true rfl) rfl rfl rfl (fun _ h1e => tv_out C hQ (by rw [f_X8_wasWrongCode, if_neg (tv_sn h1e)]; rw [h1e]; rfl) (by rw [f_X8_wasWrongCode, if_neg (tv_sn h1e)])) (fun h1 => ?_)
  refine tv_aload_n C dk_X8_wasWrongCode_7 rfl ?_
  refine tv_getI C dk_X8_wasWrongCode_8 fl_RX8_337 (Nat.le_of_ble_eq_true rfl) rfl (fun _ _ _ _ => rfl) ?_
  exact tv_iret C hQ dk_X8_wasWrongCode_11 hz (by rw [f_X8_wasWrongCode, if_pos h1]; rfl) (by rw [f_X8_wasWrongCode, if_pos h1])
/-- TideVault.meanValue()D -/
def f_X8_meanValue (M : tvM) : Option String × UInt64 × tvM := (if (f_X0_pearlsInAll M 1) = 0 then ((some "java/lang/ArithmeticException"), 0, M) else (none, (FP.ddiv (FP.l2d (f_X0_sumOfAll M 1)) (FP.i2d (f_X0_pearlsInAll M 1))), M))
theorem m_X8_meanValue (G : tvG) (M : tvM) (hnn : ¬ (f_X0_pearlsInAll M 1) = 0 → vf_n64 (FP.ddiv (FP.l2d (f_X0_sumOfAll M 1)) (FP.i2d (f_X0_pearlsInAll M 1)))) : tvRun G yX8_meanValue cX8_meanValue 2 (some .double) 6 1 6 tvP0 tvP0 [.ref (G.2.1 + 0)] M (tvOx (some (.double (f_X8_meanValue M).2.1)) (f_X8_meanValue M).1) ((f_X8_meanValue M).2.2) := by
  refine tvRun.of yk_X8_meanValue rfl [some (.ref (G.2.1 + 0)), none] rfl (Nat.le_of_ble_eq_true rfl) ?_
  intro E hG C hQ; subst hG
  refine tv_aload_n C dk_X8_meanValue_0 rfl ?_
  refine tv_getR (r := 1) C dk_X8_meanValue_1 fl_RX8_12 (Nat.le_of_ble_eq_true rfl) rfl rfl (fun _ _ _ _ => rfl) ?_
  refine tv_getR (r := (1 + 6)) C dk_X8_meanValue_4 fl_RX8_75 (tvSB_sh tvSBn_1 0 (by decide)).2 (tvSB_sh tvSBn_1 0 (by decide)).1 (tvSB_rho tvSBn_1 (0, 2, 6) (by decide)) (fun _ _ _ _ => rfl) ?_
  refine tv_cV1 C dk_X8_meanValue_7 ml_RX8_240 yk_X0_pearlsInAll yi_X0_pearlsInAll (n_X0_pearlsInAll _ M tvSBn_1) (tvSB_sh tvSBn_1 6 (by decide)).2 (tvSB_sh tvSBn_1 6 (by decide)).1 rfl rfl rfl (Nat.le_of_ble_eq_true rfl) (Nat.le_of_ble_eq_true rfl) (Nat.le_of_ble_eq_true rfl) (Nat.le_of_ble_eq_true rfl) (Nat.le_of_ble_eq_true rfl) ?_
  refine tv_istore_n (L' := [_, _]) (hn := by decide) (hlt := (Nat.le_of_ble_eq_true rfl)) (hno := rfl) C dk_X8_meanValue_10 rfl ?_
  refine tv_iload_n C dk_X8_meanValue_11 rfl ?_
  refine tv_if_ne C dk_X8_meanValue_12 (fun h1 => ?_) (fun h1 => ?_)
  · refine tv_aload_n C dk_X8_meanValue_25 rfl ?_
    refine tv_getR (r := 1) C dk_X8_meanValue_26 fl_RX8_12 (Nat.le_of_ble_eq_true rfl) rfl rfl (fun _ _ _ _ => rfl) ?_
    refine tv_getR (r := (1 + 6)) C dk_X8_meanValue_29 fl_RX8_75 (tvSB_sh tvSBn_1 0 (by decide)).2 (tvSB_sh tvSBn_1 0 (by decide)).1 (tvSB_rho tvSBn_1 (0, 2, 6) (by decide)) (fun _ _ _ _ => rfl) ?_
    refine tv_cV1 C dk_X8_meanValue_32 ml_RX8_232 yk_X0_sumOfAll yi_X0_sumOfAll (n_X0_sumOfAll _ M tvSBn_1) (tvSB_sh tvSBn_1 6 (by decide)).2 (tvSB_sh tvSBn_1 6 (by decide)).1 rfl rfl rfl (Nat.le_of_ble_eq_true rfl) (Nat.le_of_ble_eq_true rfl) (Nat.le_of_ble_eq_true rfl) (Nat.le_of_ble_eq_true rfl) (Nat.le_of_ble_eq_true rfl) ?_
    refine tv_l2d C dk_X8_meanValue_35 ?_
    refine tv_iload_n C dk_X8_meanValue_36 rfl ?_
    refine tv_i2d C dk_X8_meanValue_37 ?_
    refine tv_ddiv C dk_X8_meanValue_38 (hnn h1) ?_
    exact tv_dret C hQ dk_X8_meanValue_39 (by rw [f_X8_meanValue, if_neg h1]; rfl) (by rw [f_X8_meanValue, if_neg h1])
  exact tv_throw C tvP0_ex hQ th_RX8_244_246 dk_X8_meanValue_15 dk_X8_meanValue_18 dk_X8_meanValue_19 dk_X8_meanValue_21 dk_X8_meanValue_24 (Nat.le_of_ble_eq_true rfl) (Nat.le_of_ble_eq_true rfl) (by rw [f_X8_meanValue, if_pos h1]; rfl) (by rw [f_X8_meanValue, if_pos h1])
/-- TideVault.failureRate()F -/
def f_X8_failureRate (M : tvM) : Option String × UInt32 × tvM := (if (tgi M 1 6) = 0 then ((some "java/lang/ArithmeticException"), 0, M) else (none, (FP.fdiv (FP.i2f (tgi M 1 7)) (FP.i2f (tgi M 1 6))), M))
theorem m_X8_failureRate (G : tvG) (M : tvM) (hnn : ¬ (tgi M 1 6) = 0 → vf_n32 (FP.fdiv (FP.i2f (tgi M 1 7)) (FP.i2f (tgi M 1 6)))) : tvRun G yX8_failureRate cX8_failureRate 1 (some .float) 6 1 6 tvP0 tvP0 [.ref (G.2.1 + 0)] M (tvOx (some (.float (f_X8_failureRate M).2.1)) (f_X8_failureRate M).1) ((f_X8_failureRate M).2.2) := by
  refine tvRun.of yk_X8_failureRate rfl [some (.ref (G.2.1 + 0))] rfl (Nat.le_of_ble_eq_true rfl) ?_
  intro E hG C hQ; subst hG
  refine tv_aload_n C dk_X8_failureRate_0 rfl ?_
  refine tv_getR (r := 1) C dk_X8_failureRate_1 fl_RX8_12 (Nat.le_of_ble_eq_true rfl) rfl rfl (fun _ _ _ _ => rfl) ?_
  refine tv_getI C dk_X8_failureRate_4 fl_RX8_249 (tvSB_sh tvSBn_1 0 (by decide)).2 (tvSB_sh tvSBn_1 0 (by decide)).1 (fun _ _ _ _ => rfl) ?_
  refine tv_if_ne C dk_X8_failureRate_7 (fun h1 => ?_) (fun h1 => ?_)
  · refine tv_aload_n C dk_X8_failureRate_20 rfl ?_
    refine tv_getR (r := 1) C dk_X8_failureRate_21 fl_RX8_12 (Nat.le_of_ble_eq_true rfl) rfl rfl (fun _ _ _ _ => rfl) ?_
    refine tv_getI C dk_X8_failureRate_24 fl_RX8_254 (tvSB_sh tvSBn_1 0 (by decide)).2 (tvSB_sh tvSBn_1 0 (by decide)).1 (fun _ _ _ _ => rfl) ?_
    refine tv_i2f C dk_X8_failureRate_27 ?_
    refine tv_aload_n C dk_X8_failureRate_28 rfl ?_
    refine tv_getR (r := 1) C dk_X8_failureRate_29 fl_RX8_12 (Nat.le_of_ble_eq_true rfl) rfl rfl (fun _ _ _ _ => rfl) ?_
    refine tv_getI C dk_X8_failureRate_32 fl_RX8_249 (tvSB_sh tvSBn_1 0 (by decide)).2 (tvSB_sh tvSBn_1 0 (by decide)).1 (fun _ _ _ _ => rfl) ?_
    refine tv_i2f C dk_X8_failureRate_35 ?_
    refine tv_fdiv C dk_X8_failureRate_36 (hnn h1) ?_
    exact tv_fret C hQ dk_X8_failureRate_37 (by rw [f_X8_failureRate, if_neg h1]; rfl) (by rw [f_X8_failureRate, if_neg h1])
  exact tv_throw C tvP0_ex hQ th_RX8_244_252 dk_X8_failureRate_10 dk_X8_failureRate_13 dk_X8_failureRate_14 dk_X8_failureRate_16 dk_X8_failureRate_19 (Nat.le_of_ble_eq_true rfl) (Nat.le_of_ble_eq_true rfl) (by rw [f_X8_failureRate, if_pos h1]; rfl) (by rw [f_X8_failureRate, if_pos h1])
