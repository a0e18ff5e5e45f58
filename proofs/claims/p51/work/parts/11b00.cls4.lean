theorem tv_xor9 (x : Int32) : (0 ≤ x ^^^ 9) ↔ 0 ≤ x := by
  have h1 : ∀ z : Int32, (0 ≤ z) ↔ z.toBitVec.msb = false := fun z => by
    rw [Int32.le_iff_toInt_le, BitVec.msb_eq_toInt, Int32.toInt_toBitVec, decide_eq_false_iff_not]
    show (0 : Int) ≤ _ ↔ _
    omega
  have h9 : (9#32 : BitVec 32).msb = false := by decide
  rw [h1, h1, Int32.toBitVec_xor, BitVec.msb_xor]
  simp [h9]
theorem f_J9_floorMod_7cf53_in (M : tvM) (x : Int32) : vp_in (f_J9_floorMod_7cf53 M x 9) 9 := by
  have hr := tv_rem (x := x) (y := 9) (by decide)
  have h9 : ((9 : Int32)).toInt = 9 := rfl
  rw [h9] at hr
  have e2 := Int.tmod_lt_of_pos x.toInt (show (0 : Int) < 9 by decide)
  have e3 := Int.tmod_lt_of_pos (-x.toInt) (show (0 : Int) < 9 by decide)
  rw [Int.neg_tmod] at e3
  unfold f_J9_floorMod_7cf53
  split
  · rename_i h
    rw [tv_xor9, Int32.le_iff_toInt_le] at h
    have := Int.tmod_nonneg 9 (show 0 ≤ x.toInt from h)
    rw [vp_in_iff, hr]
    omega
  · rename_i h
    rw [tv_xor9, Int32.le_iff_toInt_le] at h
    have h0 : x.toInt ≤ 0 := by
      have : (0 : Int32).toInt = 0 := rfl
      omega
    have e5 := Int.tmod_nonneg (a := -x.toInt) 9 (by omega)
    rw [Int.neg_tmod] at e5
    split
    · rename_i h2
      rw [h2]
      exact vp_in_nI (n := 0) (N := 9) (by decide) (by decide)
    · rename_i h2
      have h3 : x.toInt.tmod 9 ≠ 0 := fun q => h2 (by rw [← Int32.toInt_inj, hr, q]; rfl)
      have h4 : (x - x / 9 * 9 + 9).toInt = x.toInt.tmod 9 + 9 := by
        rw [fb_addI, hr, h9]
        · rw [hr, h9]; omega
        · rw [hr, h9]; omega
      rw [vp_in_iff, h4]
      omega
theorem tvin_lt {x : Int32} {n : Nat} (h : vp_in x n) : x.toNatClampNeg < n := Nat.not_le.mp fun q => h (Or.inr q)
/-- TideVault$History.begin(LTideVault$State;)V -/
def f_X1_begin (M : tvM) : tvM := (f_X6_copyFrom M (63 + 20 * (f_J9_floorMod_7cf53 M (tgi M 61 1) 9).toNatClampNeg) 1)
theorem m_X1_begin (G : tvG) (M : tvM) : tvRun G yX1_begin cX1_begin 3 none 3 0 0 tvP0 tvP0 [.ref (G.2.1 + 61), .ref (G.2.1 + 1)] M (.inl none) (f_X1_begin M) := by
  refine tvRun.of yk_X1_begin rfl [some (.ref (G.2.1 + 61)), some (.ref (G.2.1 + 1)), none] rfl (Nat.le_of_ble_eq_true rfl) ?_
  intro E hG C hQ; subst hG
  refine tv_aload_n C dk_X1_begin_0 rfl ?_
  refine tv_getR (r := 62) C dk_X1_begin_1 fl_RX1_13 (Nat.le_of_ble_eq_true rfl) rfl rfl (fun _ _ _ _ => rfl) ?_
  refine tv_aload_n C dk_X1_begin_4 rfl ?_
  refine tv_getI C dk_X1_begin_5 fl_RX1_25 (Nat.le_of_ble_eq_true rfl) rfl (fun _ _ _ _ => rfl) ?_
  refine tv_bipush (v := 9) C dk_X1_begin_8 (by decide) ?_
  refine tv_cS1 C dk_X1_begin_10 ml_RX1_29 yk_J9_floorMod_7cf53 yi_J9_floorMod_7cf53 (m_J9_floorMod_7cf53 _ M (tgi M 61 1) 9 (by decide)) rfl rfl (Nat.le_of_ble_eq_true rfl) (Nat.le_of_ble_eq_true rfl) (Nat.le_of_ble_eq_true rfl) (Nat.le_of_ble_eq_true rfl) (Nat.le_of_ble_eq_true rfl) ?_
  refine tv_aaload (b := (63 + 20 * (f_J9_floorMod_7cf53 M (tgi M 61 1) 9).toNatClampNeg)) C dk_X1_begin_13 (Nat.le_of_ble_eq_true rfl) rfl (f_J9_floorMod_7cf53_in _ _) (tvSB_slot _ (tvin_lt (f_J9_floorMod_7cf53_in _ _))).2 ?_
  refine tv_astore_n (L' := [_, _, _]) (hn := by decide) (hlt := (Nat.le_of_ble_eq_true rfl)) (hno := rfl) C dk_X1_begin_14 rfl ?_
  refine tv_aload_n C dk_X1_begin_15 rfl ?_
  refine tv_ifnull C dk_X1_begin_16 ?_
  refine tv_aload_n C dk_X1_begin_19 rfl ?_
  refine tv_aload_n C dk_X1_begin_20 rfl ?_
  refine tv_cV0 C dk_X1_begin_21 ml_RX1_35 yk_X6_copyFrom yi_X6_copyFrom (m_X6_copyFrom _ M (tvSB_slot _ (tvin_lt (f_J9_floorMod_7cf53_in _ _))).1 tvSBn_1 (by omega)) (tvSB_sh (tvSB_slot _ (tvin_lt (f_J9_floorMod_7cf53_in _ _))).1 0 (by decide)).2 (tvSB_sh (tvSB_slot _ (tvin_lt (f_J9_floorMod_7cf53_in _ _))).1 0 (by decide)).1 rfl rfl rfl (Nat.le_of_ble_eq_true rfl) (Nat.le_of_ble_eq_true rfl) (Nat.le_of_ble_eq_true rfl) (Nat.le_of_ble_eq_true rfl) (Nat.le_of_ble_eq_true rfl) ?_
  exact tv_vret C hQ dk_X1_begin_24 rfl (by rw [f_X1_begin])
/-- TideVault$History.commit()V -/
def f_X1_commit (M : tvM) : tvM := (tpi (tpi M 61 1 (f_J9_floorMod_7cf53 M ((tgi M 61 1) + 1) 9)) 61 2 (f_J9_min_7cf53 (tpi M 61 1 (f_J9_floorMod_7cf53 M ((tgi M 61 1) + 1) 9)) ((tgi (tpi M 61 1 (f_J9_floorMod_7cf53 M ((tgi M 61 1) + 1) 9)) 61 2) + 1) 8))
theorem m_X1_commit (G : tvG) (M : tvM) : tvRun G yX1_commit cX1_commit 1 none 2 0 0 tvP0 tvP0 [.ref (G.2.1 + 61)] M (.inl none) (f_X1_commit M) := by
  refine tvRun.of yk_X1_commit rfl [some (.ref (G.2.1 + 61))] rfl (Nat.le_of_ble_eq_true rfl) ?_
  intro E hG C hQ; subst hG
  refine tv_aload_n C dk_X1_commit_0 rfl ?_
  refine tv_aload_n C dk_X1_commit_1 rfl ?_
  refine tv_getI C dk_X1_commit_2 fl_RX1_25 (Nat.le_of_ble_eq_true rfl) rfl (fun _ _ _ _ => rfl) ?_
  refine tv_iconst (v := 1) C dk_X1_commit_5 (by decide) ?_
  refine tv_iadd C dk_X1_commit_6 ?_
  refine tv_bipush (v := 9) C dk_X1_commit_7 (by decide) ?_
  refine tv_cS1 C dk_X1_commit_9 ml_RX1_29 yk_J9_floorMod_7cf53 yi_J9_floorMod_7cf53 (m_J9_floorMod_7cf53 _ M ((tgi M 61 1) + 1) 9 (by decide)) rfl rfl (Nat.le_of_ble_eq_true rfl) (Nat.le_of_ble_eq_true rfl) (Nat.le_of_ble_eq_true rfl) (Nat.le_of_ble_eq_true rfl) (Nat.le_of_ble_eq_true rfl) ?_
  refine tv_putI C tvP0_ex dk_X1_commit_12 fl_RX1_25 fw_1_1 (Nat.le_of_ble_eq_true rfl) rfl rfl (fun _ _ _ _ _ => rfl) rfl rfl ?_
  refine tv_aload_n C dk_X1_commit_15 rfl ?_
  refine tv_aload_n C dk_X1_commit_16 rfl ?_
  refine tv_getI C dk_X1_commit_17 fl_RX1_38 (Nat.le_of_ble_eq_true rfl) rfl (fun _ _ _ _ => rfl) ?_
  refine tv_iconst (v := 1) C dk_X1_commit_20 (by decide) ?_
  refine tv_iadd C dk_X1_commit_21 ?_
  refine tv_bipush (v := 8) C dk_X1_commit_22 (by decide) ?_
  refine tv_cS1 C dk_X1_commit_24 ml_RX1_41 yk_J9_min_7cf53 yi_J9_min_7cf53 (m_J9_min_7cf53 _ (tpi M 61 1 (f_J9_floorMod_7cf53 M ((tgi M 61 1) + 1) 9)) ((tgi (tpi M 61 1 (f_J9_floorMod_7cf53 M ((tgi M 61 1) + 1) 9)) 61 2) + 1) 8) rfl rfl (Nat.le_of_ble_eq_true rfl) (Nat.le_of_ble_eq_true rfl) (Nat.le_of_ble_eq_true rfl) (Nat.le_of_ble_eq_true rfl) (Nat.le_of_ble_eq_true rfl) ?_
  refine tv_putI C tvP0_ex dk_X1_commit_27 fl_RX1_38 fw_1_2 (Nat.le_of_ble_eq_true rfl) rfl rfl (fun _ _ _ _ _ => rfl) rfl rfl ?_
  exact tv_vret C hQ dk_X1_commit_30 rfl (by rw [f_X1_commit])
/-- TideVault$History.cancel(LTideVault$State;)V -/
def f_X1_cancel (M : tvM) : tvM := (f_X6_copyFrom M 1 (63 + 20 * (f_J9_floorMod_7cf53 M (tgi M 61 1) 9).toNatClampNeg))
theorem m_X1_cancel (G : tvG) (M : tvM) : tvRun G yX1_cancel cX1_cancel 3 none 3 0 0 tvP0 tvP0 [.ref (G.2.1 + 61), .ref (G.2.1 + 1)] M (.inl none) (f_X1_cancel M) := by
  refine tvRun.of yk_X1_cancel rfl [some (.ref (G.2.1 + 61)), some (.ref (G.2.1 + 1)), none] rfl (Nat.le_of_ble_eq_true rfl) ?_
  intro E hG C hQ; subst hG
  refine tv_aload_n C dk_X1_cancel_0 rfl ?_
  refine tv_getR (r := 62) C dk_X1_cancel_1 fl_RX1_13 (Nat.le_of_ble_eq_true rfl) rfl rfl (fun _ _ _ _ => rfl) ?_
  refine tv_aload_n C dk_X1_cancel_4 rfl ?_
  refine tv_getI C dk_X1_cancel_5 fl_RX1_25 (Nat.le_of_ble_eq_true rfl) rfl (fun _ _ _ _ => rfl) ?_
  refine tv_bipush (v := 9) C dk_X1_cancel_8 (by decide) ?_
  refine tv_cS1 C dk_X1_cancel_10 ml_RX1_29 yk_J9_floorMod_7cf53 yi_J9_floorMod_7cf53 (m_J9_floorMod_7cf53 _ M (tgi M 61 1) 9 (by decide)) rfl rfl (Nat.le_of_ble_eq_true rfl) (Nat.le_of_ble_eq_true rfl) (Nat.le_of_ble_eq_true rfl) (Nat.le_of_ble_eq_true rfl) (Nat.le_of_ble_eq_true rfl) ?_
  refine tv_aaload (b := (63 + 20 * (f_J9_floorMod_7cf53 M (tgi M 61 1) 9).toNatClampNeg)) C dk_X1_cancel_13 (Nat.le_of_ble_eq_true rfl) rfl (f_J9_floorMod_7cf53_in _ _) (tvSB_slot _ (tvin_lt (f_J9_floorMod_7cf53_in _ _))).2 ?_
  refine tv_astore_n (L' := [_, _, _]) (hn := by decide) (hlt := (Nat.le_of_ble_eq_true rfl)) (hno := rfl) C dk_X1_cancel_14 rfl ?_
  refine tv_aload_n C dk_X1_cancel_15 rfl ?_
  refine tv_ifnull C dk_X1_cancel_16 ?_
  refine tv_aload_n C dk_X1_cancel_19 rfl ?_
  refine tv_aload_n C dk_X1_cancel_20 rfl ?_
  refine tv_cV0 C dk_X1_cancel_21 ml_RX1_35 yk_X6_copyFrom yi_X6_copyFrom (m_X6_copyFrom _ M tvSBn_1 (tvSB_slot _ (tvin_lt (f_J9_floorMod_7cf53_in _ _))).1 (by omega)) (tvSB_sh tvSBn_1 0 (by decide)).2 (tvSB_sh tvSBn_1 0 (by decide)).1 rfl rfl rfl (Nat.le_of_ble_eq_true rfl) (Nat.le_of_ble_eq_true rfl) (Nat.le_of_ble_eq_true rfl) (Nat.le_of_ble_eq_true rfl) (Nat.le_of_ble_eq_true rfl) ?_
  exact tv_vret C hQ dk_X1_cancel_24 rfl (by rw [f_X1_cancel])
/-- TideVault$History.keep(LTideVault$State;)V -/
def f_X1_keep (M : tvM) : tvM := (f_X1_commit (f_X1_begin M))
theorem m_X1_keep (G : tvG) (M : tvM) : tvRun G yX1_keep cX1_keep 2 none 4 0 0 tvP0 tvP0 [.ref (G.2.1 + 61), .ref (G.2.1 + 1)] M (.inl none) (f_X1_keep M) := by
  refine tvRun.of yk_X1_keep rfl [some (.ref (G.2.1 + 61)), some (.ref (G.2.1 + 1))] rfl (Nat.le_of_ble_eq_true rfl) ?_
  intro E hG C hQ; subst hG
  refine tv_aload_n C dk_X1_keep_0 rfl ?_
  refine tv_aload_n C dk_X1_keep_1 rfl ?_
  refine tv_cV0 C dk_X1_keep_2 ml_RX1_18 yk_X1_begin yi_X1_begin (m_X1_begin _ M) (Nat.le_of_ble_eq_true rfl) rfl rfl rfl rfl (Nat.le_of_ble_eq_true rfl) (Nat.le_of_ble_eq_true rfl) (Nat.le_of_ble_eq_true rfl) (Nat.le_of_ble_eq_true rfl) (Nat.le_of_ble_eq_true rfl) ?_
  refine tv_aload_n C dk_X1_keep_5 rfl ?_
  refine tv_cV0 C dk_X1_keep_6 ml_RX1_22 yk_X1_commit yi_X1_commit (m_X1_commit _ (f_X1_begin M)) (Nat.le_of_ble_eq_true rfl) rfl rfl rfl rfl (Nat.le_of_ble_eq_true rfl) (Nat.le_of_ble_eq_true rfl) (Nat.le_of_ble_eq_true rfl) (Nat.le_of_ble_eq_true rfl) (Nat.le_of_ble_eq_true rfl) ?_
  exact tv_vret C hQ dk_X1_keep_9 rfl (by rw [f_X1_keep])
