def tvCt (p : Nat → Bool) : Nat → Nat
  | 0 => 0
  | n + 1 => tvCt p n + if p n then 1 else 0
/-- java/lang/Math.floorMod(II)I -/
def f_J9_floorMod_7cf53 (M : tvM) (x1 : Int32) (x2 : Int32) : Int32 := (if 0 ≤ (x1 ^^^ x2) then (x1 - x1 / x2 * x2) else (if (x1 - x1 / x2 * x2) = 0 then (x1 - x1 / x2 * x2) else ((x1 - x1 / x2 * x2) + x2)))
theorem m_J9_floorMod_7cf53 (G : tvG) (M : tvM) (x1 : Int32) (x2 : Int32) (h0 : ¬ x2 = 0) : tvRun G yJ9_floorMod_7cf53 cJ9_floorMod_7cf53 3 (some .int) 1 0 0 tvP0 tvP0 [.int x1, .int x2] M (.inl (some (.int (f_J9_floorMod_7cf53 M x1 x2)))) M := by
  refine tvRun.of yk_J9_floorMod_7cf53 rfl [some (.int x1), some (.int x2), none] rfl (Nat.le_of_ble_eq_true rfl) ?_
  intro E hG C hQ; subst hG
  refine tv_iload_n C dk_J9_floorMod_7cf53_0 rfl ?_
  refine tv_iload_n C dk_J9_floorMod_7cf53_1 rfl ?_
  refine tv_irem C dk_J9_floorMod_7cf53_2 h0 ?_
  refine tv_istore_n (L' := [_, _, _]) (hn := by decide) (hlt := (Nat.le_of_ble_eq_true rfl)) (hno := rfl) C dk_J9_floorMod_7cf53_3 rfl ?_
  refine tv_iload_n C dk_J9_floorMod_7cf53_4 rfl ?_
  refine tv_iload_n C dk_J9_floorMod_7cf53_5 rfl ?_
  refine tv_ixor C dk_J9_floorMod_7cf53_6 ?_
  refine tv_if_ge C dk_J9_floorMod_7cf53_7 (fun h1 => ?_) (fun h1 => ?_)
  · refine tv_iload_n C dk_J9_floorMod_7cf53_18 rfl ?_
    exact tv_iret C hQ dk_J9_floorMod_7cf53_19 rfl (by rw [f_J9_floorMod_7cf53, if_pos h1]) rfl
  refine tv_iload_n C dk_J9_floorMod_7cf53_10 rfl ?_
  refine tv_if_eq C dk_J9_floorMod_7cf53_11 (fun h2 => ?_) (fun h2 => ?_)
  · refine tv_iload_n C dk_J9_floorMod_7cf53_18 rfl ?_
    exact tv_iret C hQ dk_J9_floorMod_7cf53_19 rfl (by rw [f_J9_floorMod_7cf53, if_neg h1, if_pos h2]) rfl
  refine tv_iload_n C dk_J9_floorMod_7cf53_14 rfl ?_
  refine tv_iload_n C dk_J9_floorMod_7cf53_15 rfl ?_
  refine tv_iadd C dk_J9_floorMod_7cf53_16 ?_
  exact tv_iret C hQ dk_J9_floorMod_7cf53_17 rfl (by rw [f_J9_floorMod_7cf53, if_neg h1, if_neg h2]) rfl
/-- java/lang/Math.max(II)I -/
def f_J9_max_7cf53 (M : tvM) (x1 : Int32) (x2 : Int32) : Int32 := (if x1 < x2 then x2 else x1)
theorem m_J9_max_7cf53 (G : tvG) (M : tvM) (x1 : Int32) (x2 : Int32) : tvRun G yJ9_max_7cf53 cJ9_max_7cf53 2 (some .int) 1 0 0 tvP0 tvP0 [.int x1, .int x2] M (.inl (some (.int (f_J9_max_7cf53 M x1 x2)))) M := by
  refine tvRun.of yk_J9_max_7cf53 rfl [some (.int x1), some (.int x2)] rfl (Nat.le_of_ble_eq_true rfl) ?_
  intro E hG C hQ; subst hG
  refine tv_iload_n C dk_J9_max_7cf53_0 rfl ?_
  refine tv_iload_n C dk_J9_max_7cf53_1 rfl ?_
  refine tv_icmp_lt C dk_J9_max_7cf53_2 (fun h1 => ?_) (fun h1 => ?_)
  · refine tv_iload_n C dk_J9_max_7cf53_9 rfl ?_
    exact tv_iret C hQ dk_J9_max_7cf53_10 rfl (by rw [f_J9_max_7cf53, if_pos h1]) rfl
  refine tv_iload_n C dk_J9_max_7cf53_5 rfl ?_
  refine tv_goto C dk_J9_max_7cf53_6 ?_
  exact tv_iret C hQ dk_J9_max_7cf53_10 rfl (by rw [f_J9_max_7cf53, if_neg h1]) rfl
/-- java/lang/Math.min(II)I -/
def f_J9_min_7cf53 (M : tvM) (x1 : Int32) (x2 : Int32) : Int32 := (if x2 < x1 then x2 else x1)
theorem m_J9_min_7cf53 (G : tvG) (M : tvM) (x1 : Int32) (x2 : Int32) : tvRun G yJ9_min_7cf53 cJ9_min_7cf53 2 (some .int) 1 0 0 tvP0 tvP0 [.int x1, .int x2] M (.inl (some (.int (f_J9_min_7cf53 M x1 x2)))) M := by
  refine tvRun.of yk_J9_min_7cf53 rfl [some (.int x1), some (.int x2)] rfl (Nat.le_of_ble_eq_true rfl) ?_
  intro E hG C hQ; subst hG
  refine tv_iload_n C dk_J9_min_7cf53_0 rfl ?_
  refine tv_iload_n C dk_J9_min_7cf53_1 rfl ?_
  refine tv_icmp_gt C dk_J9_min_7cf53_2 (fun h1 => ?_) (fun h1 => ?_)
  · refine tv_iload_n C dk_J9_min_7cf53_9 rfl ?_
    exact tv_iret C hQ dk_J9_min_7cf53_10 rfl (by rw [f_J9_min_7cf53, if_pos h1]) rfl
  refine tv_iload_n C dk_J9_min_7cf53_5 rfl ?_
  refine tv_goto C dk_J9_min_7cf53_6 ?_
  exact tv_iret C hQ dk_J9_min_7cf53_10 rfl (by rw [f_J9_min_7cf53, if_neg h1]) rfl
/-- TideVault$Tide.become(II)I -/
def f_X7_become (M : tvM) (b : Nat) (x1 : Int32) (x2 : Int32) : Int32 × tvM := ((tgi M (b + 1) 0), (tpi (tpi M (b + 1) 0 x1) (b + 1) 1 x2))
theorem m_X7_become (G : tvG) (M : tvM) {b : Nat} (hb : tvSB b) (x1 : Int32) (x2 : Int32) : tvRun G yX7_become cX7_become 4 (some .int) 1 0 0 tvP0 tvP0 [.ref (G.2.1 + (b + 1)), .int x1, .int x2] M (.inl (some (.int (f_X7_become M b x1 x2).1))) ((f_X7_become M b x1 x2).2) := by
  refine tvRun.of yk_X7_become rfl [some (.ref (G.2.1 + (b + 1))), some (.int x1), some (.int x2), none] rfl (Nat.le_of_ble_eq_true rfl) ?_
  intro E hG C hQ; subst hG
  refine tv_aload_n C dk_X7_become_0 rfl ?_
  refine tv_getI C dk_X7_become_1 fl_RX7_7 (tvSB_sh hb 1 (by decide)).2 (tvSB_sh hb 1 (by decide)).1 (fun _ _ _ _ => rfl) ?_
  refine tv_istore_n (L' := [_, _, _, _]) (hn := by decide) (hlt := (Nat.le_of_ble_eq_true rfl)) (hno := rfl) C dk_X7_become_4 rfl ?_
  refine tv_aload_n C dk_X7_become_5 rfl ?_
  refine tv_iload_n C dk_X7_become_6 rfl ?_
  refine tv_putI C tvP0_ex dk_X7_become_7 fl_RX7_7 fw_7_0 (tvSB_sh hb 1 (by decide)).2 (tvSB_sh hb 1 (by decide)).1 rfl (fun _ _ _ _ _ => rfl) rfl rfl ?_
  refine tv_aload_n C dk_X7_become_10 rfl ?_
  refine tv_iload_n C dk_X7_become_11 rfl ?_
  refine tv_putI C tvP0_ex dk_X7_become_12 fl_RX7_13 fw_7_1 (tvSB_sh hb 1 (by decide)).2 (tvSB_sh hb 1 (by decide)).1 rfl (fun _ _ _ _ _ => rfl) rfl rfl ?_
  refine tv_iload_n C dk_X7_become_15 rfl ?_
  exact tv_iret C hQ dk_X7_become_16 rfl (by rw [f_X7_become]) (by rw [f_X7_become])
/-- TideVault$Tide.copyFrom(LTideVault$Tide;)V -/
def f_X7_copyFrom (M : tvM) (b : Nat) (b2 : Nat) : tvM := (tpi (tpi M (b + 1) 0 (tgi M (b2 + 1) 0)) (b + 1) 1 (tgi (tpi M (b + 1) 0 (tgi M (b2 + 1) 0)) (b2 + 1) 1))
theorem m_X7_copyFrom (G : tvG) (M : tvM) {b : Nat} (hb : tvSB b) {b2 : Nat} (hb2 : tvSB b2) (hne : b2 ≠ b) : tvRun G yX7_copyFrom cX7_copyFrom 2 none 1 0 0 tvP0 tvP0 [.ref (G.2.1 + (b + 1)), .ref (G.2.1 + (b2 + 1))] M (.inl none) (f_X7_copyFrom M b b2) := by
  refine tvRun.of yk_X7_copyFrom rfl [some (.ref (G.2.1 + (b + 1))), some (.ref (G.2.1 + (b2 + 1)))] rfl (Nat.le_of_ble_eq_true rfl) ?_
  intro E hG C hQ; subst hG
  refine tv_aload_n C dk_X7_copyFrom_0 rfl ?_
  refine tv_aload_n C dk_X7_copyFrom_1 rfl ?_
  refine tv_getI C dk_X7_copyFrom_2 fl_RX7_7 (tvSB_sh hb2 1 (by decide)).2 (tvSB_sh hb2 1 (by decide)).1 (fun _ _ _ _ => rfl) ?_
  refine tv_putI C tvP0_ex dk_X7_copyFrom_5 fl_RX7_7 fw_7_0 (tvSB_sh hb 1 (by decide)).2 (tvSB_sh hb 1 (by decide)).1 rfl (fun _ _ _ _ _ => rfl) rfl rfl ?_
  refine tv_aload_n C dk_X7_copyFrom_8 rfl ?_
  refine tv_aload_n C dk_X7_copyFrom_9 rfl ?_
  refine tv_getI C dk_X7_copyFrom_10 fl_RX7_13 (tvSB_sh hb2 1 (by decide)).2 (tvSB_sh hb2 1 (by decide)).1 (fun _ _ _ _ => rfl) ?_
  refine tv_putI C tvP0_ex dk_X7_copyFrom_13 fl_RX7_13 fw_7_1 (tvSB_sh hb 1 (by decide)).2 (tvSB_sh hb 1 (by decide)).1 rfl (fun _ _ _ _ _ => rfl) rfl rfl ?_
  exact tv_vret C hQ dk_X7_copyFrom_16 rfl (by rw [f_X7_copyFrom])
/-- TideVault$Tide.isLowAt(I)Z -/
def f_X7_isLowAt (M : tvM) (b : Nat) (x1 : Int32) : Int32 := (if (tgi M (b + 1) 0) ≤ 0 then 0 else (if (tgi M (b + 1) 1) ≤ (x1 - x1 / (tgi M (b + 1) 0) * (tgi M (b + 1) 0)) then 0 else 1))
theorem m_X7_isLowAt (G : tvG) (M : tvM) {b : Nat} (hb : tvSB b) (x1 : Int32) : tvRun G yX7_isLowAt cX7_isLowAt 2 (some .boolean) 1 0 0 tvP0 tvP0 [.ref (G.2.1 + (b + 1)), .int x1] M (.inl (some (.int (f_X7_isLowAt M b x1)))) M := by
  refine tvRun.of yk_X7_isLowAt rfl [some (.ref (G.2.1 + (b + 1))), some (.int x1)] rfl (Nat.le_of_ble_eq_true rfl) ?_
  intro E hG C hQ; subst hG
  refine tv_aload_n C dk_X7_isLowAt_0 rfl ?_
  refine tv_getI C dk_X7_isLowAt_1 fl_RX7_7 (tvSB_sh hb 1 (by decide)).2 (tvSB_sh hb 1 (by decide)).1 (fun _ _ _ _ => rfl) ?_
  refine tv_if_le C dk_X7_isLowAt_4 (fun h1 => ?_) (fun h1 => ?_)
  · refine tv_iconst (v := 0) C dk_X7_isLowAt_24 (by decide) ?_
    exact tv_iret C hQ dk_X7_isLowAt_25 rfl (by rw [f_X7_isLowAt, if_pos h1]) rfl
  refine tv_iload_n C dk_X7_isLowAt_7 rfl ?_
  refine tv_aload_n C dk_X7_isLowAt_8 rfl ?_
  refine tv_getI C dk_X7_isLowAt_9 fl_RX7_7 (tvSB_sh hb 1 (by decide)).2 (tvSB_sh hb 1 (by decide)).1 (fun _ _ _ _ => rfl) ?_
  refine tv_irem C dk_X7_isLowAt_12 (tv_nz_nle h1) ?_
  refine tv_aload_n C dk_X7_isLowAt_13 rfl ?_
  refine tv_getI C dk_X7_isLowAt_14 fl_RX7_13 (tvSB_sh hb 1 (by decide)).2 (tvSB_sh hb 1 (by decide)).1 (fun _ _ _ _ => rfl) ?_
  refine tv_icmp_ge C dk_X7_isLowAt_17 (fun h2 => ?_) (fun h2 => ?_)
  · refine tv_iconst (v := 0) C dk_X7_isLowAt_24 (by decide) ?_
    exact tv_iret C hQ dk_X7_isLowAt_25 rfl (by rw [f_X7_isLowAt, if_neg h1, if_pos h2]) rfl
  refine tv_iconst (v := 1) C dk_X7_isLowAt_20 (by decide) ?_
  refine tv_goto C dk_X7_isLowAt_21 ?_
  exact tv_iret C hQ dk_X7_isLowAt_25 rfl (by rw [f_X7_isLowAt, if_neg h1, if_neg h2]) rfl
theorem fz_X7_isLowAt {M : tvM} {b : Nat} {x1 : Int32} : narrow .boolean (.int (f_X7_isLowAt M b x1)) = .int (f_X7_isLowAt M b x1) := by
  unfold f_X7_isLowAt; repeat' split
  all_goals first | rfl
/-- TideVault$Tide.lowBefore(I)I -/
def f_X7_lowBefore (M : tvM) (b : Nat) (x1 : Int32) : Int32 := (if 0 < (tgi M (b + 1) 0) then (((x1 / (tgi M (b + 1) 0)) * (tgi M (b + 1) 1)) + (f_J9_min_7cf53 M (x1 - x1 / (tgi M (b + 1) 0) * (tgi M (b + 1) 0)) (tgi M (b + 1) 1))) else 0)
theorem m_X7_lowBefore (G : tvG) (M : tvM) {b : Nat} (hb : tvSB b) (x1 : Int32) : tvRun G yX7_lowBefore cX7_lowBefore 2 (some .int) 2 0 0 tvP0 tvP0 [.ref (G.2.1 + (b + 1)), .int x1] M (.inl (some (.int (f_X7_lowBefore M b x1)))) M := by
  refine tvRun.of yk_X7_lowBefore rfl [some (.ref (G.2.1 + (b + 1))), some (.int x1)] rfl (Nat.le_of_ble_eq_true rfl) ?_
  intro E hG C hQ; subst hG
  refine tv_aload_n C dk_X7_lowBefore_0 rfl ?_
  refine tv_getI C dk_X7_lowBefore_1 fl_RX7_7 (tvSB_sh hb 1 (by decide)).2 (tvSB_sh hb 1 (by decide)).1 (fun _ _ _ _ => rfl) ?_
  refine tv_if_gt C dk_X7_lowBefore_4 (fun h1 => ?_) (fun h1 => ?_)
  · refine tv_iload_n C dk_X7_lowBefore_9 rfl ?_
    refine tv_aload_n C dk_X7_lowBefore_10 rfl ?_
    refine tv_getI C dk_X7_lowBefore_11 fl_RX7_7 (tvSB_sh hb 1 (by decide)).2 (tvSB_sh hb 1 (by decide)).1 (fun _ _ _ _ => rfl) ?_
    refine tv_idiv C dk_X7_lowBefore_14 (tv_nz_pos h1) ?_
    refine tv_aload_n C dk_X7_lowBefore_15 rfl ?_
    refine tv_getI C dk_X7_lowBefore_16 fl_RX7_13 (tvSB_sh hb 1 (by decide)).2 (tvSB_sh hb 1 (by decide)).1 (fun _ _ _ _ => rfl) ?_
    refine tv_imul C dk_X7_lowBefore_19 ?_
    refine tv_iload_n C dk_X7_lowBefore_20 rfl ?_
    refine tv_aload_n C dk_X7_lowBefore_21 rfl ?_
    refine tv_getI C dk_X7_lowBefore_22 fl_RX7_7 (tvSB_sh hb 1 (by decide)).2 (tvSB_sh hb 1 (by decide)).1 (fun _ _ _ _ => rfl) ?_
    refine tv_irem C dk_X7_lowBefore_25 (tv_nz_pos h1) ?_
    refine tv_aload_n C dk_X7_lowBefore_26 rfl ?_
    refine tv_getI C dk_X7_lowBefore_27 fl_RX7_13 (tvSB_sh hb 1 (by decide)).2 (tvSB_sh hb 1 (by decide)).1 (fun _ _ _ _ => rfl) ?_
    refine tv_cS1 C dk_X7_lowBefore_30 ml_RX7_24 yk_J9_min_7cf53 yi_J9_min_7cf53 (m_J9_min_7cf53 _ M (x1 - x1 / (tgi M (b + 1) 0) * (tgi M (b + 1) 0)) (tgi M (b + 1) 1)) rfl rfl (Nat.le_of_ble_eq_true rfl) (Nat.le_of_ble_eq_true rfl) (Nat.le_of_ble_eq_true rfl) (Nat.le_of_ble_eq_true rfl) (Nat.le_of_ble_eq_true rfl) ?_
    refine tv_iadd C dk_X7_lowBefore_33 ?_
    exact tv_iret C hQ dk_X7_lowBefore_34 rfl (by rw [f_X7_lowBefore, if_pos h1]) rfl
  refine tv_iconst (v := 0) C dk_X7_lowBefore_7 (by decide) ?_
  exact tv_iret C hQ dk_X7_lowBefore_8 rfl (by rw [f_X7_lowBefore, if_neg h1]) rfl
/-- TideVault$Tide.lowByFormula(II)I -/
def f_X7_lowByFormula (M : tvM) (b : Nat) (x1 : Int32) (x2 : Int32) : Int32 := ((f_X7_lowBefore M b (x1 + x2)) - (f_X7_lowBefore M b x1))
theorem m_X7_lowByFormula (G : tvG) (M : tvM) {b : Nat} (hb : tvSB b) (x1 : Int32) (x2 : Int32) : tvRun G yX7_lowByFormula cX7_lowByFormula 3 (some .int) 3 0 0 tvP0 tvP0 [.ref (G.2.1 + (b + 1)), .int x1, .int x2] M (.inl (some (.int (f_X7_lowByFormula M b x1 x2)))) M := by
  refine tvRun.of yk_X7_lowByFormula rfl [some (.ref (G.2.1 + (b + 1))), some (.int x1), some (.int x2)] rfl (Nat.le_of_ble_eq_true rfl) ?_
  intro E hG C hQ; subst hG
  refine tv_aload_n C dk_X7_lowByFormula_0 rfl ?_
  refine tv_iload_n C dk_X7_lowByFormula_1 rfl ?_
  refine tv_iload_n C dk_X7_lowByFormula_2 rfl ?_
  refine tv_iadd C dk_X7_lowByFormula_3 ?_
  refine tv_cV1 C dk_X7_lowByFormula_4 ml_RX7_16 yk_X7_lowBefore yi_X7_lowBefore (m_X7_lowBefore _ M hb (x1 + x2)) (tvSB_sh hb 1 (by decide)).2 (tvSB_sh hb 1 (by decide)).1 rfl rfl rfl (Nat.le_of_ble_eq_true rfl) (Nat.le_of_ble_eq_true rfl) (Nat.le_of_ble_eq_true rfl) (Nat.le_of_ble_eq_true rfl) (Nat.le_of_ble_eq_true rfl) ?_
  refine tv_aload_n C dk_X7_lowByFormula_7 rfl ?_
  refine tv_iload_n C dk_X7_lowByFormula_8 rfl ?_
  refine tv_cV1 C dk_X7_lowByFormula_9 ml_RX7_16 yk_X7_lowBefore yi_X7_lowBefore (m_X7_lowBefore _ M hb x1) (tvSB_sh hb 1 (by decide)).2 (tvSB_sh hb 1 (by decide)).1 rfl rfl rfl (Nat.le_of_ble_eq_true rfl) (Nat.le_of_ble_eq_true rfl) (Nat.le_of_ble_eq_true rfl) (Nat.le_of_ble_eq_true rfl) (Nat.le_of_ble_eq_true rfl) ?_
  refine tv_isub C dk_X7_lowByFormula_12 ?_
  exact tv_iret C hQ dk_X7_lowByFormula_13 rfl (by rw [f_X7_lowByFormula]) rfl
/-- TideVault$Tide.lowByCounting(II)I -/
def sb_X7_lowByCounting (M : tvM) (b : Nat) (x1 : Int32) (x2 : Int32) (y3 : Int32) (y4 : Int32) : (Int32 × Int32) ⊕ Int32 := (if x2 ≤ y4 then .inr y3 else (if (f_X7_isLowAt M b (x1 + y4)) = 0 then .inl (y3, (y4 + 1)) else .inl ((y3 + 1), (y4 + 1))))
def s_X7_lowByCounting (M : tvM) (b : Nat) (x1 : Int32) (x2 : Int32) : (Int32 × Int32) → (Int32 × Int32) ⊕ Int32 := fun q => sb_X7_lowByCounting M b x1 x2 q.1 q.2
def e_X7_lowByCounting (M : tvM) (b : Nat) (x1 : Int32) (x2 : Int32) : (Int32 × Int32) ⊕ Int32 := .inl (0, 0)
theorem m_X7_lowByCounting (G : tvG) (M : tvM) {b : Nat} (hb : tvSB b) (x1 : Int32) (x2 : Int32) (n : Nat) (r : Int32) (hs : tvIter (s_X7_lowByCounting M b x1 x2) n (e_X7_lowByCounting M b x1 x2) = some r) : tvRun G yX7_lowByCounting cX7_lowByCounting 5 (some .int) 2 0 0 tvP0 tvP0 [.ref (G.2.1 + (b + 1)), .int x1, .int x2] M (.inl (some (.int r))) M := by
  refine tvRun.of yk_X7_lowByCounting rfl [some (.ref (G.2.1 + (b + 1))), some (.int x1), some (.int x2), none, none] rfl (Nat.le_of_ble_eq_true rfl) ?_
  intro E hG C hQ; subst hG
  have K : ∀ (n : Nat) (q : Int32 × Int32), tvIter (s_X7_lowByCounting M b x1 x2) n (.inl q) = some r → tv_W E tvP0 0 0 M 5 [some (.ref (E.G.2.1 + (b + 1))), some (.int x1), some (.int x2), some (.int q.1), some (.int q.2)] [] := by
    intro n
    induction n with
    | zero => intro q hq; exact (tvIter_0 hq).elim
    | succ n ih =>
      intro q hq
      obtain ⟨y3, y4⟩ := q
      have hs : tvIter (s_X7_lowByCounting M b x1 x2) n (sb_X7_lowByCounting M b x1 x2 y3 y4) = some r := tvIter_go hq
      refine tv_iload C dk_X7_lowByCounting_5 rfl ?_
      refine tv_iload_n C dk_X7_lowByCounting_7 rfl ?_
      refine tv_icmp_ge C dk_X7_lowByCounting_8 (fun h101 => ?_) (fun h101 => ?_)
      · refine tv_iload_n C dk_X7_lowByCounting_31 rfl ?_
        exact tv_iret C hQ dk_X7_lowByCounting_32 rfl (by rw [sb_X7_lowByCounting, if_pos h101] at hs; rw [← tvIter_out hs]) rfl
      refine tv_aload_n C dk_X7_lowByCounting_11 rfl ?_
      refine tv_iload_n C dk_X7_lowByCounting_12 rfl ?_
      refine tv_iload C dk_X7_lowByCounting_13 rfl ?_
      refine tv_iadd C dk_X7_lowByCounting_15 ?_
      refine tv_cV1 C dk_X7_lowByCounting_16 ml_RX7_20 yk_X7_isLowAt yi_X7_isLowAt (m_X7_isLowAt _ M hb (x1 + y4)) (tvSB_sh hb 1 (by decide)).2 (tvSB_sh hb 1 (by decide)).1 rfl rfl rfl (Nat.le_of_ble_eq_true rfl) (Nat.le_of_ble_eq_true rfl) (Nat.le_of_ble_eq_true rfl) (Nat.le_of_ble_eq_true rfl) (Nat.le_of_ble_eq_true rfl) ?_
      refine tv_if_eq C dk_X7_lowByCounting_19 (fun h102 => ?_) (fun h102 => ?_)
      · refine tv_iinc (v := (y4 + 1)) (L' := [_, _, _, _, _]) (hn := by decide) (hlt := (Nat.le_of_ble_eq_true rfl)) (hno := rfl) C dk_X7_lowByCounting_25 rfl rfl rfl ?_
        refine tv_goto C dk_X7_lowByCounting_28 ?_
        exact (ih (y3, (y4 + 1)) (by rw [sb_X7_lowByCounting, if_neg h101, if_pos h102] at hs; exact hs))
      refine tv_iinc (v := (y3 + 1)) (L' := [_, _, _, _, _]) (hn := by decide) (hlt := (Nat.le_of_ble_eq_true rfl)) (hno := rfl) C dk_X7_lowByCounting_22 rfl rfl rfl ?_
      refine tv_iinc (v := (y4 + 1)) (L' := [_, _, _, _, _]) (hn := by decide) (hlt := (Nat.le_of_ble_eq_true rfl)) (hno := rfl) C dk_X7_lowByCounting_25 rfl rfl rfl ?_
      refine tv_goto C dk_X7_lowByCounting_28 ?_
      exact (ih ((y3 + 1), (y4 + 1)) (by rw [sb_X7_lowByCounting, if_neg h101, if_neg h102] at hs; exact hs))
  refine tv_iconst (v := 0) C dk_X7_lowByCounting_0 (by decide) ?_
  refine tv_istore_n (L' := [_, _, _, _, _]) (hn := by decide) (hlt := (Nat.le_of_ble_eq_true rfl)) (hno := rfl) C dk_X7_lowByCounting_1 rfl ?_
  refine tv_iconst (v := 0) C dk_X7_lowByCounting_2 (by decide) ?_
  refine tv_istore (L' := [_, _, _, _, _]) (hn := by decide) (hlt := (Nat.le_of_ble_eq_true rfl)) (hno := rfl) C dk_X7_lowByCounting_3 rfl ?_
  exact (K n (0, 0) (by rw [e_X7_lowByCounting] at hs; exact hs))
def f_X7_lowByCounting (M : tvM) (b : Nat) (x1 : Int32) (x2 : Int32) : Int32 := nI (tvCt (fun i => !decide ((f_X7_isLowAt M b (x1 + nI i)) = 0)) x2.toNatClampNeg)
theorem r_X7_lowByCounting (M : tvM) (b : Nat) (x1 : Int32) (x2 : Int32) : ∃ n, tvIter (s_X7_lowByCounting M b x1 x2) n (e_X7_lowByCounting M b x1 x2) = some (f_X7_lowByCounting M b x1 x2) := by
  refine tvIter_for (s_X7_lowByCounting M b x1 x2) (fun i => (nI (tvCt (fun i => !decide ((f_X7_isLowAt M b (x1 + nI i)) = 0)) i), nI i)) x2.toNatClampNeg _ (fun i hi => ?_) ?_
  · simp only [s_X7_lowByCounting, sb_X7_lowByCounting, if_neg (tv_nle hi), tvCt]
    by_cases h : (f_X7_isLowAt M b (x1 + nI i)) = 0
    · simp [h, nI_1]
    · simp [h, nI_1]
  · simp only [s_X7_lowByCounting, sb_X7_lowByCounting, if_pos tv_le, f_X7_lowByCounting]
theorem n_X7_lowByCounting (G : tvG) (M : tvM) {b : Nat} (hb : tvSB b) (x1 : Int32) (x2 : Int32) : tvRun G yX7_lowByCounting cX7_lowByCounting 5 (some .int) 2 0 0 tvP0 tvP0 [.ref (G.2.1 + (b + 1)), .int x1, .int x2] M (.inl (some (.int (f_X7_lowByCounting M b x1 x2)))) M := by
  obtain ⟨n, hn⟩ := r_X7_lowByCounting M b x1 x2 
  exact m_X7_lowByCounting G M hb x1 x2 n _ hn
/-- TideVault$Holders.has(I)Z -/
def f_X2_has (M : tvM) (b : Nat) (x1 : Int32) : Int32 := (if x1 < 0 then 0 else (if (tgi M (b + 2) 0) ≤ x1 then 0 else (if 8 ≤ x1 then 0 else 1)))
theorem m_X2_has (G : tvG) (M : tvM) {b : Nat} (hb : tvSB b) (x1 : Int32) : tvRun G yX2_has cX2_has 2 (some .boolean) 1 0 0 tvP0 tvP0 [.ref (G.2.1 + (b + 2)), .int x1] M (.inl (some (.int (f_X2_has M b x1)))) M := by
  refine tvRun.of yk_X2_has rfl [some (.ref (G.2.1 + (b + 2))), some (.int x1)] rfl (Nat.le_of_ble_eq_true rfl) ?_
  intro E hG C hQ; subst hG
  refine tv_iload_n C dk_X2_has_0 rfl ?_
  refine tv_if_lt C dk_X2_has_1 (fun h1 => ?_) (fun h1 => ?_)
  · refine tv_iconst (v := 0) C dk_X2_has_22 (by decide) ?_
    exact tv_iret C hQ dk_X2_has_23 rfl (by rw [f_X2_has, if_pos h1]) rfl
  refine tv_iload_n C dk_X2_has_4 rfl ?_
  refine tv_aload_n C dk_X2_has_5 rfl ?_
  refine tv_getI C dk_X2_has_6 fl_RX2_21 (tvSB_sh hb 2 (by decide)).2 (tvSB_sh hb 2 (by decide)).1 (fun _ _ _ _ => rfl) ?_
  refine tv_icmp_ge C dk_X2_has_9 (fun h2 => ?_) (fun h2 => ?_)
  · refine tv_iconst (v := 0) C dk_X2_has_22 (by decide) ?_
    exact tv_iret C hQ dk_X2_has_23 rfl (by rw [f_X2_has, if_neg h1, if_pos h2]) rfl
  refine tv_iload_n C dk_X2_has_12 rfl ?_
  refine tv_bipush (v := 8) C dk_X2_has_13 (by decide) ?_
  refine tv_icmp_ge C dk_X2_has_15 (fun h3 => ?_) (fun h3 => ?_)
  · refine tv_iconst (v := 0) C dk_X2_has_22 (by decide) ?_
    exact tv_iret C hQ dk_X2_has_23 rfl (by rw [f_X2_has, if_neg h1, if_neg h2, if_pos h3]) rfl
  refine tv_iconst (v := 1) C dk_X2_has_18 (by decide) ?_
  refine tv_goto C dk_X2_has_19 ?_
  exact tv_iret C hQ dk_X2_has_23 rfl (by rw [f_X2_has, if_neg h1, if_neg h2, if_neg h3]) rfl
theorem fz_X2_has {M : tvM} {b : Nat} {x1 : Int32} : narrow .boolean (.int (f_X2_has M b x1)) = .int (f_X2_has M b x1) := by
  unfold f_X2_has; repeat' split
  all_goals first | rfl
theorem f_X2_has_in {M : tvM} {b : Nat} {x : Int32} (h : ¬ (f_X2_has M b x) = 0) : vp_in x 8 := by
  unfold f_X2_has at h
  split at h
  · exact absurd rfl h
  · split at h
    · exact absurd rfl h
    · split at h
      · exact absurd rfl h
      · exact tvin_2 (by assumption) (by assumption) rfl (by decide)
/-- TideVault$Holders.codeOf(I)I -/
def f_X2_codeOf (M : tvM) (b : Nat) (x1 : Int32) : Int32 := (if (f_X2_has M b x1) = 0 then (-1) else (tgi M (b + 3) x1.toNatClampNeg))
theorem m_X2_codeOf (G : tvG) (M : tvM) {b : Nat} (hb : tvSB b) (x1 : Int32) : tvRun G yX2_codeOf cX2_codeOf 2 (some .int) 2 0 0 tvP0 tvP0 [.ref (G.2.1 + (b + 2)), .int x1] M (.inl (some (.int (f_X2_codeOf M b x1)))) M := by
  refine tvRun.of yk_X2_codeOf rfl [some (.ref (G.2.1 + (b + 2))), some (.int x1)] rfl (Nat.le_of_ble_eq_true rfl) ?_
  intro E hG C hQ; subst hG
  refine tv_aload_n C dk_X2_codeOf_0 rfl ?_
  refine tv_iload_n C dk_X2_codeOf_1 rfl ?_
  refine tv_cV1 C dk_X2_codeOf_2 ml_RX2_31 yk_X2_has yi_X2_has (m_X2_has _ M hb x1) (tvSB_sh hb 2 (by decide)).2 (tvSB_sh hb 2 (by decide)).1 rfl rfl rfl (Nat.le_of_ble_eq_true rfl) (Nat.le_of_ble_eq_true rfl) (Nat.le_of_ble_eq_true rfl) (Nat.le_of_ble_eq_true rfl) (Nat.le_of_ble_eq_true rfl) ?_
  refine tv_if_eq C dk_X2_codeOf_5 (fun h1 => ?_) (fun h1 => ?_)
  · refine tv_iconst (v := (-1)) C dk_X2_codeOf_17 (by decide) ?_
    exact tv_iret C hQ dk_X2_codeOf_18 rfl (by rw [f_X2_codeOf, if_pos h1]) rfl
  refine tv_aload_n C dk_X2_codeOf_8 rfl ?_
  refine tv_getR (r := (b + 3)) C dk_X2_codeOf_9 fl_RX2_9 (tvSB_sh hb 2 (by decide)).2 (tvSB_sh hb 2 (by decide)).1 (tvSB_rho hb (2, 1, 3) (by decide)) (fun _ _ _ _ => rfl) ?_
  refine tv_iload_n C dk_X2_codeOf_12 rfl ?_
  refine tv_iald (j := x1.toNatClampNeg) rfl C dk_X2_codeOf_13 (tvSB_sh hb 3 (by decide)).2 (tvSB_sh hb 3 (by decide)).1 (f_X2_has_in h1) ?_
  refine tv_goto C dk_X2_codeOf_14 ?_
  exact tv_iret C hQ dk_X2_codeOf_18 rfl (by rw [f_X2_codeOf, if_neg h1]) rfl
/-- TideVault$Holders.attemptsOf(I)I -/
def f_X2_attemptsOf (M : tvM) (b : Nat) (x1 : Int32) : Int32 := (if (f_X2_has M b x1) = 0 then 0 else (tgi M (b + 4) x1.toNatClampNeg))
theorem m_X2_attemptsOf (G : tvG) (M : tvM) {b : Nat} (hb : tvSB b) (x1 : Int32) : tvRun G yX2_attemptsOf cX2_attemptsOf 2 (some .int) 2 0 0 tvP0 tvP0 [.ref (G.2.1 + (b + 2)), .int x1] M (.inl (some (.int (f_X2_attemptsOf M b x1)))) M := by
  refine tvRun.of yk_X2_attemptsOf rfl [some (.ref (G.2.1 + (b + 2))), some (.int x1)] rfl (Nat.le_of_ble_eq_true rfl) ?_
  intro E hG C hQ; subst hG
  refine tv_aload_n C dk_X2_attemptsOf_0 rfl ?_
  refine tv_iload_n C dk_X2_attemptsOf_1 rfl ?_
  refine tv_cV1 C dk_X2_attemptsOf_2 ml_RX2_31 yk_X2_has yi_X2_has (m_X2_has _ M hb x1) (tvSB_sh hb 2 (by decide)).2 (tvSB_sh hb 2 (by decide)).1 rfl rfl rfl (Nat.le_of_ble_eq_true rfl) (Nat.le_of_ble_eq_true rfl) (Nat.le_of_ble_eq_true rfl) (Nat.le_of_ble_eq_true rfl) (Nat.le_of_ble_eq_true rfl) ?_
  refine tv_if_eq C dk_X2_attemptsOf_5 (fun h1 => ?_) (fun h1 => ?_)
  · refine tv_iconst (v := 0) C dk_X2_attemptsOf_17 (by decide) ?_
    exact tv_iret C hQ dk_X2_attemptsOf_18 rfl (by rw [f_X2_attemptsOf, if_pos h1]) rfl
  refine tv_aload_n C dk_X2_attemptsOf_8 rfl ?_
  refine tv_getR (r := (b + 4)) C dk_X2_attemptsOf_9 fl_RX2_15 (tvSB_sh hb 2 (by decide)).2 (tvSB_sh hb 2 (by decide)).1 (tvSB_rho hb (2, 2, 4) (by decide)) (fun _ _ _ _ => rfl) ?_
  refine tv_iload_n C dk_X2_attemptsOf_12 rfl ?_
  refine tv_iald (j := x1.toNatClampNeg) rfl C dk_X2_attemptsOf_13 (tvSB_sh hb 4 (by decide)).2 (tvSB_sh hb 4 (by decide)).1 (f_X2_has_in h1) ?_
  refine tv_goto C dk_X2_attemptsOf_14 ?_
  exact tv_iret C hQ dk_X2_attemptsOf_18 rfl (by rw [f_X2_attemptsOf, if_neg h1]) rfl
/-- TideVault$Holders.setCode(II)V -/
def f_X2_setCode (M : tvM) (b : Nat) (x1 : Int32) (x2 : Int32) : tvM := (if (f_X2_has M b x1) = 0 then M else (tpi M (b + 3) x1.toNatClampNeg x2))
theorem m_X2_setCode (G : tvG) (M : tvM) {b : Nat} (hb : tvSB b) (x1 : Int32) (x2 : Int32) : tvRun G yX2_setCode cX2_setCode 3 none 2 0 0 tvP0 tvP0 [.ref (G.2.1 + (b + 2)), .int x1, .int x2] M (.inl none) (f_X2_setCode M b x1 x2) := by
  refine tvRun.of yk_X2_setCode rfl [some (.ref (G.2.1 + (b + 2))), some (.int x1), some (.int x2)] rfl (Nat.le_of_ble_eq_true rfl) ?_
  intro E hG C hQ; subst hG
  refine tv_aload_n C dk_X2_setCode_0 rfl ?_
  refine tv_iload_n C dk_X2_setCode_1 rfl ?_
  refine tv_cV1 C dk_X2_setCode_2 ml_RX2_31 yk_X2_has yi_X2_has (m_X2_has _ M hb x1) (tvSB_sh hb 2 (by decide)).2 (tvSB_sh hb 2 (by decide)).1 rfl rfl rfl (Nat.le_of_ble_eq_true rfl) (Nat.le_of_ble_eq_true rfl) (Nat.le_of_ble_eq_true rfl) (Nat.le_of_ble_eq_true rfl) (Nat.le_of_ble_eq_true rfl) ?_
  refine tv_if_eq C dk_X2_setCode_5 (fun h1 => ?_) (fun h1 => ?_)
  · exact tv_vret C hQ dk_X2_setCode_15 rfl (by rw [f_X2_setCode, if_pos h1])
  refine tv_aload_n C dk_X2_setCode_8 rfl ?_
  refine tv_getR (r := (b + 3)) C dk_X2_setCode_9 fl_RX2_9 (tvSB_sh hb 2 (by decide)).2 (tvSB_sh hb 2 (by decide)).1 (tvSB_rho hb (2, 1, 3) (by decide)) (fun _ _ _ _ => rfl) ?_
  refine tv_iload_n C dk_X2_setCode_12 rfl ?_
  refine tv_iload_n C dk_X2_setCode_13 rfl ?_
  refine tv_iast (j := x1.toNatClampNeg) rfl C tvP0_ex dk_X2_setCode_14 (tvSB_sh hb 3 (by decide)).2 (tvSB_sh hb 3 (by decide)).1 (f_X2_has_in h1) ?_
  exact tv_vret C hQ dk_X2_setCode_15 rfl (by rw [f_X2_setCode, if_neg h1])
/-- TideVault$Holders.setAttempts(II)V -/
def f_X2_setAttempts (M : tvM) (b : Nat) (x1 : Int32) (x2 : Int32) : tvM := (if (f_X2_has M b x1) = 0 then M else (tpi M (b + 4) x1.toNatClampNeg x2))
theorem m_X2_setAttempts (G : tvG) (M : tvM) {b : Nat} (hb : tvSB b) (x1 : Int32) (x2 : Int32) : tvRun G yX2_setAttempts cX2_setAttempts 3 none 2 0 0 tvP0 tvP0 [.ref (G.2.1 + (b + 2)), .int x1, .int x2] M (.inl none) (f_X2_setAttempts M b x1 x2) := by
  refine tvRun.of yk_X2_setAttempts rfl [some (.ref (G.2.1 + (b + 2))), some (.int x1), some (.int x2)] rfl (Nat.le_of_ble_eq_true rfl) ?_
  intro E hG C hQ; subst hG
  refine tv_aload_n C dk_X2_setAttempts_0 rfl ?_
  refine tv_iload_n C dk_X2_setAttempts_1 rfl ?_
  refine tv_cV1 C dk_X2_setAttempts_2 ml_RX2_31 yk_X2_has yi_X2_has (m_X2_has _ M hb x1) (tvSB_sh hb 2 (by decide)).2 (tvSB_sh hb 2 (by decide)).1 rfl rfl rfl (Nat.le_of_ble_eq_true rfl) (Nat.le_of_ble_eq_true rfl) (Nat.le_of_ble_eq_true rfl) (Nat.le_of_ble_eq_true rfl) (Nat.le_of_ble_eq_true rfl) ?_
  refine tv_if_eq C dk_X2_setAttempts_5 (fun h1 => ?_) (fun h1 => ?_)
  · exact tv_vret C hQ dk_X2_setAttempts_15 rfl (by rw [f_X2_setAttempts, if_pos h1])
  refine tv_aload_n C dk_X2_setAttempts_8 rfl ?_
  refine tv_getR (r := (b + 4)) C dk_X2_setAttempts_9 fl_RX2_15 (tvSB_sh hb 2 (by decide)).2 (tvSB_sh hb 2 (by decide)).1 (tvSB_rho hb (2, 2, 4) (by decide)) (fun _ _ _ _ => rfl) ?_
  refine tv_iload_n C dk_X2_setAttempts_12 rfl ?_
  refine tv_iload_n C dk_X2_setAttempts_13 rfl ?_
  refine tv_iast (j := x1.toNatClampNeg) rfl C tvP0_ex dk_X2_setAttempts_14 (tvSB_sh hb 4 (by decide)).2 (tvSB_sh hb 4 (by decide)).1 (f_X2_has_in h1) ?_
  exact tv_vret C hQ dk_X2_setAttempts_15 rfl (by rw [f_X2_setAttempts, if_neg h1])
/-- TideVault$Holders.lock(II)V -/
def f_X2_lock (M : tvM) (b : Nat) (x1 : Int32) (x2 : Int32) : tvM := (if (f_X2_has M b x1) = 0 then M else (tpi M (b + 5) x1.toNatClampNeg x2))
theorem m_X2_lock (G : tvG) (M : tvM) {b : Nat} (hb : tvSB b) (x1 : Int32) (x2 : Int32) : tvRun G yX2_lock cX2_lock 3 none 2 0 0 tvP0 tvP0 [.ref (G.2.1 + (b + 2)), .int x1, .int x2] M (.inl none) (f_X2_lock M b x1 x2) := by
  refine tvRun.of yk_X2_lock rfl [some (.ref (G.2.1 + (b + 2))), some (.int x1), some (.int x2)] rfl (Nat.le_of_ble_eq_true rfl) ?_
  intro E hG C hQ; subst hG
  refine tv_aload_n C dk_X2_lock_0 rfl ?_
  refine tv_iload_n C dk_X2_lock_1 rfl ?_
  refine tv_cV1 C dk_X2_lock_2 ml_RX2_31 yk_X2_has yi_X2_has (m_X2_has _ M hb x1) (tvSB_sh hb 2 (by decide)).2 (tvSB_sh hb 2 (by decide)).1 rfl rfl rfl (Nat.le_of_ble_eq_true rfl) (Nat.le_of_ble_eq_true rfl) (Nat.le_of_ble_eq_true rfl) (Nat.le_of_ble_eq_true rfl) (Nat.le_of_ble_eq_true rfl) ?_
  refine tv_if_eq C dk_X2_lock_5 (fun h1 => ?_) (fun h1 => ?_)
  · exact tv_vret C hQ dk_X2_lock_15 rfl (by rw [f_X2_lock, if_pos h1])
  refine tv_aload_n C dk_X2_lock_8 rfl ?_
  refine tv_getR (r := (b + 5)) C dk_X2_lock_9 fl_RX2_18 (tvSB_sh hb 2 (by decide)).2 (tvSB_sh hb 2 (by decide)).1 (tvSB_rho hb (2, 3, 5) (by decide)) (fun _ _ _ _ => rfl) ?_
  refine tv_iload_n C dk_X2_lock_12 rfl ?_
  refine tv_iload_n C dk_X2_lock_13 rfl ?_
  refine tv_iast (j := x1.toNatClampNeg) rfl C tvP0_ex dk_X2_lock_14 (tvSB_sh hb 5 (by decide)).2 (tvSB_sh hb 5 (by decide)).1 (f_X2_has_in h1) ?_
  exact tv_vret C hQ dk_X2_lock_15 rfl (by rw [f_X2_lock, if_neg h1])
/-- TideVault$Holders.lockedFor(II)I -/
def f_X2_lockedFor (M : tvM) (b : Nat) (x1 : Int32) (x2 : Int32) : Int32 := (if (f_X2_has M b x1) = 0 then 0 else (f_J9_max_7cf53 M ((tgi M (b + 5) x1.toNatClampNeg) - x2) 0))
theorem m_X2_lockedFor (G : tvG) (M : tvM) {b : Nat} (hb : tvSB b) (x1 : Int32) (x2 : Int32) : tvRun G yX2_lockedFor cX2_lockedFor 3 (some .int) 2 0 0 tvP0 tvP0 [.ref (G.2.1 + (b + 2)), .int x1, .int x2] M (.inl (some (.int (f_X2_lockedFor M b x1 x2)))) M := by
  refine tvRun.of yk_X2_lockedFor rfl [some (.ref (G.2.1 + (b + 2))), some (.int x1), some (.int x2)] rfl (Nat.le_of_ble_eq_true rfl) ?_
  intro E hG C hQ; subst hG
  refine tv_aload_n C dk_X2_lockedFor_0 rfl ?_
  refine tv_iload_n C dk_X2_lockedFor_1 rfl ?_
  refine tv_cV1 C dk_X2_lockedFor_2 ml_RX2_31 yk_X2_has yi_X2_has (m_X2_has _ M hb x1) (tvSB_sh hb 2 (by decide)).2 (tvSB_sh hb 2 (by decide)).1 rfl rfl rfl (Nat.le_of_ble_eq_true rfl) (Nat.le_of_ble_eq_true rfl) (Nat.le_of_ble_eq_true rfl) (Nat.le_of_ble_eq_true rfl) (Nat.le_of_ble_eq_true rfl) ?_
  refine tv_if_eq C dk_X2_lockedFor_5 (fun h1 => ?_) (fun h1 => ?_)
  · refine tv_iconst (v := 0) C dk_X2_lockedFor_23 (by decide) ?_
    exact tv_iret C hQ dk_X2_lockedFor_24 rfl (by rw [f_X2_lockedFor, if_pos h1]) rfl
  refine tv_aload_n C dk_X2_lockedFor_8 rfl ?_
  refine tv_getR (r := (b + 5)) C dk_X2_lockedFor_9 fl_RX2_18 (tvSB_sh hb 2 (by decide)).2 (tvSB_sh hb 2 (by decide)).1 (tvSB_rho hb (2, 3, 5) (by decide)) (fun _ _ _ _ => rfl) ?_
  refine tv_iload_n C dk_X2_lockedFor_12 rfl ?_
  refine tv_iald (j := x1.toNatClampNeg) rfl C dk_X2_lockedFor_13 (tvSB_sh hb 5 (by decide)).2 (tvSB_sh hb 5 (by decide)).1 (f_X2_has_in h1) ?_
  refine tv_iload_n C dk_X2_lockedFor_14 rfl ?_
  refine tv_isub C dk_X2_lockedFor_15 ?_
  refine tv_iconst (v := 0) C dk_X2_lockedFor_16 (by decide) ?_
  refine tv_cS1 C dk_X2_lockedFor_17 ml_RX2_35 yk_J9_max_7cf53 yi_J9_max_7cf53 (m_J9_max_7cf53 _ M ((tgi M (b + 5) x1.toNatClampNeg) - x2) 0) rfl rfl (Nat.le_of_ble_eq_true rfl) (Nat.le_of_ble_eq_true rfl) (Nat.le_of_ble_eq_true rfl) (Nat.le_of_ble_eq_true rfl) (Nat.le_of_ble_eq_true rfl) ?_
  refine tv_goto C dk_X2_lockedFor_20 ?_
  exact tv_iret C hQ dk_X2_lockedFor_24 rfl (by rw [f_X2_lockedFor, if_neg h1]) rfl
/-- TideVault$Holders.add(I)I -/
def f_X2_add (M : tvM) (b : Nat) (x1 : Int32) : Int32 × tvM := (if (tgi M (b + 2) 0) < 0 then ((-1), M) else (if (tgi M (b + 2) 0) < 8 then ((tgi M (b + 2) 0), (tpi (tpi (tpi (tpi M (b + 3) (tgi M (b + 2) 0).toNatClampNeg x1) (b + 4) (tgi M (b + 2) 0).toNatClampNeg 0) (b + 5) (tgi M (b + 2) 0).toNatClampNeg 0) (b + 2) 0 ((tgi (tpi (tpi (tpi M (b + 3) (tgi M (b + 2) 0).toNatClampNeg x1) (b + 4) (tgi M (b + 2) 0).toNatClampNeg 0) (b + 5) (tgi M (b + 2) 0).toNatClampNeg 0) (b + 2) 0) + 1))) else ((-1), M)))
theorem m_X2_add (G : tvG) (M : tvM) {b : Nat} (hb : tvSB b) (x1 : Int32) : tvRun G yX2_add cX2_add 3 (some .int) 1 0 0 tvP0 tvP0 [.ref (G.2.1 + (b + 2)), .int x1] M (.inl (some (.int (f_X2_add M b x1).1))) ((f_X2_add M b x1).2) := by
  refine tvRun.of yk_X2_add rfl [some (.ref (G.2.1 + (b + 2))), some (.int x1), none] rfl (Nat.le_of_ble_eq_true rfl) ?_
  intro E hG C hQ; subst hG
  refine tv_aload_n C dk_X2_add_0 rfl ?_
  refine tv_getI C dk_X2_add_1 fl_RX2_21 (tvSB_sh hb 2 (by decide)).2 (tvSB_sh hb 2 (by decide)).1 (fun _ _ _ _ => rfl) ?_
  refine tv_istore_n (L' := [_, _, _]) (hn := by decide) (hlt := (Nat.le_of_ble_eq_true rfl)) (hno := rfl) C dk_X2_add_4 rfl ?_
  refine tv_iload_n C dk_X2_add_5 rfl ?_
  refine tv_if_lt C dk_X2_add_6 (fun h1 => ?_) (fun h1 => ?_)
  · refine tv_iconst (v := (-1)) C dk_X2_add_15 (by decide) ?_
    exact tv_iret C hQ dk_X2_add_16 rfl (by rw [f_X2_add, if_pos h1]) (by rw [f_X2_add, if_pos h1])
  refine tv_iload_n C dk_X2_add_9 rfl ?_
  refine tv_bipush (v := 8) C dk_X2_add_10 (by decide) ?_
  refine tv_icmp_lt C dk_X2_add_12 (fun h2 => ?_) (fun h2 => ?_)
  · refine tv_aload_n C dk_X2_add_17 rfl ?_
    refine tv_getR (r := (b + 3)) C dk_X2_add_18 fl_RX2_9 (tvSB_sh hb 2 (by decide)).2 (tvSB_sh hb 2 (by decide)).1 (tvSB_rho hb (2, 1, 3) (by decide)) (fun _ _ _ _ => rfl) ?_
    refine tv_iload_n C dk_X2_add_21 rfl ?_
    refine tv_iload_n C dk_X2_add_22 rfl ?_
    refine tv_iast (j := (tgi M (b + 2) 0).toNatClampNeg) rfl C tvP0_ex dk_X2_add_23 (tvSB_sh hb 3 (by decide)).2 (tvSB_sh hb 3 (by decide)).1 (tvin_3 (n := 8) h1 h2 rfl (by decide)) ?_
    refine tv_aload_n C dk_X2_add_24 rfl ?_
    refine tv_getR (r := (b + 4)) C dk_X2_add_25 fl_RX2_15 (tvSB_sh hb 2 (by decide)).2 (tvSB_sh hb 2 (by decide)).1 (tvSB_rho hb (2, 2, 4) (by decide)) (fun _ _ _ _ => rfl) ?_
    refine tv_iload_n C dk_X2_add_28 rfl ?_
    refine tv_iconst (v := 0) C dk_X2_add_29 (by decide) ?_
    refine tv_iast (j := (tgi M (b + 2) 0).toNatClampNeg) rfl C tvP0_ex dk_X2_add_30 (tvSB_sh hb 4 (by decide)).2 (tvSB_sh hb 4 (by decide)).1 (tvin_3 (n := 8) h1 h2 rfl (by decide)) ?_
    refine tv_aload_n C dk_X2_add_31 rfl ?_
    refine tv_getR (r := (b + 5)) C dk_X2_add_32 fl_RX2_18 (tvSB_sh hb 2 (by decide)).2 (tvSB_sh hb 2 (by decide)).1 (tvSB_rho hb (2, 3, 5) (by decide)) (fun _ _ _ _ => rfl) ?_
    refine tv_iload_n C dk_X2_add_35 rfl ?_
    refine tv_iconst (v := 0) C dk_X2_add_36 (by decide) ?_
    refine tv_iast (j := (tgi M (b + 2) 0).toNatClampNeg) rfl C tvP0_ex dk_X2_add_37 (tvSB_sh hb 5 (by decide)).2 (tvSB_sh hb 5 (by decide)).1 (tvin_3 (n := 8) h1 h2 rfl (by decide)) ?_
    refine tv_aload_n C dk_X2_add_38 rfl ?_
    refine tv_dup C dk_X2_add_39 rfl ?_
    refine tv_getI C dk_X2_add_40 fl_RX2_21 (tvSB_sh hb 2 (by decide)).2 (tvSB_sh hb 2 (by decide)).1 (fun _ _ _ _ => rfl) ?_
    refine tv_iconst (v := 1) C dk_X2_add_43 (by decide) ?_
    refine tv_iadd C dk_X2_add_44 ?_
    refine tv_putI C tvP0_ex dk_X2_add_45 fl_RX2_21 fw_2_0 (tvSB_sh hb 2 (by decide)).2 (tvSB_sh hb 2 (by decide)).1 rfl (fun _ _ _ _ _ => rfl) rfl rfl ?_
    refine tv_iload_n C dk_X2_add_48 rfl ?_
    exact tv_iret C hQ dk_X2_add_49 rfl (by rw [f_X2_add, if_neg h1, if_pos h2]) (by rw [f_X2_add, if_neg h1, if_pos h2])
  refine tv_iconst (v := (-1)) C dk_X2_add_15 (by decide) ?_
  exact tv_iret C hQ dk_X2_add_16 rfl (by rw [f_X2_add, if_neg h1, if_neg h2]) (by rw [f_X2_add, if_neg h1, if_neg h2])
/-- TideVault$Holders.copyFrom(LTideVault$Holders;)V -/
def f_X2_copyFrom (M : tvM) (b : Nat) (b2 : Nat) : tvM := (tcp (tcp (tcp (tpi M (b + 2) 0 (tgi M (b2 + 2) 0)) (b2 + 3) (b + 3) 8) (b2 + 4) (b + 4) 8) (b2 + 5) (b + 5) 8)
theorem m_X2_copyFrom (G : tvG) (M : tvM) {b : Nat} (hb : tvSB b) {b2 : Nat} (hb2 : tvSB b2) (hne : b2 ≠ b) : tvRun G yX2_copyFrom cX2_copyFrom 2 none 1 0 0 tvP0 tvP0 [.ref (G.2.1 + (b + 2)), .ref (G.2.1 + (b2 + 2))] M (.inl none) (f_X2_copyFrom M b b2) := by
  refine tvRun.of yk_X2_copyFrom rfl [some (.ref (G.2.1 + (b + 2))), some (.ref (G.2.1 + (b2 + 2)))] rfl (Nat.le_of_ble_eq_true rfl) ?_
  intro E hG C hQ; subst hG
  refine tv_aload_n C dk_X2_copyFrom_0 rfl ?_
  refine tv_aload_n C dk_X2_copyFrom_1 rfl ?_
  refine tv_getI C dk_X2_copyFrom_2 fl_RX2_21 (tvSB_sh hb2 2 (by decide)).2 (tvSB_sh hb2 2 (by decide)).1 (fun _ _ _ _ => rfl) ?_
  refine tv_putI C tvP0_ex dk_X2_copyFrom_5 fl_RX2_21 fw_2_0 (tvSB_sh hb 2 (by decide)).2 (tvSB_sh hb 2 (by decide)).1 rfl (fun _ _ _ _ _ => rfl) rfl rfl ?_
  refine tv_aload_n C dk_X2_copyFrom_8 rfl ?_
  refine tv_getR (r := (b2 + 3)) C dk_X2_copyFrom_9 fl_RX2_9 (tvSB_sh hb2 2 (by decide)).2 (tvSB_sh hb2 2 (by decide)).1 (tvSB_rho hb2 (2, 1, 3) (by decide)) (fun _ _ _ _ => rfl) ?_
  refine tv_iconst (v := 0) C dk_X2_copyFrom_12 (by decide) ?_
  refine tv_aload_n C dk_X2_copyFrom_13 rfl ?_
  refine tv_getR (r := (b + 3)) C dk_X2_copyFrom_14 fl_RX2_9 (tvSB_sh hb 2 (by decide)).2 (tvSB_sh hb 2 (by decide)).1 (tvSB_rho hb (2, 1, 3) (by decide)) (fun _ _ _ _ => rfl) ?_
  refine tv_iconst (v := 0) C dk_X2_copyFrom_17 (by decide) ?_
  refine tv_bipush (v := 8) C dk_X2_copyFrom_18 (by decide) ?_
  refine tv_copy C tvP0_ex dk_X2_copyFrom_20 ml_RX2_25 (tvSB_sh hb2 3 (by decide)).2 (tvSB_sh hb 3 (by decide)).2 (fun q => hne (by omega)) (tvSB_sh hb2 3 (by decide)).1 (tvSB_sh hb 3 (by decide)).1 (by decide) rfl (by decide) (Nat.le_of_ble_eq_true rfl) (by decide) ?_
  refine tv_aload_n C dk_X2_copyFrom_23 rfl ?_
  refine tv_getR (r := (b2 + 4)) C dk_X2_copyFrom_24 fl_RX2_15 (tvSB_sh hb2 2 (by decide)).2 (tvSB_sh hb2 2 (by decide)).1 (tvSB_rho hb2 (2, 2, 4) (by decide)) (fun _ _ _ _ => rfl) ?_
  refine tv_iconst (v := 0) C dk_X2_copyFrom_27 (by decide) ?_
  refine tv_aload_n C dk_X2_copyFrom_28 rfl ?_
  refine tv_getR (r := (b + 4)) C dk_X2_copyFrom_29 fl_RX2_15 (tvSB_sh hb 2 (by decide)).2 (tvSB_sh hb 2 (by decide)).1 (tvSB_rho hb (2, 2, 4) (by decide)) (fun _ _ _ _ => rfl) ?_
  refine tv_iconst (v := 0) C dk_X2_copyFrom_32 (by decide) ?_
  refine tv_bipush (v := 8) C dk_X2_copyFrom_33 (by decide) ?_
  refine tv_copy C tvP0_ex dk_X2_copyFrom_35 ml_RX2_25 (tvSB_sh hb2 4 (by decide)).2 (tvSB_sh hb 4 (by decide)).2 (fun q => hne (by omega)) (tvSB_sh hb2 4 (by decide)).1 (tvSB_sh hb 4 (by decide)).1 (by decide) rfl (by decide) (Nat.le_of_ble_eq_true rfl) (by decide) ?_
  refine tv_aload_n C dk_X2_copyFrom_38 rfl ?_
  refine tv_getR (r := (b2 + 5)) C dk_X2_copyFrom_39 fl_RX2_18 (tvSB_sh hb2 2 (by decide)).2 (tvSB_sh hb2 2 (by decide)).1 (tvSB_rho hb2 (2, 3, 5) (by decide)) (fun _ _ _ _ => rfl) ?_
  refine tv_iconst (v := 0) C dk_X2_copyFrom_42 (by decide) ?_
  refine tv_aload_n C dk_X2_copyFrom_43 rfl ?_
  refine tv_getR (r := (b + 5)) C dk_X2_copyFrom_44 fl_RX2_18 (tvSB_sh hb 2 (by decide)).2 (tvSB_sh hb 2 (by decide)).1 (tvSB_rho hb (2, 3, 5) (by decide)) (fun _ _ _ _ => rfl) ?_
  refine tv_iconst (v := 0) C dk_X2_copyFrom_47 (by decide) ?_
  refine tv_bipush (v := 8) C dk_X2_copyFrom_48 (by decide) ?_
  refine tv_copy C tvP0_ex dk_X2_copyFrom_50 ml_RX2_25 (tvSB_sh hb2 5 (by decide)).2 (tvSB_sh hb 5 (by decide)).2 (fun q => hne (by omega)) (tvSB_sh hb2 5 (by decide)).1 (tvSB_sh hb 5 (by decide)).1 (by decide) rfl (by decide) (Nat.le_of_ble_eq_true rfl) (by decide) ?_
  exact tv_vret C hQ dk_X2_copyFrom_53 rfl (by rw [f_X2_copyFrom])
/-- TideVault$Log.has(I)Z -/
def f_X4_has (M : tvM) (b : Nat) (x1 : Int32) : Int32 := (if x1 < 0 then 0 else (if (tgi M (b + 16) 1) ≤ x1 then 0 else 1))
theorem m_X4_has (G : tvG) (M : tvM) {b : Nat} (hb : tvSB b) (x1 : Int32) : tvRun G yX4_has cX4_has 2 (some .boolean) 1 0 0 tvP0 tvP0 [.ref (G.2.1 + (b + 16)), .int x1] M (.inl (some (.int (f_X4_has M b x1)))) M := by
  refine tvRun.of yk_X4_has rfl [some (.ref (G.2.1 + (b + 16))), some (.int x1)] rfl (Nat.le_of_ble_eq_true rfl) ?_
  intro E hG C hQ; subst hG
  refine tv_iload_n C dk_X4_has_0 rfl ?_
  refine tv_if_lt C dk_X4_has_1 (fun h1 => ?_) (fun h1 => ?_)
  · refine tv_iconst (v := 0) C dk_X4_has_16 (by decide) ?_
    exact tv_iret C hQ dk_X4_has_17 rfl (by rw [f_X4_has, if_pos h1]) rfl
  refine tv_iload_n C dk_X4_has_4 rfl ?_
  refine tv_aload_n C dk_X4_has_5 rfl ?_
  refine tv_getI C dk_X4_has_6 fl_RX4_26 (tvSB_sh hb 16 (by decide)).2 (tvSB_sh hb 16 (by decide)).1 (fun _ _ _ _ => rfl) ?_
  refine tv_icmp_ge C dk_X4_has_9 (fun h2 => ?_) (fun h2 => ?_)
  · refine tv_iconst (v := 0) C dk_X4_has_16 (by decide) ?_
    exact tv_iret C hQ dk_X4_has_17 rfl (by rw [f_X4_has, if_neg h1, if_pos h2]) rfl
  refine tv_iconst (v := 1) C dk_X4_has_12 (by decide) ?_
  refine tv_goto C dk_X4_has_13 ?_
  exact tv_iret C hQ dk_X4_has_17 rfl (by rw [f_X4_has, if_neg h1, if_neg h2]) rfl
theorem fz_X4_has {M : tvM} {b : Nat} {x1 : Int32} : narrow .boolean (.int (f_X4_has M b x1)) = .int (f_X4_has M b x1) := by
  unfold f_X4_has; repeat' split
  all_goals first | rfl
/-- TideVault$Log.slotOf(I)I -/
def f_X4_slotOf (M : tvM) (b : Nat) (x1 : Int32) : Int32 := (if 0 ≤ (((tgi M (b + 16) 0) + x1) - ((tgi M (b + 16) 0) + x1) / 12 * 12) then (((tgi M (b + 16) 0) + x1) - ((tgi M (b + 16) 0) + x1) / 12 * 12) else 0)
theorem m_X4_slotOf (G : tvG) (M : tvM) {b : Nat} (hb : tvSB b) (x1 : Int32) : tvRun G yX4_slotOf cX4_slotOf 3 (some .int) 1 0 0 tvP0 tvP0 [.ref (G.2.1 + (b + 16)), .int x1] M (.inl (some (.int (f_X4_slotOf M b x1)))) M := by
  refine tvRun.of yk_X4_slotOf rfl [some (.ref (G.2.1 + (b + 16))), some (.int x1), none] rfl (Nat.le_of_ble_eq_true rfl) ?_
  intro E hG C hQ; subst hG
  refine tv_aload_n C dk_X4_slotOf_0 rfl ?_
  refine tv_getI C dk_X4_slotOf_1 fl_RX4_22 (tvSB_sh hb 16 (by decide)).2 (tvSB_sh hb 16 (by decide)).1 (fun _ _ _ _ => rfl) ?_
  refine tv_iload_n C dk_X4_slotOf_4 rfl ?_
  refine tv_iadd C dk_X4_slotOf_5 ?_
  refine tv_bipush (v := 12) C dk_X4_slotOf_6 (by decide) ?_
  refine tv_irem C dk_X4_slotOf_8 (by decide) ?_
  refine tv_istore_n (L' := [_, _, _]) (hn := by decide) (hlt := (Nat.le_of_ble_eq_true rfl)) (hno := rfl) C dk_X4_slotOf_9 rfl ?_
  refine tv_iload_n C dk_X4_slotOf_10 rfl ?_
  refine tv_if_ge C dk_X4_slotOf_11 (fun h1 => ?_) (fun h1 => ?_)
  · refine tv_iload_n C dk_X4_slotOf_18 rfl ?_
    exact tv_iret C hQ dk_X4_slotOf_19 rfl (by rw [f_X4_slotOf, if_pos h1]) rfl
  refine tv_iconst (v := 0) C dk_X4_slotOf_14 (by decide) ?_
  refine tv_goto C dk_X4_slotOf_15 ?_
  exact tv_iret C hQ dk_X4_slotOf_19 rfl (by rw [f_X4_slotOf, if_neg h1]) rfl
theorem f_X4_slotOf_in (M : tvM) (b : Nat) (x : Int32) : vp_in (f_X4_slotOf M b x) 12 := by
  unfold f_X4_slotOf
  split
  · exact tv_rem_in (n := 12) (by decide) (by decide) (by assumption)
  · exact vp_in_nI (n := 0) (N := 12) (by decide) (by decide)
/-- TideVault$Log.kindOf(I)C -/
def f_X4_kindOf (M : tvM) (b : Nat) (x1 : Int32) : Int32 := (tnc (tgi M (b + 17) (f_X4_slotOf M b x1).toNatClampNeg))
theorem m_X4_kindOf (G : tvG) (M : tvM) {b : Nat} (hb : tvSB b) (x1 : Int32) : tvRun G yX4_kindOf cX4_kindOf 2 (some .char) 2 0 0 tvP0 tvP0 [.ref (G.2.1 + (b + 16)), .int x1] M (.inl (some (.int (f_X4_kindOf M b x1)))) M := by
  refine tvRun.of yk_X4_kindOf rfl [some (.ref (G.2.1 + (b + 16))), some (.int x1)] rfl (Nat.le_of_ble_eq_true rfl) ?_
  intro E hG C hQ; subst hG
  refine tv_aload_n C dk_X4_kindOf_0 rfl ?_
  refine tv_getR (r := (b + 17)) C dk_X4_kindOf_1 fl_RX4_9 (tvSB_sh hb 16 (by decide)).2 (tvSB_sh hb 16 (by decide)).1 (tvSB_rho hb (16, 2, 17) (by decide)) (fun _ _ _ _ => rfl) ?_
  refine tv_aload_n C dk_X4_kindOf_4 rfl ?_
  refine tv_iload_n C dk_X4_kindOf_5 rfl ?_
  refine tv_cV1 C dk_X4_kindOf_6 ml_RX4_35 yk_X4_slotOf yi_X4_slotOf (m_X4_slotOf _ M hb x1) (tvSB_sh hb 16 (by decide)).2 (tvSB_sh hb 16 (by decide)).1 rfl rfl rfl (Nat.le_of_ble_eq_true rfl) (Nat.le_of_ble_eq_true rfl) (Nat.le_of_ble_eq_true rfl) (Nat.le_of_ble_eq_true rfl) (Nat.le_of_ble_eq_true rfl) ?_
  refine tv_cald (j := (f_X4_slotOf M b x1).toNatClampNeg) rfl C dk_X4_kindOf_9 (tvSB_sh hb 17 (by decide)).2 (tvSB_sh hb 17 (by decide)).1 (f_X4_slotOf_in _ _ _) ?_
  exact tv_iret C hQ dk_X4_kindOf_10 (tnc_nar _) (by rw [f_X4_kindOf]) rfl
theorem fz_X4_kindOf {M : tvM} {b : Nat} {x1 : Int32} : narrow .char (.int (f_X4_kindOf M b x1)) = .int (f_X4_kindOf M b x1) := by
  unfold f_X4_kindOf; repeat' split
  all_goals first | rfl | exact (tnc_nar _)
/-- TideVault$Log.timeOf(I)I -/
def f_X4_timeOf (M : tvM) (b : Nat) (x1 : Int32) : Int32 := (tgi M (b + 18) (f_X4_slotOf M b x1).toNatClampNeg)
theorem m_X4_timeOf (G : tvG) (M : tvM) {b : Nat} (hb : tvSB b) (x1 : Int32) : tvRun G yX4_timeOf cX4_timeOf 2 (some .int) 2 0 0 tvP0 tvP0 [.ref (G.2.1 + (b + 16)), .int x1] M (.inl (some (.int (f_X4_timeOf M b x1)))) M := by
  refine tvRun.of yk_X4_timeOf rfl [some (.ref (G.2.1 + (b + 16))), some (.int x1)] rfl (Nat.le_of_ble_eq_true rfl) ?_
  intro E hG C hQ; subst hG
  refine tv_aload_n C dk_X4_timeOf_0 rfl ?_
  refine tv_getR (r := (b + 18)) C dk_X4_timeOf_1 fl_RX4_15 (tvSB_sh hb 16 (by decide)).2 (tvSB_sh hb 16 (by decide)).1 (tvSB_rho hb (16, 3, 18) (by decide)) (fun _ _ _ _ => rfl) ?_
  refine tv_aload_n C dk_X4_timeOf_4 rfl ?_
  refine tv_iload_n C dk_X4_timeOf_5 rfl ?_
  refine tv_cV1 C dk_X4_timeOf_6 ml_RX4_35 yk_X4_slotOf yi_X4_slotOf (m_X4_slotOf _ M hb x1) (tvSB_sh hb 16 (by decide)).2 (tvSB_sh hb 16 (by decide)).1 rfl rfl rfl (Nat.le_of_ble_eq_true rfl) (Nat.le_of_ble_eq_true rfl) (Nat.le_of_ble_eq_true rfl) (Nat.le_of_ble_eq_true rfl) (Nat.le_of_ble_eq_true rfl) ?_
  refine tv_iald (j := (f_X4_slotOf M b x1).toNatClampNeg) rfl C dk_X4_timeOf_9 (tvSB_sh hb 18 (by decide)).2 (tvSB_sh hb 18 (by decide)).1 (f_X4_slotOf_in _ _ _) ?_
  exact tv_iret C hQ dk_X4_timeOf_10 rfl (by rw [f_X4_timeOf]) rfl
/-- TideVault$Log.numberOf(I)I -/
def f_X4_numberOf (M : tvM) (b : Nat) (x1 : Int32) : Int32 := (tgi M (b + 19) (f_X4_slotOf M b x1).toNatClampNeg)
theorem m_X4_numberOf (G : tvG) (M : tvM) {b : Nat} (hb : tvSB b) (x1 : Int32) : tvRun G yX4_numberOf cX4_numberOf 2 (some .int) 2 0 0 tvP0 tvP0 [.ref (G.2.1 + (b + 16)), .int x1] M (.inl (some (.int (f_X4_numberOf M b x1)))) M := by
  refine tvRun.of yk_X4_numberOf rfl [some (.ref (G.2.1 + (b + 16))), some (.int x1)] rfl (Nat.le_of_ble_eq_true rfl) ?_
  intro E hG C hQ; subst hG
  refine tv_aload_n C dk_X4_numberOf_0 rfl ?_
  refine tv_getR (r := (b + 19)) C dk_X4_numberOf_1 fl_RX4_19 (tvSB_sh hb 16 (by decide)).2 (tvSB_sh hb 16 (by decide)).1 (tvSB_rho hb (16, 4, 19) (by decide)) (fun _ _ _ _ => rfl) ?_
  refine tv_aload_n C dk_X4_numberOf_4 rfl ?_
  refine tv_iload_n C dk_X4_numberOf_5 rfl ?_
  refine tv_cV1 C dk_X4_numberOf_6 ml_RX4_35 yk_X4_slotOf yi_X4_slotOf (m_X4_slotOf _ M hb x1) (tvSB_sh hb 16 (by decide)).2 (tvSB_sh hb 16 (by decide)).1 rfl rfl rfl (Nat.le_of_ble_eq_true rfl) (Nat.le_of_ble_eq_true rfl) (Nat.le_of_ble_eq_true rfl) (Nat.le_of_ble_eq_true rfl) (Nat.le_of_ble_eq_true rfl) ?_
  refine tv_iald (j := (f_X4_slotOf M b x1).toNatClampNeg) rfl C dk_X4_numberOf_9 (tvSB_sh hb 19 (by decide)).2 (tvSB_sh hb 19 (by decide)).1 (f_X4_slotOf_in _ _ _) ?_
  exact tv_iret C hQ dk_X4_numberOf_10 rfl (by rw [f_X4_numberOf]) rfl
/-- TideVault$Log.add(CII)V -/
def f_X4_add (M : tvM) (b : Nat) (x1 : Int32) (x2 : Int32) (x3 : Int32) : tvM := (if 12 ≤ (tgi (tpi (tpi (tpi M (b + 17) (f_X4_slotOf M b (tgi M (b + 16) 1)).toNatClampNeg x1) (b + 18) (f_X4_slotOf M b (tgi M (b + 16) 1)).toNatClampNeg x2) (b + 19) (f_X4_slotOf M b (tgi M (b + 16) 1)).toNatClampNeg x3) (b + 16) 1) then (tpi (tpi (tpi (tpi M (b + 17) (f_X4_slotOf M b (tgi M (b + 16) 1)).toNatClampNeg x1) (b + 18) (f_X4_slotOf M b (tgi M (b + 16) 1)).toNatClampNeg x2) (b + 19) (f_X4_slotOf M b (tgi M (b + 16) 1)).toNatClampNeg x3) (b + 16) 0 (f_X4_slotOf (tpi (tpi (tpi M (b + 17) (f_X4_slotOf M b (tgi M (b + 16) 1)).toNatClampNeg x1) (b + 18) (f_X4_slotOf M b (tgi M (b + 16) 1)).toNatClampNeg x2) (b + 19) (f_X4_slotOf M b (tgi M (b + 16) 1)).toNatClampNeg x3) b 1)) else (tpi (tpi (tpi (tpi M (b + 17) (f_X4_slotOf M b (tgi M (b + 16) 1)).toNatClampNeg x1) (b + 18) (f_X4_slotOf M b (tgi M (b + 16) 1)).toNatClampNeg x2) (b + 19) (f_X4_slotOf M b (tgi M (b + 16) 1)).toNatClampNeg x3) (b + 16) 1 ((tgi (tpi (tpi (tpi M (b + 17) (f_X4_slotOf M b (tgi M (b + 16) 1)).toNatClampNeg x1) (b + 18) (f_X4_slotOf M b (tgi M (b + 16) 1)).toNatClampNeg x2) (b + 19) (f_X4_slotOf M b (tgi M (b + 16) 1)).toNatClampNeg x3) (b + 16) 1) + 1)))
theorem m_X4_add (G : tvG) (M : tvM) {b : Nat} (hb : tvSB b) (x1 : Int32) (x2 : Int32) (x3 : Int32) : tvRun G yX4_add cX4_add 5 none 2 0 0 tvP0 tvP0 [.ref (G.2.1 + (b + 16)), .int x1, .int x2, .int x3] M (.inl none) (f_X4_add M b x1 x2 x3) := by
  refine tvRun.of yk_X4_add rfl [some (.ref (G.2.1 + (b + 16))), some (.int x1), some (.int x2), some (.int x3), none] rfl (Nat.le_of_ble_eq_true rfl) ?_
  intro E hG C hQ; subst hG
  refine tv_aload_n C dk_X4_add_0 rfl ?_
  refine tv_aload_n C dk_X4_add_1 rfl ?_
  refine tv_getI C dk_X4_add_2 fl_RX4_26 (tvSB_sh hb 16 (by decide)).2 (tvSB_sh hb 16 (by decide)).1 (fun _ _ _ _ => rfl) ?_
  refine tv_cV1 C dk_X4_add_5 ml_RX4_35 yk_X4_slotOf yi_X4_slotOf (m_X4_slotOf _ M hb (tgi M (b + 16) 1)) (tvSB_sh hb 16 (by decide)).2 (tvSB_sh hb 16 (by decide)).1 rfl rfl rfl (Nat.le_of_ble_eq_true rfl) (Nat.le_of_ble_eq_true rfl) (Nat.le_of_ble_eq_true rfl) (Nat.le_of_ble_eq_true rfl) (Nat.le_of_ble_eq_true rfl) ?_
  refine tv_istore (L' := [_, _, _, _, _]) (hn := by decide) (hlt := (Nat.le_of_ble_eq_true rfl)) (hno := rfl) C dk_X4_add_8 rfl ?_
  refine tv_aload_n C dk_X4_add_10 rfl ?_
  refine tv_getR (r := (b + 17)) C dk_X4_add_11 fl_RX4_9 (tvSB_sh hb 16 (by decide)).2 (tvSB_sh hb 16 (by decide)).1 (tvSB_rho hb (16, 2, 17) (by decide)) (fun _ _ _ _ => rfl) ?_
  refine tv_iload C dk_X4_add_14 rfl ?_
  refine tv_iload_n C dk_X4_add_16 rfl ?_
  refine tv_cast (j := (f_X4_slotOf M b (tgi M (b + 16) 1)).toNatClampNeg) rfl C tvP0_ex dk_X4_add_17 (tvSB_sh hb 17 (by decide)).2 (tvSB_sh hb 17 (by decide)).1 (f_X4_slotOf_in _ _ _) ?_
  refine tv_aload_n C dk_X4_add_18 rfl ?_
  refine tv_getR (r := (b + 18)) C dk_X4_add_19 fl_RX4_15 (tvSB_sh hb 16 (by decide)).2 (tvSB_sh hb 16 (by decide)).1 (tvSB_rho hb (16, 3, 18) (by decide)) (fun _ _ _ _ => rfl) ?_
  refine tv_iload C dk_X4_add_22 rfl ?_
  refine tv_iload_n C dk_X4_add_24 rfl ?_
  refine tv_iast (j := (f_X4_slotOf M b (tgi M (b + 16) 1)).toNatClampNeg) rfl C tvP0_ex dk_X4_add_25 (tvSB_sh hb 18 (by decide)).2 (tvSB_sh hb 18 (by decide)).1 (f_X4_slotOf_in _ _ _) ?_
  refine tv_aload_n C dk_X4_add_26 rfl ?_
  refine tv_getR (r := (b + 19)) C dk_X4_add_27 fl_RX4_19 (tvSB_sh hb 16 (by decide)).2 (tvSB_sh hb 16 (by decide)).1 (tvSB_rho hb (16, 4, 19) (by decide)) (fun _ _ _ _ => rfl) ?_
  refine tv_iload C dk_X4_add_30 rfl ?_
  refine tv_iload_n C dk_X4_add_32 rfl ?_
  refine tv_iast (j := (f_X4_slotOf M b (tgi M (b + 16) 1)).toNatClampNeg) rfl C tvP0_ex dk_X4_add_33 (tvSB_sh hb 19 (by decide)).2 (tvSB_sh hb 19 (by decide)).1 (f_X4_slotOf_in _ _ _) ?_
  refine tv_aload_n C dk_X4_add_34 rfl ?_
  refine tv_getI C dk_X4_add_35 fl_RX4_26 (tvSB_sh hb 16 (by decide)).2 (tvSB_sh hb 16 (by decide)).1 (fun _ _ _ _ => rfl) ?_
  refine tv_bipush (v := 12) C dk_X4_add_38 (by decide) ?_
  refine tv_icmp_ge C dk_X4_add_40 (fun h1 => ?_) (fun h1 => ?_)
  · refine tv_aload_n C dk_X4_add_56 rfl ?_
    refine tv_aload_n C dk_X4_add_57 rfl ?_
    refine tv_iconst (v := 1) C dk_X4_add_58 (by decide) ?_
    refine tv_cV1 C dk_X4_add_59 ml_RX4_35 yk_X4_slotOf yi_X4_slotOf (m_X4_slotOf _ (tpi (tpi (tpi M (b + 17) (f_X4_slotOf M b (tgi M (b + 16) 1)).toNatClampNeg x1) (b + 18) (f_X4_slotOf M b (tgi M (b + 16) 1)).toNatClampNeg x2) (b + 19) (f_X4_slotOf M b (tgi M (b + 16) 1)).toNatClampNeg x3) hb 1) (tvSB_sh hb 16 (by decide)).2 (tvSB_sh hb 16 (by decide)).1 rfl rfl rfl (Nat.le_of_ble_eq_true rfl) (Nat.le_of_ble_eq_true rfl) (Nat.le_of_ble_eq_true rfl) (Nat.le_of_ble_eq_true rfl) (Nat.le_of_ble_eq_true rfl) ?_
    refine tv_putI C tvP0_ex dk_X4_add_62 fl_RX4_22 fw_4_0 (tvSB_sh hb 16 (by decide)).2 (tvSB_sh hb 16 (by decide)).1 rfl (fun _ _ _ _ _ => rfl) rfl rfl ?_
    exact tv_vret C hQ dk_X4_add_65 rfl (by rw [f_X4_add, if_pos h1])
  refine tv_aload_n C dk_X4_add_43 rfl ?_
  refine tv_dup C dk_X4_add_44 rfl ?_
  refine tv_getI C dk_X4_add_45 fl_RX4_26 (tvSB_sh hb 16 (by decide)).2 (tvSB_sh hb 16 (by decide)).1 (fun _ _ _ _ => rfl) ?_
  refine tv_iconst (v := 1) C dk_X4_add_48 (by decide) ?_
  refine tv_iadd C dk_X4_add_49 ?_
  refine tv_putI C tvP0_ex dk_X4_add_50 fl_RX4_26 fw_4_1 (tvSB_sh hb 16 (by decide)).2 (tvSB_sh hb 16 (by decide)).1 rfl (fun _ _ _ _ _ => rfl) rfl rfl ?_
  refine tv_goto C dk_X4_add_53 ?_
  exact tv_vret C hQ dk_X4_add_65 rfl (by rw [f_X4_add, if_neg h1])
/-- TideVault$Log.copyFrom(LTideVault$Log;)V -/
def f_X4_copyFrom (M : tvM) (b : Nat) (b2 : Nat) : tvM := (tcp (tcp (tcp (tpi (tpi M (b + 16) 0 (tgi M (b2 + 16) 0)) (b + 16) 1 (tgi (tpi M (b + 16) 0 (tgi M (b2 + 16) 0)) (b2 + 16) 1)) (b2 + 17) (b + 17) 12) (b2 + 18) (b + 18) 12) (b2 + 19) (b + 19) 12)
theorem m_X4_copyFrom (G : tvG) (M : tvM) {b : Nat} (hb : tvSB b) {b2 : Nat} (hb2 : tvSB b2) (hne : b2 ≠ b) : tvRun G yX4_copyFrom cX4_copyFrom 2 none 1 0 0 tvP0 tvP0 [.ref (G.2.1 + (b + 16)), .ref (G.2.1 + (b2 + 16))] M (.inl none) (f_X4_copyFrom M b b2) := by
  refine tvRun.of yk_X4_copyFrom rfl [some (.ref (G.2.1 + (b + 16))), some (.ref (G.2.1 + (b2 + 16)))] rfl (Nat.le_of_ble_eq_true rfl) ?_
  intro E hG C hQ; subst hG
  refine tv_aload_n C dk_X4_copyFrom_0 rfl ?_
  refine tv_aload_n C dk_X4_copyFrom_1 rfl ?_
  refine tv_getI C dk_X4_copyFrom_2 fl_RX4_22 (tvSB_sh hb2 16 (by decide)).2 (tvSB_sh hb2 16 (by decide)).1 (fun _ _ _ _ => rfl) ?_
  refine tv_putI C tvP0_ex dk_X4_copyFrom_5 fl_RX4_22 fw_4_0 (tvSB_sh hb 16 (by decide)).2 (tvSB_sh hb 16 (by decide)).1 rfl (fun _ _ _ _ _ => rfl) rfl rfl ?_
  refine tv_aload_n C dk_X4_copyFrom_8 rfl ?_
  refine tv_aload_n C dk_X4_copyFrom_9 rfl ?_
  refine tv_getI C dk_X4_copyFrom_10 fl_RX4_26 (tvSB_sh hb2 16 (by decide)).2 (tvSB_sh hb2 16 (by decide)).1 (fun _ _ _ _ => rfl) ?_
  refine tv_putI C tvP0_ex dk_X4_copyFrom_13 fl_RX4_26 fw_4_1 (tvSB_sh hb 16 (by decide)).2 (tvSB_sh hb 16 (by decide)).1 rfl (fun _ _ _ _ _ => rfl) rfl rfl ?_
  refine tv_aload_n C dk_X4_copyFrom_16 rfl ?_
  refine tv_getR (r := (b2 + 17)) C dk_X4_copyFrom_17 fl_RX4_9 (tvSB_sh hb2 16 (by decide)).2 (tvSB_sh hb2 16 (by decide)).1 (tvSB_rho hb2 (16, 2, 17) (by decide)) (fun _ _ _ _ => rfl) ?_
  refine tv_iconst (v := 0) C dk_X4_copyFrom_20 (by decide) ?_
  refine tv_aload_n C dk_X4_copyFrom_21 rfl ?_
  refine tv_getR (r := (b + 17)) C dk_X4_copyFrom_22 fl_RX4_9 (tvSB_sh hb 16 (by decide)).2 (tvSB_sh hb 16 (by decide)).1 (tvSB_rho hb (16, 2, 17) (by decide)) (fun _ _ _ _ => rfl) ?_
  refine tv_iconst (v := 0) C dk_X4_copyFrom_25 (by decide) ?_
  refine tv_bipush (v := 12) C dk_X4_copyFrom_26 (by decide) ?_
  refine tv_copy C tvP0_ex dk_X4_copyFrom_28 ml_RX4_29 (tvSB_sh hb2 17 (by decide)).2 (tvSB_sh hb 17 (by decide)).2 (fun q => hne (by omega)) (tvSB_sh hb2 17 (by decide)).1 (tvSB_sh hb 17 (by decide)).1 (by decide) rfl (by decide) (Nat.le_of_ble_eq_true rfl) (by decide) ?_
  refine tv_aload_n C dk_X4_copyFrom_31 rfl ?_
  refine tv_getR (r := (b2 + 18)) C dk_X4_copyFrom_32 fl_RX4_15 (tvSB_sh hb2 16 (by decide)).2 (tvSB_sh hb2 16 (by decide)).1 (tvSB_rho hb2 (16, 3, 18) (by decide)) (fun _ _ _ _ => rfl) ?_
  refine tv_iconst (v := 0) C dk_X4_copyFrom_35 (by decide) ?_
  refine tv_aload_n C dk_X4_copyFrom_36 rfl ?_
  refine tv_getR (r := (b + 18)) C dk_X4_copyFrom_37 fl_RX4_15 (tvSB_sh hb 16 (by decide)).2 (tvSB_sh hb 16 (by decide)).1 (tvSB_rho hb (16, 3, 18) (by decide)) (fun _ _ _ _ => rfl) ?_
  refine tv_iconst (v := 0) C dk_X4_copyFrom_40 (by decide) ?_
  refine tv_bipush (v := 12) C dk_X4_copyFrom_41 (by decide) ?_
  refine tv_copy C tvP0_ex dk_X4_copyFrom_43 ml_RX4_29 (tvSB_sh hb2 18 (by decide)).2 (tvSB_sh hb 18 (by decide)).2 (fun q => hne (by omega)) (tvSB_sh hb2 18 (by decide)).1 (tvSB_sh hb 18 (by decide)).1 (by decide) rfl (by decide) (Nat.le_of_ble_eq_true rfl) (by decide) ?_
  refine tv_aload_n C dk_X4_copyFrom_46 rfl ?_
  refine tv_getR (r := (b2 + 19)) C dk_X4_copyFrom_47 fl_RX4_19 (tvSB_sh hb2 16 (by decide)).2 (tvSB_sh hb2 16 (by decide)).1 (tvSB_rho hb2 (16, 4, 19) (by decide)) (fun _ _ _ _ => rfl) ?_
  refine tv_iconst (v := 0) C dk_X4_copyFrom_50 (by decide) ?_
  refine tv_aload_n C dk_X4_copyFrom_51 rfl ?_
  refine tv_getR (r := (b + 19)) C dk_X4_copyFrom_52 fl_RX4_19 (tvSB_sh hb 16 (by decide)).2 (tvSB_sh hb 16 (by decide)).1 (tvSB_rho hb (16, 4, 19) (by decide)) (fun _ _ _ _ => rfl) ?_
  refine tv_iconst (v := 0) C dk_X4_copyFrom_55 (by decide) ?_
  refine tv_bipush (v := 12) C dk_X4_copyFrom_56 (by decide) ?_
  refine tv_copy C tvP0_ex dk_X4_copyFrom_58 ml_RX4_29 (tvSB_sh hb2 19 (by decide)).2 (tvSB_sh hb 19 (by decide)).2 (fun q => hne (by omega)) (tvSB_sh hb2 19 (by decide)).1 (tvSB_sh hb 19 (by decide)).1 (by decide) rfl (by decide) (Nat.le_of_ble_eq_true rfl) (by decide) ?_
  exact tv_vret C hQ dk_X4_copyFrom_61 rfl (by rw [f_X4_copyFrom])
/-- TideVault$Boxes.copyFrom(LTideVault$Boxes;)V -/
def f_X0_copyFrom (M : tvM) (b : Nat) (b2 : Nat) : tvM := (tcp (tcp (tcp (tcp (tcp (tcp (tcp (tcp (tcp (tpi M (b + 6) 0 (tgi M (b2 + 6) 0)) (b2 + 7) (b + 7) 10) (b2 + 8) (b + 8) 10) (b2 + 9) (b + 9) 10) (b2 + 10) (b + 10) 10) (b2 + 11) (b + 11) 10) (b2 + 12) (b + 12) 10) (b2 + 13) (b + 13) 10) (b2 + 14) (b + 14) 10) (b2 + 15) (b + 15) 50)
theorem m_X0_copyFrom (G : tvG) (M : tvM) {b : Nat} (hb : tvSB b) {b2 : Nat} (hb2 : tvSB b2) (hne : b2 ≠ b) : tvRun G yX0_copyFrom cX0_copyFrom 2 none 1 0 0 tvP0 tvP0 [.ref (G.2.1 + (b + 6)), .ref (G.2.1 + (b2 + 6))] M (.inl none) (f_X0_copyFrom M b b2) := by
  refine tvRun.of yk_X0_copyFrom rfl [some (.ref (G.2.1 + (b + 6))), some (.ref (G.2.1 + (b2 + 6)))] rfl (Nat.le_of_ble_eq_true rfl) ?_
  intro E hG C hQ; subst hG
  refine tv_aload_n C dk_X0_copyFrom_0 rfl ?_
  refine tv_aload_n C dk_X0_copyFrom_1 rfl ?_
  refine tv_getI C dk_X0_copyFrom_2 fl_RX0_40 (tvSB_sh hb2 6 (by decide)).2 (tvSB_sh hb2 6 (by decide)).1 (fun _ _ _ _ => rfl) ?_
  refine tv_putI C tvP0_ex dk_X0_copyFrom_5 fl_RX0_40 fw_0_0 (tvSB_sh hb 6 (by decide)).2 (tvSB_sh hb 6 (by decide)).1 rfl (fun _ _ _ _ _ => rfl) rfl rfl ?_
  refine tv_aload_n C dk_X0_copyFrom_8 rfl ?_
  refine tv_getR (r := (b2 + 7)) C dk_X0_copyFrom_9 fl_RX0_9 (tvSB_sh hb2 6 (by decide)).2 (tvSB_sh hb2 6 (by decide)).1 (tvSB_rho hb2 (6, 1, 7) (by decide)) (fun _ _ _ _ => rfl) ?_
  refine tv_iconst (v := 0) C dk_X0_copyFrom_12 (by decide) ?_
  refine tv_aload_n C dk_X0_copyFrom_13 rfl ?_
  refine tv_getR (r := (b + 7)) C dk_X0_copyFrom_14 fl_RX0_9 (tvSB_sh hb 6 (by decide)).2 (tvSB_sh hb 6 (by decide)).1 (tvSB_rho hb (6, 1, 7) (by decide)) (fun _ _ _ _ => rfl) ?_
  refine tv_iconst (v := 0) C dk_X0_copyFrom_17 (by decide) ?_
  refine tv_bipush (v := 10) C dk_X0_copyFrom_18 (by decide) ?_
  refine tv_copy C tvP0_ex dk_X0_copyFrom_20 ml_RX0_44 (tvSB_sh hb2 7 (by decide)).2 (tvSB_sh hb 7 (by decide)).2 (fun q => hne (by omega)) (tvSB_sh hb2 7 (by decide)).1 (tvSB_sh hb 7 (by decide)).1 (by decide) rfl (by decide) (Nat.le_of_ble_eq_true rfl) (by decide) ?_
  refine tv_aload_n C dk_X0_copyFrom_23 rfl ?_
  refine tv_getR (r := (b2 + 8)) C dk_X0_copyFrom_24 fl_RX0_15 (tvSB_sh hb2 6 (by decide)).2 (tvSB_sh hb2 6 (by decide)).1 (tvSB_rho hb2 (6, 2, 8) (by decide)) (fun _ _ _ _ => rfl) ?_
  refine tv_iconst (v := 0) C dk_X0_copyFrom_27 (by decide) ?_
  refine tv_aload_n C dk_X0_copyFrom_28 rfl ?_
  refine tv_getR (r := (b + 8)) C dk_X0_copyFrom_29 fl_RX0_15 (tvSB_sh hb 6 (by decide)).2 (tvSB_sh hb 6 (by decide)).1 (tvSB_rho hb (6, 2, 8) (by decide)) (fun _ _ _ _ => rfl) ?_
  refine tv_iconst (v := 0) C dk_X0_copyFrom_32 (by decide) ?_
  refine tv_bipush (v := 10) C dk_X0_copyFrom_33 (by decide) ?_
  refine tv_copy C tvP0_ex dk_X0_copyFrom_35 ml_RX0_44 (tvSB_sh hb2 8 (by decide)).2 (tvSB_sh hb 8 (by decide)).2 (fun q => hne (by omega)) (tvSB_sh hb2 8 (by decide)).1 (tvSB_sh hb 8 (by decide)).1 (by decide) rfl (by decide) (Nat.le_of_ble_eq_true rfl) (by decide) ?_
  refine tv_aload_n C dk_X0_copyFrom_38 rfl ?_
  refine tv_getR (r := (b2 + 9)) C dk_X0_copyFrom_39 fl_RX0_18 (tvSB_sh hb2 6 (by decide)).2 (tvSB_sh hb2 6 (by decide)).1 (tvSB_rho hb2 (6, 3, 9) (by decide)) (fun _ _ _ _ => rfl) ?_
  refine tv_iconst (v := 0) C dk_X0_copyFrom_42 (by decide) ?_
  refine tv_aload_n C dk_X0_copyFrom_43 rfl ?_
  refine tv_getR (r := (b + 9)) C dk_X0_copyFrom_44 fl_RX0_18 (tvSB_sh hb 6 (by decide)).2 (tvSB_sh hb 6 (by decide)).1 (tvSB_rho hb (6, 3, 9) (by decide)) (fun _ _ _ _ => rfl) ?_
  refine tv_iconst (v := 0) C dk_X0_copyFrom_47 (by decide) ?_
  refine tv_bipush (v := 10) C dk_X0_copyFrom_48 (by decide) ?_
  refine tv_copy C tvP0_ex dk_X0_copyFrom_50 ml_RX0_44 (tvSB_sh hb2 9 (by decide)).2 (tvSB_sh hb 9 (by decide)).2 (fun q => hne (by omega)) (tvSB_sh hb2 9 (by decide)).1 (tvSB_sh hb 9 (by decide)).1 (by decide) rfl (by decide) (Nat.le_of_ble_eq_true rfl) (by decide) ?_
  refine tv_aload_n C dk_X0_copyFrom_53 rfl ?_
  refine tv_getR (r := (b2 + 10)) C dk_X0_copyFrom_54 fl_RX0_21 (tvSB_sh hb2 6 (by decide)).2 (tvSB_sh hb2 6 (by decide)).1 (tvSB_rho hb2 (6, 4, 10) (by decide)) (fun _ _ _ _ => rfl) ?_
  refine tv_iconst (v := 0) C dk_X0_copyFrom_57 (by decide) ?_
  refine tv_aload_n C dk_X0_copyFrom_58 rfl ?_
  refine tv_getR (r := (b + 10)) C dk_X0_copyFrom_59 fl_RX0_21 (tvSB_sh hb 6 (by decide)).2 (tvSB_sh hb 6 (by decide)).1 (tvSB_rho hb (6, 4, 10) (by decide)) (fun _ _ _ _ => rfl) ?_
  refine tv_iconst (v := 0) C dk_X0_copyFrom_62 (by decide) ?_
  refine tv_bipush (v := 10) C dk_X0_copyFrom_63 (by decide) ?_
  refine tv_copy C tvP0_ex dk_X0_copyFrom_65 ml_RX0_44 (tvSB_sh hb2 10 (by decide)).2 (tvSB_sh hb 10 (by decide)).2 (fun q => hne (by omega)) (tvSB_sh hb2 10 (by decide)).1 (tvSB_sh hb 10 (by decide)).1 (by decide) rfl (by decide) (Nat.le_of_ble_eq_true rfl) (by decide) ?_
  refine tv_aload_n C dk_X0_copyFrom_68 rfl ?_
  refine tv_getR (r := (b2 + 11)) C dk_X0_copyFrom_69 fl_RX0_25 (tvSB_sh hb2 6 (by decide)).2 (tvSB_sh hb2 6 (by decide)).1 (tvSB_rho hb2 (6, 5, 11) (by decide)) (fun _ _ _ _ => rfl) ?_
  refine tv_iconst (v := 0) C dk_X0_copyFrom_72 (by decide) ?_
  refine tv_aload_n C dk_X0_copyFrom_73 rfl ?_
  refine tv_getR (r := (b + 11)) C dk_X0_copyFrom_74 fl_RX0_25 (tvSB_sh hb 6 (by decide)).2 (tvSB_sh hb 6 (by decide)).1 (tvSB_rho hb (6, 5, 11) (by decide)) (fun _ _ _ _ => rfl) ?_
  refine tv_iconst (v := 0) C dk_X0_copyFrom_77 (by decide) ?_
  refine tv_bipush (v := 10) C dk_X0_copyFrom_78 (by decide) ?_
  refine tv_copy C tvP0_ex dk_X0_copyFrom_80 ml_RX0_44 (tvSB_sh hb2 11 (by decide)).2 (tvSB_sh hb 11 (by decide)).2 (fun q => hne (by omega)) (tvSB_sh hb2 11 (by decide)).1 (tvSB_sh hb 11 (by decide)).1 (by decide) rfl (by decide) (Nat.le_of_ble_eq_true rfl) (by decide) ?_
  refine tv_aload_n C dk_X0_copyFrom_83 rfl ?_
  refine tv_getR (r := (b2 + 12)) C dk_X0_copyFrom_84 fl_RX0_28 (tvSB_sh hb2 6 (by decide)).2 (tvSB_sh hb2 6 (by decide)).1 (tvSB_rho hb2 (6, 6, 12) (by decide)) (fun _ _ _ _ => rfl) ?_
  refine tv_iconst (v := 0) C dk_X0_copyFrom_87 (by decide) ?_
  refine tv_aload_n C dk_X0_copyFrom_88 rfl ?_
  refine tv_getR (r := (b + 12)) C dk_X0_copyFrom_89 fl_RX0_28 (tvSB_sh hb 6 (by decide)).2 (tvSB_sh hb 6 (by decide)).1 (tvSB_rho hb (6, 6, 12) (by decide)) (fun _ _ _ _ => rfl) ?_
  refine tv_iconst (v := 0) C dk_X0_copyFrom_92 (by decide) ?_
  refine tv_bipush (v := 10) C dk_X0_copyFrom_93 (by decide) ?_
  refine tv_copy C tvP0_ex dk_X0_copyFrom_95 ml_RX0_44 (tvSB_sh hb2 12 (by decide)).2 (tvSB_sh hb 12 (by decide)).2 (fun q => hne (by omega)) (tvSB_sh hb2 12 (by decide)).1 (tvSB_sh hb 12 (by decide)).1 (by decide) rfl (by decide) (Nat.le_of_ble_eq_true rfl) (by decide) ?_
  refine tv_aload_n C dk_X0_copyFrom_98 rfl ?_
  refine tv_getR (r := (b2 + 13)) C dk_X0_copyFrom_99 fl_RX0_31 (tvSB_sh hb2 6 (by decide)).2 (tvSB_sh hb2 6 (by decide)).1 (tvSB_rho hb2 (6, 7, 13) (by decide)) (fun _ _ _ _ => rfl) ?_
  refine tv_iconst (v := 0) C dk_X0_copyFrom_102 (by decide) ?_
  refine tv_aload_n C dk_X0_copyFrom_103 rfl ?_
  refine tv_getR (r := (b + 13)) C dk_X0_copyFrom_104 fl_RX0_31 (tvSB_sh hb 6 (by decide)).2 (tvSB_sh hb 6 (by decide)).1 (tvSB_rho hb (6, 7, 13) (by decide)) (fun _ _ _ _ => rfl) ?_
  refine tv_iconst (v := 0) C dk_X0_copyFrom_107 (by decide) ?_
  refine tv_bipush (v := 10) C dk_X0_copyFrom_108 (by decide) ?_
  refine tv_copy C tvP0_ex dk_X0_copyFrom_110 ml_RX0_44 (tvSB_sh hb2 13 (by decide)).2 (tvSB_sh hb 13 (by decide)).2 (fun q => hne (by omega)) (tvSB_sh hb2 13 (by decide)).1 (tvSB_sh hb 13 (by decide)).1 (by decide) rfl (by decide) (Nat.le_of_ble_eq_true rfl) (by decide) ?_
  refine tv_aload_n C dk_X0_copyFrom_113 rfl ?_
  refine tv_getR (r := (b2 + 14)) C dk_X0_copyFrom_114 fl_RX0_34 (tvSB_sh hb2 6 (by decide)).2 (tvSB_sh hb2 6 (by decide)).1 (tvSB_rho hb2 (6, 8, 14) (by decide)) (fun _ _ _ _ => rfl) ?_
  refine tv_iconst (v := 0) C dk_X0_copyFrom_117 (by decide) ?_
  refine tv_aload_n C dk_X0_copyFrom_118 rfl ?_
  refine tv_getR (r := (b + 14)) C dk_X0_copyFrom_119 fl_RX0_34 (tvSB_sh hb 6 (by decide)).2 (tvSB_sh hb 6 (by decide)).1 (tvSB_rho hb (6, 8, 14) (by decide)) (fun _ _ _ _ => rfl) ?_
  refine tv_iconst (v := 0) C dk_X0_copyFrom_122 (by decide) ?_
  refine tv_bipush (v := 10) C dk_X0_copyFrom_123 (by decide) ?_
  refine tv_copy C tvP0_ex dk_X0_copyFrom_125 ml_RX0_44 (tvSB_sh hb2 14 (by decide)).2 (tvSB_sh hb 14 (by decide)).2 (fun q => hne (by omega)) (tvSB_sh hb2 14 (by decide)).1 (tvSB_sh hb 14 (by decide)).1 (by decide) rfl (by decide) (Nat.le_of_ble_eq_true rfl) (by decide) ?_
  refine tv_aload_n C dk_X0_copyFrom_128 rfl ?_
  refine tv_getR (r := (b2 + 15)) C dk_X0_copyFrom_129 fl_RX0_37 (tvSB_sh hb2 6 (by decide)).2 (tvSB_sh hb2 6 (by decide)).1 (tvSB_rho hb2 (6, 9, 15) (by decide)) (fun _ _ _ _ => rfl) ?_
  refine tv_iconst (v := 0) C dk_X0_copyFrom_132 (by decide) ?_
  refine tv_aload_n C dk_X0_copyFrom_133 rfl ?_
  refine tv_getR (r := (b + 15)) C dk_X0_copyFrom_134 fl_RX0_37 (tvSB_sh hb 6 (by decide)).2 (tvSB_sh hb 6 (by decide)).1 (tvSB_rho hb (6, 9, 15) (by decide)) (fun _ _ _ _ => rfl) ?_
  refine tv_iconst (v := 0) C dk_X0_copyFrom_137 (by decide) ?_
  refine tv_bipush (v := 50) C dk_X0_copyFrom_138 (by decide) ?_
  refine tv_copy C tvP0_ex dk_X0_copyFrom_140 ml_RX0_44 (tvSB_sh hb2 15 (by decide)).2 (tvSB_sh hb 15 (by decide)).2 (fun q => hne (by omega)) (tvSB_sh hb2 15 (by decide)).1 (tvSB_sh hb 15 (by decide)).1 (by decide) rfl (by decide) (Nat.le_of_ble_eq_true rfl) (by decide) ?_
  exact tv_vret C hQ dk_X0_copyFrom_143 rfl (by rw [f_X0_copyFrom])
/-- TideVault$Boxes.has(I)Z -/
def f_X0_has (M : tvM) (b : Nat) (x1 : Int32) : Int32 := (if x1 < 0 then 0 else (if (tgi M (b + 6) 0) ≤ x1 then 0 else (if 10 ≤ x1 then 0 else 1)))
theorem m_X0_has (G : tvG) (M : tvM) {b : Nat} (hb : tvSB b) (x1 : Int32) : tvRun G yX0_has cX0_has 2 (some .boolean) 1 0 0 tvP0 tvP0 [.ref (G.2.1 + (b + 6)), .int x1] M (.inl (some (.int (f_X0_has M b x1)))) M := by
  refine tvRun.of yk_X0_has rfl [some (.ref (G.2.1 + (b + 6))), some (.int x1)] rfl (Nat.le_of_ble_eq_true rfl) ?_
  intro E hG C hQ; subst hG
  refine tv_iload_n C dk_X0_has_0 rfl ?_
  refine tv_if_lt C dk_X0_has_1 (fun h1 => ?_) (fun h1 => ?_)
  · refine tv_iconst (v := 0) C dk_X0_has_22 (by decide) ?_
    exact tv_iret C hQ dk_X0_has_23 rfl (by rw [f_X0_has, if_pos h1]) rfl
  refine tv_iload_n C dk_X0_has_4 rfl ?_
  refine tv_aload_n C dk_X0_has_5 rfl ?_
  refine tv_getI C dk_X0_has_6 fl_RX0_40 (tvSB_sh hb 6 (by decide)).2 (tvSB_sh hb 6 (by decide)).1 (fun _ _ _ _ => rfl) ?_
  refine tv_icmp_ge C dk_X0_has_9 (fun h2 => ?_) (fun h2 => ?_)
  · refine tv_iconst (v := 0) C dk_X0_has_22 (by decide) ?_
    exact tv_iret C hQ dk_X0_has_23 rfl (by rw [f_X0_has, if_neg h1, if_pos h2]) rfl
  refine tv_iload_n C dk_X0_has_12 rfl ?_
  refine tv_bipush (v := 10) C dk_X0_has_13 (by decide) ?_
  refine tv_icmp_ge C dk_X0_has_15 (fun h3 => ?_) (fun h3 => ?_)
  · refine tv_iconst (v := 0) C dk_X0_has_22 (by decide) ?_
    exact tv_iret C hQ dk_X0_has_23 rfl (by rw [f_X0_has, if_neg h1, if_neg h2, if_pos h3]) rfl
  refine tv_iconst (v := 1) C dk_X0_has_18 (by decide) ?_
  refine tv_goto C dk_X0_has_19 ?_
  exact tv_iret C hQ dk_X0_has_23 rfl (by rw [f_X0_has, if_neg h1, if_neg h2, if_neg h3]) rfl
theorem fz_X0_has {M : tvM} {b : Nat} {x1 : Int32} : narrow .boolean (.int (f_X0_has M b x1)) = .int (f_X0_has M b x1) := by
  unfold f_X0_has; repeat' split
  all_goals first | rfl
theorem f_X0_has_in {M : tvM} {b : Nat} {x : Int32} (h : ¬ (f_X0_has M b x) = 0) : vp_in x 10 := by
  unfold f_X0_has at h
  split at h
  · exact absurd rfl h
  · split at h
    · exact absurd rfl h
    · split at h
      · exact absurd rfl h
      · exact tvin_2 (by assumption) (by assumption) rfl (by decide)
/-- TideVault$Boxes.statusOf(I)C -/
def f_X0_statusOf (M : tvM) (b : Nat) (x1 : Int32) : Int32 := (if (f_X0_has M b x1) = 0 then 99 else (tnc (tgi M (b + 10) x1.toNatClampNeg)))
theorem m_X0_statusOf (G : tvG) (M : tvM) {b : Nat} (hb : tvSB b) (x1 : Int32) : tvRun G yX0_statusOf cX0_statusOf 2 (some .char) 2 0 0 tvP0 tvP0 [.ref (G.2.1 + (b + 6)), .int x1] M (.inl (some (.int (f_X0_statusOf M b x1)))) M := by
  refine tvRun.of yk_X0_statusOf rfl [some (.ref (G.2.1 + (b + 6))), some (.int x1)] rfl (Nat.le_of_ble_eq_true rfl) ?_
  intro E hG C hQ; subst hG
  refine tv_aload_n C dk_X0_statusOf_0 rfl ?_
  refine tv_iload_n C dk_X0_statusOf_1 rfl ?_
  refine tv_cV1 C dk_X0_statusOf_2 ml_RX0_50 yk_X0_has yi_X0_has (m_X0_has _ M hb x1) (tvSB_sh hb 6 (by decide)).2 (tvSB_sh hb 6 (by decide)).1 rfl rfl rfl (Nat.le_of_ble_eq_true rfl) (Nat.le_of_ble_eq_true rfl) (Nat.le_of_ble_eq_true rfl) (Nat.le_of_ble_eq_true rfl) (Nat.le_of_ble_eq_true rfl) ?_
  refine tv_if_eq C dk_X0_statusOf_5 (fun h1 => ?_) (fun h1 => ?_)
  · refine tv_bipush (v := 99) C dk_X0_statusOf_17 (by decide) ?_
    exact tv_iret C hQ dk_X0_statusOf_19 rfl (by rw [f_X0_statusOf, if_pos h1]) rfl
  refine tv_aload_n C dk_X0_statusOf_8 rfl ?_
  refine tv_getR (r := (b + 10)) C dk_X0_statusOf_9 fl_RX0_21 (tvSB_sh hb 6 (by decide)).2 (tvSB_sh hb 6 (by decide)).1 (tvSB_rho hb (6, 4, 10) (by decide)) (fun _ _ _ _ => rfl) ?_
  refine tv_iload_n C dk_X0_statusOf_12 rfl ?_
  refine tv_cald (j := x1.toNatClampNeg) rfl C dk_X0_statusOf_13 (tvSB_sh hb 10 (by decide)).2 (tvSB_sh hb 10 (by decide)).1 (f_X0_has_in h1) ?_
  refine tv_goto C dk_X0_statusOf_14 ?_
  exact tv_iret C hQ dk_X0_statusOf_19 (tnc_nar _) (by rw [f_X0_statusOf, if_neg h1]) rfl
theorem fz_X0_statusOf {M : tvM} {b : Nat} {x1 : Int32} : narrow .char (.int (f_X0_statusOf M b x1)) = .int (f_X0_statusOf M b x1) := by
  unfold f_X0_statusOf; repeat' split
  all_goals first | rfl | exact (tnc_nar _)
/-- TideVault$Boxes.valueOf(II)I -/
def f_X0_valueOf (M : tvM) (b : Nat) (x1 : Int32) (x2 : Int32) : Int32 := (if (f_X0_has M b x1) = 0 then 0 else (if x2 < 0 then 0 else (if x2 < 5 then (tgi M (b + 15) ((x1 * 5) + x2).toNatClampNeg) else 0)))
theorem m_X0_valueOf (G : tvG) (M : tvM) {b : Nat} (hb : tvSB b) (x1 : Int32) (x2 : Int32) : tvRun G yX0_valueOf cX0_valueOf 3 (some .int) 2 0 0 tvP0 tvP0 [.ref (G.2.1 + (b + 6)), .int x1, .int x2] M (.inl (some (.int (f_X0_valueOf M b x1 x2)))) M := by
  refine tvRun.of yk_X0_valueOf rfl [some (.ref (G.2.1 + (b + 6))), some (.int x1), some (.int x2)] rfl (Nat.le_of_ble_eq_true rfl) ?_
  intro E hG C hQ; subst hG
  refine tv_aload_n C dk_X0_valueOf_0 rfl ?_
  refine tv_iload_n C dk_X0_valueOf_1 rfl ?_
  refine tv_cV1 C dk_X0_valueOf_2 ml_RX0_50 yk_X0_has yi_X0_has (m_X0_has _ M hb x1) (tvSB_sh hb 6 (by decide)).2 (tvSB_sh hb 6 (by decide)).1 rfl rfl rfl (Nat.le_of_ble_eq_true rfl) (Nat.le_of_ble_eq_true rfl) (Nat.le_of_ble_eq_true rfl) (Nat.le_of_ble_eq_true rfl) (Nat.le_of_ble_eq_true rfl) ?_
  refine tv_if_eq C dk_X0_valueOf_5 (fun h1 => ?_) (fun h1 => ?_)
  · refine tv_iconst (v := 0) C dk_X0_valueOf_17 (by decide) ?_
    exact tv_iret C hQ dk_X0_valueOf_18 rfl (by rw [f_X0_valueOf, if_pos h1]) rfl
  refine tv_iload_n C dk_X0_valueOf_8 rfl ?_
  refine tv_if_lt C dk_X0_valueOf_9 (fun h2 => ?_) (fun h2 => ?_)
  · refine tv_iconst (v := 0) C dk_X0_valueOf_17 (by decide) ?_
    exact tv_iret C hQ dk_X0_valueOf_18 rfl (by rw [f_X0_valueOf, if_neg h1, if_pos h2]) rfl
  refine tv_iload_n C dk_X0_valueOf_12 rfl ?_
  refine tv_iconst (v := 5) C dk_X0_valueOf_13 (by decide) ?_
  refine tv_icmp_lt C dk_X0_valueOf_14 (fun h3 => ?_) (fun h3 => ?_)
  · refine tv_aload_n C dk_X0_valueOf_19 rfl ?_
    refine tv_getR (r := (b + 15)) C dk_X0_valueOf_20 fl_RX0_37 (tvSB_sh hb 6 (by decide)).2 (tvSB_sh hb 6 (by decide)).1 (tvSB_rho hb (6, 9, 15) (by decide)) (fun _ _ _ _ => rfl) ?_
    refine tv_iload_n C dk_X0_valueOf_23 rfl ?_
    refine tv_iconst (v := 5) C dk_X0_valueOf_24 (by decide) ?_
    refine tv_imul C dk_X0_valueOf_25 ?_
    refine tv_iload_n C dk_X0_valueOf_26 rfl ?_
    refine tv_iadd C dk_X0_valueOf_27 ?_
    refine tv_iald (j := ((x1 * 5) + x2).toNatClampNeg) rfl C dk_X0_valueOf_28 (tvSB_sh hb 15 (by decide)).2 (tvSB_sh hb 15 (by decide)).1 (tvin_mul (n := 10) (m := 5) (f_X0_has_in h1) (tvin_3 (n := 5) h2 h3 rfl (by decide)) rfl (by decide) (by decide)) ?_
    exact tv_iret C hQ dk_X0_valueOf_29 rfl (by rw [f_X0_valueOf, if_neg h1, if_neg h2, if_pos h3]) rfl
  refine tv_iconst (v := 0) C dk_X0_valueOf_17 (by decide) ?_
  exact tv_iret C hQ dk_X0_valueOf_18 rfl (by rw [f_X0_valueOf, if_neg h1, if_neg h2, if_neg h3]) rfl
/-- TideVault$Boxes.setValue(III)V -/
def f_X0_setValue (M : tvM) (b : Nat) (x1 : Int32) (x2 : Int32) (x3 : Int32) : tvM := (if (f_X0_has M b x1) = 0 then M else (if x2 < 0 then M else (if 5 ≤ x2 then M else (tpi M (b + 15) ((x1 * 5) + x2).toNatClampNeg x3))))
theorem m_X0_setValue (G : tvG) (M : tvM) {b : Nat} (hb : tvSB b) (x1 : Int32) (x2 : Int32) (x3 : Int32) : tvRun G yX0_setValue cX0_setValue 4 none 2 0 0 tvP0 tvP0 [.ref (G.2.1 + (b + 6)), .int x1, .int x2, .int x3] M (.inl none) (f_X0_setValue M b x1 x2 x3) := by
  refine tvRun.of yk_X0_setValue rfl [some (.ref (G.2.1 + (b + 6))), some (.int x1), some (.int x2), some (.int x3)] rfl (Nat.le_of_ble_eq_true rfl) ?_
  intro E hG C hQ; subst hG
  refine tv_aload_n C dk_X0_setValue_0 rfl ?_
  refine tv_iload_n C dk_X0_setValue_1 rfl ?_
  refine tv_cV1 C dk_X0_setValue_2 ml_RX0_50 yk_X0_has yi_X0_has (m_X0_has _ M hb x1) (tvSB_sh hb 6 (by decide)).2 (tvSB_sh hb 6 (by decide)).1 rfl rfl rfl (Nat.le_of_ble_eq_true rfl) (Nat.le_of_ble_eq_true rfl) (Nat.le_of_ble_eq_true rfl) (Nat.le_of_ble_eq_true rfl) (Nat.le_of_ble_eq_true rfl) ?_
  refine tv_if_eq C dk_X0_setValue_5 (fun h1 => ?_) (fun h1 => ?_)
  · exact tv_vret C hQ dk_X0_setValue_28 rfl (by rw [f_X0_setValue, if_pos h1])
  refine tv_iload_n C dk_X0_setValue_8 rfl ?_
  refine tv_if_lt C dk_X0_setValue_9 (fun h2 => ?_) (fun h2 => ?_)
  · exact tv_vret C hQ dk_X0_setValue_28 rfl (by rw [f_X0_setValue, if_neg h1, if_pos h2])
  refine tv_iload_n C dk_X0_setValue_12 rfl ?_
  refine tv_iconst (v := 5) C dk_X0_setValue_13 (by decide) ?_
  refine tv_icmp_ge C dk_X0_setValue_14 (fun h3 => ?_) (fun h3 => ?_)
  · exact tv_vret C hQ dk_X0_setValue_28 rfl (by rw [f_X0_setValue, if_neg h1, if_neg h2, if_pos h3])
  refine tv_aload_n C dk_X0_setValue_17 rfl ?_
  refine tv_getR (r := (b + 15)) C dk_X0_setValue_18 fl_RX0_37 (tvSB_sh hb 6 (by decide)).2 (tvSB_sh hb 6 (by decide)).1 (tvSB_rho hb (6, 9, 15) (by decide)) (fun _ _ _ _ => rfl) ?_
  refine tv_iload_n C dk_X0_setValue_21 rfl ?_
  refine tv_iconst (v := 5) C dk_X0_setValue_22 (by decide) ?_
  refine tv_imul C dk_X0_setValue_23 ?_
  refine tv_iload_n C dk_X0_setValue_24 rfl ?_
  refine tv_iadd C dk_X0_setValue_25 ?_
  refine tv_iload_n C dk_X0_setValue_26 rfl ?_
  refine tv_iast (j := ((x1 * 5) + x2).toNatClampNeg) rfl C tvP0_ex dk_X0_setValue_27 (tvSB_sh hb 15 (by decide)).2 (tvSB_sh hb 15 (by decide)).1 (tvin_mul (n := 10) (m := 5) (f_X0_has_in h1) (tvin_2 (n := 5) h2 h3 rfl (by decide)) rfl (by decide) (by decide)) ?_
  exact tv_vret C hQ dk_X0_setValue_28 rfl (by rw [f_X0_setValue, if_neg h1, if_neg h2, if_neg h3])
/-- TideVault$Boxes.sinceOf(I)I -/
def f_X0_sinceOf (M : tvM) (b : Nat) (x1 : Int32) : Int32 := (if (f_X0_has M b x1) = 0 then 0 else (tgi M (b + 13) x1.toNatClampNeg))
theorem m_X0_sinceOf (G : tvG) (M : tvM) {b : Nat} (hb : tvSB b) (x1 : Int32) : tvRun G yX0_sinceOf cX0_sinceOf 2 (some .int) 2 0 0 tvP0 tvP0 [.ref (G.2.1 + (b + 6)), .int x1] M (.inl (some (.int (f_X0_sinceOf M b x1)))) M := by
  refine tvRun.of yk_X0_sinceOf rfl [some (.ref (G.2.1 + (b + 6))), some (.int x1)] rfl (Nat.le_of_ble_eq_true rfl) ?_
  intro E hG C hQ; subst hG
  refine tv_aload_n C dk_X0_sinceOf_0 rfl ?_
  refine tv_iload_n C dk_X0_sinceOf_1 rfl ?_
  refine tv_cV1 C dk_X0_sinceOf_2 ml_RX0_50 yk_X0_has yi_X0_has (m_X0_has _ M hb x1) (tvSB_sh hb 6 (by decide)).2 (tvSB_sh hb 6 (by decide)).1 rfl rfl rfl (Nat.le_of_ble_eq_true rfl) (Nat.le_of_ble_eq_true rfl) (Nat.le_of_ble_eq_true rfl) (Nat.le_of_ble_eq_true rfl) (Nat.le_of_ble_eq_true rfl) ?_
  refine tv_if_eq C dk_X0_sinceOf_5 (fun h1 => ?_) (fun h1 => ?_)
  · refine tv_iconst (v := 0) C dk_X0_sinceOf_17 (by decide) ?_
    exact tv_iret C hQ dk_X0_sinceOf_18 rfl (by rw [f_X0_sinceOf, if_pos h1]) rfl
  refine tv_aload_n C dk_X0_sinceOf_8 rfl ?_
  refine tv_getR (r := (b + 13)) C dk_X0_sinceOf_9 fl_RX0_31 (tvSB_sh hb 6 (by decide)).2 (tvSB_sh hb 6 (by decide)).1 (tvSB_rho hb (6, 7, 13) (by decide)) (fun _ _ _ _ => rfl) ?_
  refine tv_iload_n C dk_X0_sinceOf_12 rfl ?_
  refine tv_iald (j := x1.toNatClampNeg) rfl C dk_X0_sinceOf_13 (tvSB_sh hb 13 (by decide)).2 (tvSB_sh hb 13 (by decide)).1 (f_X0_has_in h1) ?_
  refine tv_goto C dk_X0_sinceOf_14 ?_
  exact tv_iret C hQ dk_X0_sinceOf_18 rfl (by rw [f_X0_sinceOf, if_neg h1]) rfl
/-- TideVault$Boxes.firstOf(I)I -/
def f_X0_firstOf (M : tvM) (b : Nat) (x1 : Int32) : Int32 := (if (f_X0_has M b x1) = 0 then (-1) else (tgi M (b + 11) x1.toNatClampNeg))
theorem m_X0_firstOf (G : tvG) (M : tvM) {b : Nat} (hb : tvSB b) (x1 : Int32) : tvRun G yX0_firstOf cX0_firstOf 2 (some .int) 2 0 0 tvP0 tvP0 [.ref (G.2.1 + (b + 6)), .int x1] M (.inl (some (.int (f_X0_firstOf M b x1)))) M := by
  refine tvRun.of yk_X0_firstOf rfl [some (.ref (G.2.1 + (b + 6))), some (.int x1)] rfl (Nat.le_of_ble_eq_true rfl) ?_
  intro E hG C hQ; subst hG
  refine tv_aload_n C dk_X0_firstOf_0 rfl ?_
  refine tv_iload_n C dk_X0_firstOf_1 rfl ?_
  refine tv_cV1 C dk_X0_firstOf_2 ml_RX0_50 yk_X0_has yi_X0_has (m_X0_has _ M hb x1) (tvSB_sh hb 6 (by decide)).2 (tvSB_sh hb 6 (by decide)).1 rfl rfl rfl (Nat.le_of_ble_eq_true rfl) (Nat.le_of_ble_eq_true rfl) (Nat.le_of_ble_eq_true rfl) (Nat.le_of_ble_eq_true rfl) (Nat.le_of_ble_eq_true rfl) ?_
  refine tv_if_eq C dk_X0_firstOf_5 (fun h1 => ?_) (fun h1 => ?_)
  · refine tv_iconst (v := (-1)) C dk_X0_firstOf_17 (by decide) ?_
    exact tv_iret C hQ dk_X0_firstOf_18 rfl (by rw [f_X0_firstOf, if_pos h1]) rfl
  refine tv_aload_n C dk_X0_firstOf_8 rfl ?_
  refine tv_getR (r := (b + 11)) C dk_X0_firstOf_9 fl_RX0_25 (tvSB_sh hb 6 (by decide)).2 (tvSB_sh hb 6 (by decide)).1 (tvSB_rho hb (6, 5, 11) (by decide)) (fun _ _ _ _ => rfl) ?_
  refine tv_iload_n C dk_X0_firstOf_12 rfl ?_
  refine tv_iald (j := x1.toNatClampNeg) rfl C dk_X0_firstOf_13 (tvSB_sh hb 11 (by decide)).2 (tvSB_sh hb 11 (by decide)).1 (f_X0_has_in h1) ?_
  refine tv_goto C dk_X0_firstOf_14 ?_
  exact tv_iret C hQ dk_X0_firstOf_18 rfl (by rw [f_X0_firstOf, if_neg h1]) rfl
/-- TideVault$Boxes.remainingOf(I)I -/
def f_X0_remainingOf (M : tvM) (b : Nat) (x1 : Int32) : Int32 := (if (f_X0_has M b x1) = 0 then 0 else (tgi M (b + 12) x1.toNatClampNeg))
theorem m_X0_remainingOf (G : tvG) (M : tvM) {b : Nat} (hb : tvSB b) (x1 : Int32) : tvRun G yX0_remainingOf cX0_remainingOf 2 (some .int) 2 0 0 tvP0 tvP0 [.ref (G.2.1 + (b + 6)), .int x1] M (.inl (some (.int (f_X0_remainingOf M b x1)))) M := by
  refine tvRun.of yk_X0_remainingOf rfl [some (.ref (G.2.1 + (b + 6))), some (.int x1)] rfl (Nat.le_of_ble_eq_true rfl) ?_
  intro E hG C hQ; subst hG
  refine tv_aload_n C dk_X0_remainingOf_0 rfl ?_
  refine tv_iload_n C dk_X0_remainingOf_1 rfl ?_
  refine tv_cV1 C dk_X0_remainingOf_2 ml_RX0_50 yk_X0_has yi_X0_has (m_X0_has _ M hb x1) (tvSB_sh hb 6 (by decide)).2 (tvSB_sh hb 6 (by decide)).1 rfl rfl rfl (Nat.le_of_ble_eq_true rfl) (Nat.le_of_ble_eq_true rfl) (Nat.le_of_ble_eq_true rfl) (Nat.le_of_ble_eq_true rfl) (Nat.le_of_ble_eq_true rfl) ?_
  refine tv_if_eq C dk_X0_remainingOf_5 (fun h1 => ?_) (fun h1 => ?_)
  · refine tv_iconst (v := 0) C dk_X0_remainingOf_17 (by decide) ?_
    exact tv_iret C hQ dk_X0_remainingOf_18 rfl (by rw [f_X0_remainingOf, if_pos h1]) rfl
  refine tv_aload_n C dk_X0_remainingOf_8 rfl ?_
  refine tv_getR (r := (b + 12)) C dk_X0_remainingOf_9 fl_RX0_28 (tvSB_sh hb 6 (by decide)).2 (tvSB_sh hb 6 (by decide)).1 (tvSB_rho hb (6, 6, 12) (by decide)) (fun _ _ _ _ => rfl) ?_
  refine tv_iload_n C dk_X0_remainingOf_12 rfl ?_
  refine tv_iald (j := x1.toNatClampNeg) rfl C dk_X0_remainingOf_13 (tvSB_sh hb 12 (by decide)).2 (tvSB_sh hb 12 (by decide)).1 (f_X0_has_in h1) ?_
  refine tv_goto C dk_X0_remainingOf_14 ?_
  exact tv_iret C hQ dk_X0_remainingOf_18 rfl (by rw [f_X0_remainingOf, if_neg h1]) rfl
/-- TideVault$Boxes.pearlsIn(I)I -/
def f_X0_pearlsIn (M : tvM) (b : Nat) (x1 : Int32) : Int32 := (if (f_X0_has M b x1) = 0 then 0 else (tgi M (b + 14) x1.toNatClampNeg))
theorem m_X0_pearlsIn (G : tvG) (M : tvM) {b : Nat} (hb : tvSB b) (x1 : Int32) : tvRun G yX0_pearlsIn cX0_pearlsIn 2 (some .int) 2 0 0 tvP0 tvP0 [.ref (G.2.1 + (b + 6)), .int x1] M (.inl (some (.int (f_X0_pearlsIn M b x1)))) M := by
  refine tvRun.of yk_X0_pearlsIn rfl [some (.ref (G.2.1 + (b + 6))), some (.int x1)] rfl (Nat.le_of_ble_eq_true rfl) ?_
  intro E hG C hQ; subst hG
  refine tv_aload_n C dk_X0_pearlsIn_0 rfl ?_
  refine tv_iload_n C dk_X0_pearlsIn_1 rfl ?_
  refine tv_cV1 C dk_X0_pearlsIn_2 ml_RX0_50 yk_X0_has yi_X0_has (m_X0_has _ M hb x1) (tvSB_sh hb 6 (by decide)).2 (tvSB_sh hb 6 (by decide)).1 rfl rfl rfl (Nat.le_of_ble_eq_true rfl) (Nat.le_of_ble_eq_true rfl) (Nat.le_of_ble_eq_true rfl) (Nat.le_of_ble_eq_true rfl) (Nat.le_of_ble_eq_true rfl) ?_
  refine tv_if_eq C dk_X0_pearlsIn_5 (fun h1 => ?_) (fun h1 => ?_)
  · refine tv_iconst (v := 0) C dk_X0_pearlsIn_17 (by decide) ?_
    exact tv_iret C hQ dk_X0_pearlsIn_18 rfl (by rw [f_X0_pearlsIn, if_pos h1]) rfl
  refine tv_aload_n C dk_X0_pearlsIn_8 rfl ?_
  refine tv_getR (r := (b + 14)) C dk_X0_pearlsIn_9 fl_RX0_34 (tvSB_sh hb 6 (by decide)).2 (tvSB_sh hb 6 (by decide)).1 (tvSB_rho hb (6, 8, 14) (by decide)) (fun _ _ _ _ => rfl) ?_
  refine tv_iload_n C dk_X0_pearlsIn_12 rfl ?_
  refine tv_iald (j := x1.toNatClampNeg) rfl C dk_X0_pearlsIn_13 (tvSB_sh hb 14 (by decide)).2 (tvSB_sh hb 14 (by decide)).1 (f_X0_has_in h1) ?_
  refine tv_goto C dk_X0_pearlsIn_14 ?_
  exact tv_iret C hQ dk_X0_pearlsIn_18 rfl (by rw [f_X0_pearlsIn, if_neg h1]) rfl
/-- TideVault$Boxes.belongsTo(II)Z -/
def f_X0_belongsTo (M : tvM) (b : Nat) (x1 : Int32) (x2 : Int32) : Int32 := (if (f_X0_has M b x1) = 0 then 0 else (if (tgi M (b + 7) x1.toNatClampNeg) = x2 then 1 else (if (tgi M (b + 8) x1.toNatClampNeg) = x2 then 1 else 0)))
theorem m_X0_belongsTo (G : tvG) (M : tvM) {b : Nat} (hb : tvSB b) (x1 : Int32) (x2 : Int32) : tvRun G yX0_belongsTo cX0_belongsTo 3 (some .boolean) 2 0 0 tvP0 tvP0 [.ref (G.2.1 + (b + 6)), .int x1, .int x2] M (.inl (some (.int (f_X0_belongsTo M b x1 x2)))) M := by
  refine tvRun.of yk_X0_belongsTo rfl [some (.ref (G.2.1 + (b + 6))), some (.int x1), some (.int x2)] rfl (Nat.le_of_ble_eq_true rfl) ?_
  intro E hG C hQ; subst hG
  refine tv_aload_n C dk_X0_belongsTo_0 rfl ?_
  refine tv_iload_n C dk_X0_belongsTo_1 rfl ?_
  refine tv_cV1 C dk_X0_belongsTo_2 ml_RX0_50 yk_X0_has yi_X0_has (m_X0_has _ M hb x1) (tvSB_sh hb 6 (by decide)).2 (tvSB_sh hb 6 (by decide)).1 rfl rfl rfl (Nat.le_of_ble_eq_true rfl) (Nat.le_of_ble_eq_true rfl) (Nat.le_of_ble_eq_true rfl) (Nat.le_of_ble_eq_true rfl) (Nat.le_of_ble_eq_true rfl) ?_
  refine tv_if_eq C dk_X0_belongsTo_5 (fun h1 => ?_) (fun h1 => ?_)
  · refine tv_iconst (v := 0) C dk_X0_belongsTo_32 (by decide) ?_
    exact tv_iret C hQ dk_X0_belongsTo_33 rfl (by rw [f_X0_belongsTo, if_pos h1]) rfl
  refine tv_aload_n C dk_X0_belongsTo_8 rfl ?_
  refine tv_getR (r := (b + 7)) C dk_X0_belongsTo_9 fl_RX0_9 (tvSB_sh hb 6 (by decide)).2 (tvSB_sh hb 6 (by decide)).1 (tvSB_rho hb (6, 1, 7) (by decide)) (fun _ _ _ _ => rfl) ?_
  refine tv_iload_n C dk_X0_belongsTo_12 rfl ?_
  refine tv_iald (j := x1.toNatClampNeg) rfl C dk_X0_belongsTo_13 (tvSB_sh hb 7 (by decide)).2 (tvSB_sh hb 7 (by decide)).1 (f_X0_has_in h1) ?_
  refine tv_iload_n C dk_X0_belongsTo_14 rfl ?_
  refine tv_icmp_eq C dk_X0_belongsTo_15 (fun h2 => ?_) (fun h2 => ?_)
  · refine tv_iconst (v := 1) C dk_X0_belongsTo_28 (by decide) ?_
    refine tv_goto C dk_X0_belongsTo_29 ?_
    exact tv_iret C hQ dk_X0_belongsTo_33 rfl (by rw [f_X0_belongsTo, if_neg h1, if_pos h2]) rfl
  refine tv_aload_n C dk_X0_belongsTo_18 rfl ?_
  refine tv_getR (r := (b + 8)) C dk_X0_belongsTo_19 fl_RX0_15 (tvSB_sh hb 6 (by decide)).2 (tvSB_sh hb 6 (by decide)).1 (tvSB_rho hb (6, 2, 8) (by decide)) (fun _ _ _ _ => rfl) ?_
  refine tv_iload_n C dk_X0_belongsTo_22 rfl ?_
  refine tv_iald (j := x1.toNatClampNeg) rfl C dk_X0_belongsTo_23 (tvSB_sh hb 8 (by decide)).2 (tvSB_sh hb 8 (by decide)).1 (f_X0_has_in h1) ?_
  refine tv_iload_n C dk_X0_belongsTo_24 rfl ?_
  refine tv_icmp_ne C dk_X0_belongsTo_25 (fun h3 => ?_) (fun h3 => ?_)
  · refine tv_iconst (v := 0) C dk_X0_belongsTo_32 (by decide) ?_
    exact tv_iret C hQ dk_X0_belongsTo_33 rfl (by rw [f_X0_belongsTo, if_neg h1, if_neg h2, if_neg h3]) rfl
  refine tv_iconst (v := 1) C dk_X0_belongsTo_28 (by decide) ?_
  refine tv_goto C dk_X0_belongsTo_29 ?_
  exact tv_iret C hQ dk_X0_belongsTo_33 rfl (by rw [f_X0_belongsTo, if_neg h1, if_neg h2, if_pos h3]) rfl
theorem fz_X0_belongsTo {M : tvM} {b : Nat} {x1 : Int32} {x2 : Int32} : narrow .boolean (.int (f_X0_belongsTo M b x1 x2)) = .int (f_X0_belongsTo M b x1 x2) := by
  unfold f_X0_belongsTo; repeat' split
  all_goals first | rfl
/-- TideVault$Boxes.partnerOf(II)I -/
def f_X0_partnerOf (M : tvM) (b : Nat) (x1 : Int32) (x2 : Int32) : Int32 := (if (f_X0_has M b x1) = 0 then (-1) else (if (tgi M (b + 7) x1.toNatClampNeg) = x2 then (tgi M (b + 8) x1.toNatClampNeg) else (tgi M (b + 7) x1.toNatClampNeg)))
theorem m_X0_partnerOf (G : tvG) (M : tvM) {b : Nat} (hb : tvSB b) (x1 : Int32) (x2 : Int32) : tvRun G yX0_partnerOf cX0_partnerOf 3 (some .int) 2 0 0 tvP0 tvP0 [.ref (G.2.1 + (b + 6)), .int x1, .int x2] M (.inl (some (.int (f_X0_partnerOf M b x1 x2)))) M := by
  refine tvRun.of yk_X0_partnerOf rfl [some (.ref (G.2.1 + (b + 6))), some (.int x1), some (.int x2)] rfl (Nat.le_of_ble_eq_true rfl) ?_
  intro E hG C hQ; subst hG
  refine tv_aload_n C dk_X0_partnerOf_0 rfl ?_
  refine tv_iload_n C dk_X0_partnerOf_1 rfl ?_
  refine tv_cV1 C dk_X0_partnerOf_2 ml_RX0_50 yk_X0_has yi_X0_has (m_X0_has _ M hb x1) (tvSB_sh hb 6 (by decide)).2 (tvSB_sh hb 6 (by decide)).1 rfl rfl rfl (Nat.le_of_ble_eq_true rfl) (Nat.le_of_ble_eq_true rfl) (Nat.le_of_ble_eq_true rfl) (Nat.le_of_ble_eq_true rfl) (Nat.le_of_ble_eq_true rfl) ?_
  refine tv_if_ne C dk_X0_partnerOf_5 (fun h1 => ?_) (fun h1 => ?_)
  · refine tv_aload_n C dk_X0_partnerOf_10 rfl ?_
    refine tv_getR (r := (b + 7)) C dk_X0_partnerOf_11 fl_RX0_9 (tvSB_sh hb 6 (by decide)).2 (tvSB_sh hb 6 (by decide)).1 (tvSB_rho hb (6, 1, 7) (by decide)) (fun _ _ _ _ => rfl) ?_
    refine tv_iload_n C dk_X0_partnerOf_14 rfl ?_
    refine tv_iald (j := x1.toNatClampNeg) rfl C dk_X0_partnerOf_15 (tvSB_sh hb 7 (by decide)).2 (tvSB_sh hb 7 (by decide)).1 (f_X0_has_in h1) ?_
    refine tv_iload_n C dk_X0_partnerOf_16 rfl ?_
    refine tv_icmp_ne C dk_X0_partnerOf_17 (fun h2 => ?_) (fun h2 => ?_)
    · refine tv_aload_n C dk_X0_partnerOf_29 rfl ?_
      refine tv_getR (r := (b + 7)) C dk_X0_partnerOf_30 fl_RX0_9 (tvSB_sh hb 6 (by decide)).2 (tvSB_sh hb 6 (by decide)).1 (tvSB_rho hb (6, 1, 7) (by decide)) (fun _ _ _ _ => rfl) ?_
      refine tv_iload_n C dk_X0_partnerOf_33 rfl ?_
      refine tv_iald (j := x1.toNatClampNeg) rfl C dk_X0_partnerOf_34 (tvSB_sh hb 7 (by decide)).2 (tvSB_sh hb 7 (by decide)).1 (f_X0_has_in h1) ?_
      exact tv_iret C hQ dk_X0_partnerOf_35 rfl (by rw [f_X0_partnerOf, if_neg h1, if_neg h2]) rfl
    refine tv_aload_n C dk_X0_partnerOf_20 rfl ?_
    refine tv_getR (r := (b + 8)) C dk_X0_partnerOf_21 fl_RX0_15 (tvSB_sh hb 6 (by decide)).2 (tvSB_sh hb 6 (by decide)).1 (tvSB_rho hb (6, 2, 8) (by decide)) (fun _ _ _ _ => rfl) ?_
    refine tv_iload_n C dk_X0_partnerOf_24 rfl ?_
    refine tv_iald (j := x1.toNatClampNeg) rfl C dk_X0_partnerOf_25 (tvSB_sh hb 8 (by decide)).2 (tvSB_sh hb 8 (by decide)).1 (f_X0_has_in h1) ?_
    refine tv_goto C dk_X0_partnerOf_26 ?_
    exact tv_iret C hQ dk_X0_partnerOf_35 rfl (by rw [f_X0_partnerOf, if_neg h1, if_pos h2]) rfl
  refine tv_iconst (v := (-1)) C dk_X0_partnerOf_8 (by decide) ?_
  exact tv_iret C hQ dk_X0_partnerOf_9 rfl (by rw [f_X0_partnerOf, if_pos h1]) rfl
/-- TideVault$Boxes.awaits(II)Z -/
def f_X0_awaits (M : tvM) (b : Nat) (x1 : Int32) (x2 : Int32) : Int32 := (if (f_X0_statusOf M b x1) = 99 then 1 else (if (f_X0_statusOf M b x1) = 104 then (if (f_X0_firstOf M b x1) = x2 then 0 else 1) else 0))
theorem m_X0_awaits (G : tvG) (M : tvM) {b : Nat} (hb : tvSB b) (x1 : Int32) (x2 : Int32) : tvRun G yX0_awaits cX0_awaits 4 (some .boolean) 3 0 0 tvP0 tvP0 [.ref (G.2.1 + (b + 6)), .int x1, .int x2] M (.inl (some (.int (f_X0_awaits M b x1 x2)))) M := by
  refine tvRun.of yk_X0_awaits rfl [some (.ref (G.2.1 + (b + 6))), some (.int x1), some (.int x2), none] rfl (Nat.le_of_ble_eq_true rfl) ?_
  intro E hG C hQ; subst hG
  refine tv_aload_n C dk_X0_awaits_0 rfl ?_
  refine tv_iload_n C dk_X0_awaits_1 rfl ?_
  refine tv_cV1 C dk_X0_awaits_2 ml_RX0_58 yk_X0_statusOf yi_X0_statusOf (m_X0_statusOf _ M hb x1) (tvSB_sh hb 6 (by decide)).2 (tvSB_sh hb 6 (by decide)).1 rfl rfl rfl (Nat.le_of_ble_eq_true rfl) (Nat.le_of_ble_eq_true rfl) (Nat.le_of_ble_eq_true rfl) (Nat.le_of_ble_eq_true rfl) (Nat.le_of_ble_eq_true rfl) ?_
  refine tv_istore_n (L' := [_, _, _, _]) (hn := by decide) (hlt := (Nat.le_of_ble_eq_true rfl)) (hno := rfl) C dk_X0_awaits_5 rfl ?_
  refine tv_iload_n C dk_X0_awaits_6 rfl ?_
  refine tv_bipush (v := 99) C dk_X0_awaits_7 (by decide) ?_
  refine tv_icmp_eq C dk_X0_awaits_9 (fun h1 => ?_) (fun h1 => ?_)
  · refine tv_iconst (v := 1) C dk_X0_awaits_27 (by decide) ?_
    refine tv_goto C dk_X0_awaits_28 ?_
    exact tv_iret C hQ dk_X0_awaits_32 rfl (by rw [f_X0_awaits, if_pos h1]) rfl
  refine tv_iload_n C dk_X0_awaits_12 rfl ?_
  refine tv_bipush (v := 104) C dk_X0_awaits_13 (by decide) ?_
  refine tv_icmp_ne C dk_X0_awaits_15 (fun h2 => ?_) (fun h2 => ?_)
  · refine tv_iconst (v := 0) C dk_X0_awaits_31 (by decide) ?_
    exact tv_iret C hQ dk_X0_awaits_32 rfl (by rw [f_X0_awaits, if_neg h1, if_neg h2]) rfl
  refine tv_aload_n C dk_X0_awaits_18 rfl ?_
  refine tv_iload_n C dk_X0_awaits_19 rfl ?_
  refine tv_cV1 C dk_X0_awaits_20 ml_RX0_62 yk_X0_firstOf yi_X0_firstOf (m_X0_firstOf _ M hb x1) (tvSB_sh hb 6 (by decide)).2 (tvSB_sh hb 6 (by decide)).1 rfl rfl rfl (Nat.le_of_ble_eq_true rfl) (Nat.le_of_ble_eq_true rfl) (Nat.le_of_ble_eq_true rfl) (Nat.le_of_ble_eq_true rfl) (Nat.le_of_ble_eq_true rfl) ?_
  refine tv_iload_n C dk_X0_awaits_23 rfl ?_
  refine tv_icmp_eq C dk_X0_awaits_24 (fun h3 => ?_) (fun h3 => ?_)
  · refine tv_iconst (v := 0) C dk_X0_awaits_31 (by decide) ?_
    exact tv_iret C hQ dk_X0_awaits_32 rfl (by rw [f_X0_awaits, if_neg h1, if_pos h2, if_pos h3]) rfl
  refine tv_iconst (v := 1) C dk_X0_awaits_27 (by decide) ?_
  refine tv_goto C dk_X0_awaits_28 ?_
  exact tv_iret C hQ dk_X0_awaits_32 rfl (by rw [f_X0_awaits, if_neg h1, if_pos h2, if_neg h3]) rfl
theorem fz_X0_awaits {M : tvM} {b : Nat} {x1 : Int32} {x2 : Int32} : narrow .boolean (.int (f_X0_awaits M b x1 x2)) = .int (f_X0_awaits M b x1 x2) := by
  unfold f_X0_awaits; repeat' split
  all_goals first | rfl
/-- TideVault$Boxes.become(CII)V -/
def f_X0_become (M : tvM) (b : Nat) (x1 : Int32) (x2 : Int32) (x3 : Int32) : tvM := (if (f_X0_has M b x2) = 0 then M else (tpi (tpi M (b + 10) x2.toNatClampNeg x1) (b + 13) x2.toNatClampNeg x3))
theorem m_X0_become (G : tvG) (M : tvM) {b : Nat} (hb : tvSB b) (x1 : Int32) (x2 : Int32) (x3 : Int32) : tvRun G yX0_become cX0_become 4 none 2 0 0 tvP0 tvP0 [.ref (G.2.1 + (b + 6)), .int x1, .int x2, .int x3] M (.inl none) (f_X0_become M b x1 x2 x3) := by
  refine tvRun.of yk_X0_become rfl [some (.ref (G.2.1 + (b + 6))), some (.int x1), some (.int x2), some (.int x3)] rfl (Nat.le_of_ble_eq_true rfl) ?_
  intro E hG C hQ; subst hG
  refine tv_aload_n C dk_X0_become_0 rfl ?_
  refine tv_iload_n C dk_X0_become_1 rfl ?_
  refine tv_cV1 C dk_X0_become_2 ml_RX0_50 yk_X0_has yi_X0_has (m_X0_has _ M hb x2) (tvSB_sh hb 6 (by decide)).2 (tvSB_sh hb 6 (by decide)).1 rfl rfl rfl (Nat.le_of_ble_eq_true rfl) (Nat.le_of_ble_eq_true rfl) (Nat.le_of_ble_eq_true rfl) (Nat.le_of_ble_eq_true rfl) (Nat.le_of_ble_eq_true rfl) ?_
  refine tv_if_eq C dk_X0_become_5 (fun h1 => ?_) (fun h1 => ?_)
  · exact tv_vret C hQ dk_X0_become_22 rfl (by rw [f_X0_become, if_pos h1])
  refine tv_aload_n C dk_X0_become_8 rfl ?_
  refine tv_getR (r := (b + 10)) C dk_X0_become_9 fl_RX0_21 (tvSB_sh hb 6 (by decide)).2 (tvSB_sh hb 6 (by decide)).1 (tvSB_rho hb (6, 4, 10) (by decide)) (fun _ _ _ _ => rfl) ?_
  refine tv_iload_n C dk_X0_become_12 rfl ?_
  refine tv_iload_n C dk_X0_become_13 rfl ?_
  refine tv_cast (j := x2.toNatClampNeg) rfl C tvP0_ex dk_X0_become_14 (tvSB_sh hb 10 (by decide)).2 (tvSB_sh hb 10 (by decide)).1 (f_X0_has_in h1) ?_
  refine tv_aload_n C dk_X0_become_15 rfl ?_
  refine tv_getR (r := (b + 13)) C dk_X0_become_16 fl_RX0_31 (tvSB_sh hb 6 (by decide)).2 (tvSB_sh hb 6 (by decide)).1 (tvSB_rho hb (6, 7, 13) (by decide)) (fun _ _ _ _ => rfl) ?_
  refine tv_iload_n C dk_X0_become_19 rfl ?_
  refine tv_iload_n C dk_X0_become_20 rfl ?_
  refine tv_iast (j := x2.toNatClampNeg) rfl C tvP0_ex dk_X0_become_21 (tvSB_sh hb 13 (by decide)).2 (tvSB_sh hb 13 (by decide)).1 (f_X0_has_in h1) ?_
  exact tv_vret C hQ dk_X0_become_22 rfl (by rw [f_X0_become, if_neg h1])
/-- TideVault$Boxes.halfOpen(III)V -/
def f_X0_halfOpen (M : tvM) (b : Nat) (x1 : Int32) (x2 : Int32) (x3 : Int32) : tvM := (if (f_X0_has M b x1) = 0 then M else (f_X0_become (tpi M (b + 11) x1.toNatClampNeg x2) b 104 x1 x3))
theorem m_X0_halfOpen (G : tvG) (M : tvM) {b : Nat} (hb : tvSB b) (x1 : Int32) (x2 : Int32) (x3 : Int32) : tvRun G yX0_halfOpen cX0_halfOpen 4 none 3 0 0 tvP0 tvP0 [.ref (G.2.1 + (b + 6)), .int x1, .int x2, .int x3] M (.inl none) (f_X0_halfOpen M b x1 x2 x3) := by
  refine tvRun.of yk_X0_halfOpen rfl [some (.ref (G.2.1 + (b + 6))), some (.int x1), some (.int x2), some (.int x3)] rfl (Nat.le_of_ble_eq_true rfl) ?_
  intro E hG C hQ; subst hG
  refine tv_aload_n C dk_X0_halfOpen_0 rfl ?_
  refine tv_iload_n C dk_X0_halfOpen_1 rfl ?_
  refine tv_cV1 C dk_X0_halfOpen_2 ml_RX0_50 yk_X0_has yi_X0_has (m_X0_has _ M hb x1) (tvSB_sh hb 6 (by decide)).2 (tvSB_sh hb 6 (by decide)).1 rfl rfl rfl (Nat.le_of_ble_eq_true rfl) (Nat.le_of_ble_eq_true rfl) (Nat.le_of_ble_eq_true rfl) (Nat.le_of_ble_eq_true rfl) (Nat.le_of_ble_eq_true rfl) ?_
  refine tv_if_eq C dk_X0_halfOpen_5 (fun h1 => ?_) (fun h1 => ?_)
  · exact tv_vret C hQ dk_X0_halfOpen_23 rfl (by rw [f_X0_halfOpen, if_pos h1])
  refine tv_aload_n C dk_X0_halfOpen_8 rfl ?_
  refine tv_getR (r := (b + 11)) C dk_X0_halfOpen_9 fl_RX0_25 (tvSB_sh hb 6 (by decide)).2 (tvSB_sh hb 6 (by decide)).1 (tvSB_rho hb (6, 5, 11) (by decide)) (fun _ _ _ _ => rfl) ?_
  refine tv_iload_n C dk_X0_halfOpen_12 rfl ?_
  refine tv_iload_n C dk_X0_halfOpen_13 rfl ?_
  refine tv_iast (j := x1.toNatClampNeg) rfl C tvP0_ex dk_X0_halfOpen_14 (tvSB_sh hb 11 (by decide)).2 (tvSB_sh hb 11 (by decide)).1 (f_X0_has_in h1) ?_
  refine tv_aload_n C dk_X0_halfOpen_15 rfl ?_
  refine tv_bipush (v := 104) C dk_X0_halfOpen_16 (by decide) ?_
  refine tv_iload_n C dk_X0_halfOpen_18 rfl ?_
  refine tv_iload_n C dk_X0_halfOpen_19 rfl ?_
  refine tv_cV0 C dk_X0_halfOpen_20 ml_RX0_66 yk_X0_become yi_X0_become (m_X0_become _ (tpi M (b + 11) x1.toNatClampNeg x2) hb 104 x1 x3) (tvSB_sh hb 6 (by decide)).2 (tvSB_sh hb 6 (by decide)).1 rfl rfl rfl (Nat.le_of_ble_eq_true rfl) (Nat.le_of_ble_eq_true rfl) (Nat.le_of_ble_eq_true rfl) (Nat.le_of_ble_eq_true rfl) (Nat.le_of_ble_eq_true rfl) ?_
  exact tv_vret C hQ dk_X0_halfOpen_23 rfl (by rw [f_X0_halfOpen, if_neg h1])
/-- TideVault$Boxes.startDelay(I)V -/
def f_X0_startDelay (M : tvM) (b : Nat) (x1 : Int32) : tvM := (if (f_X0_has M b x1) = 0 then M else (tpi (tpi M (b + 10) x1.toNatClampNeg 112) (b + 12) x1.toNatClampNeg (tgi (tpi M (b + 10) x1.toNatClampNeg 112) (b + 9) x1.toNatClampNeg)))
theorem m_X0_startDelay (G : tvG) (M : tvM) {b : Nat} (hb : tvSB b) (x1 : Int32) : tvRun G yX0_startDelay cX0_startDelay 2 none 2 0 0 tvP0 tvP0 [.ref (G.2.1 + (b + 6)), .int x1] M (.inl none) (f_X0_startDelay M b x1) := by
  refine tvRun.of yk_X0_startDelay rfl [some (.ref (G.2.1 + (b + 6))), some (.int x1)] rfl (Nat.le_of_ble_eq_true rfl) ?_
  intro E hG C hQ; subst hG
  refine tv_aload_n C dk_X0_startDelay_0 rfl ?_
  refine tv_iload_n C dk_X0_startDelay_1 rfl ?_
  refine tv_cV1 C dk_X0_startDelay_2 ml_RX0_50 yk_X0_has yi_X0_has (m_X0_has _ M hb x1) (tvSB_sh hb 6 (by decide)).2 (tvSB_sh hb 6 (by decide)).1 rfl rfl rfl (Nat.le_of_ble_eq_true rfl) (Nat.le_of_ble_eq_true rfl) (Nat.le_of_ble_eq_true rfl) (Nat.le_of_ble_eq_true rfl) (Nat.le_of_ble_eq_true rfl) ?_
  refine tv_if_eq C dk_X0_startDelay_5 (fun h1 => ?_) (fun h1 => ?_)
  · exact tv_vret C hQ dk_X0_startDelay_28 rfl (by rw [f_X0_startDelay, if_pos h1])
  refine tv_aload_n C dk_X0_startDelay_8 rfl ?_
  refine tv_getR (r := (b + 10)) C dk_X0_startDelay_9 fl_RX0_21 (tvSB_sh hb 6 (by decide)).2 (tvSB_sh hb 6 (by decide)).1 (tvSB_rho hb (6, 4, 10) (by decide)) (fun _ _ _ _ => rfl) ?_
  refine tv_iload_n C dk_X0_startDelay_12 rfl ?_
  refine tv_bipush (v := 112) C dk_X0_startDelay_13 (by decide) ?_
  refine tv_cast (j := x1.toNatClampNeg) rfl C tvP0_ex dk_X0_startDelay_15 (tvSB_sh hb 10 (by decide)).2 (tvSB_sh hb 10 (by decide)).1 (f_X0_has_in h1) ?_
  refine tv_aload_n C dk_X0_startDelay_16 rfl ?_
  refine tv_getR (r := (b + 12)) C dk_X0_startDelay_17 fl_RX0_28 (tvSB_sh hb 6 (by decide)).2 (tvSB_sh hb 6 (by decide)).1 (tvSB_rho hb (6, 6, 12) (by decide)) (fun _ _ _ _ => rfl) ?_
  refine tv_iload_n C dk_X0_startDelay_20 rfl ?_
  refine tv_aload_n C dk_X0_startDelay_21 rfl ?_
  refine tv_getR (r := (b + 9)) C dk_X0_startDelay_22 fl_RX0_18 (tvSB_sh hb 6 (by decide)).2 (tvSB_sh hb 6 (by decide)).1 (tvSB_rho hb (6, 3, 9) (by decide)) (fun _ _ _ _ => rfl) ?_
  refine tv_iload_n C dk_X0_startDelay_25 rfl ?_
  refine tv_iald (j := x1.toNatClampNeg) rfl C dk_X0_startDelay_26 (tvSB_sh hb 9 (by decide)).2 (tvSB_sh hb 9 (by decide)).1 (f_X0_has_in h1) ?_
  refine tv_iast (j := x1.toNatClampNeg) rfl C tvP0_ex dk_X0_startDelay_27 (tvSB_sh hb 12 (by decide)).2 (tvSB_sh hb 12 (by decide)).1 (f_X0_has_in h1) ?_
  exact tv_vret C hQ dk_X0_startDelay_28 rfl (by rw [f_X0_startDelay, if_neg h1])
/-- TideVault$Boxes.isOverdue(II)Z -/
def f_X0_isOverdue (M : tvM) (b : Nat) (x1 : Int32) (x2 : Int32) : Int32 := (if (f_X0_statusOf M b x1) = 104 then (if 5 ≤ (x2 - (f_X0_sinceOf M b x1)) then 1 else (if (f_X0_statusOf M b x1) = 111 then (if (x2 - (f_X0_sinceOf M b x1)) < 10 then 0 else 1) else 0)) else (if (f_X0_statusOf M b x1) = 111 then (if (x2 - (f_X0_sinceOf M b x1)) < 10 then 0 else 1) else 0))
theorem m_X0_isOverdue (G : tvG) (M : tvM) {b : Nat} (hb : tvSB b) (x1 : Int32) (x2 : Int32) : tvRun G yX0_isOverdue cX0_isOverdue 5 (some .boolean) 3 0 0 tvP0 tvP0 [.ref (G.2.1 + (b + 6)), .int x1, .int x2] M (.inl (some (.int (f_X0_isOverdue M b x1 x2)))) M := by
  refine tvRun.of yk_X0_isOverdue rfl [some (.ref (G.2.1 + (b + 6))), some (.int x1), some (.int x2), none, none] rfl (Nat.le_of_ble_eq_true rfl) ?_
  intro E hG C hQ; subst hG
  refine tv_aload_n C dk_X0_isOverdue_0 rfl ?_
  refine tv_iload_n C dk_X0_isOverdue_1 rfl ?_
  refine tv_cV1 C dk_X0_isOverdue_2 ml_RX0_58 yk_X0_statusOf yi_X0_statusOf (m_X0_statusOf _ M hb x1) (tvSB_sh hb 6 (by decide)).2 (tvSB_sh hb 6 (by decide)).1 rfl rfl rfl (Nat.le_of_ble_eq_true rfl) (Nat.le_of_ble_eq_true rfl) (Nat.le_of_ble_eq_true rfl) (Nat.le_of_ble_eq_true rfl) (Nat.le_of_ble_eq_true rfl) ?_
  refine tv_istore_n (L' := [_, _, _, _, _]) (hn := by decide) (hlt := (Nat.le_of_ble_eq_true rfl)) (hno := rfl) C dk_X0_isOverdue_5 rfl ?_
  refine tv_iload_n C dk_X0_isOverdue_6 rfl ?_
  refine tv_aload_n C dk_X0_isOverdue_7 rfl ?_
  refine tv_iload_n C dk_X0_isOverdue_8 rfl ?_
  refine tv_cV1 C dk_X0_isOverdue_9 ml_RX0_70 yk_X0_sinceOf yi_X0_sinceOf (m_X0_sinceOf _ M hb x1) (tvSB_sh hb 6 (by decide)).2 (tvSB_sh hb 6 (by decide)).1 rfl rfl rfl (Nat.le_of_ble_eq_true rfl) (Nat.le_of_ble_eq_true rfl) (Nat.le_of_ble_eq_true rfl) (Nat.le_of_ble_eq_true rfl) (Nat.le_of_ble_eq_true rfl) ?_
  refine tv_isub C dk_X0_isOverdue_12 ?_
  refine tv_istore (L' := [_, _, _, _, _]) (hn := by decide) (hlt := (Nat.le_of_ble_eq_true rfl)) (hno := rfl) C dk_X0_isOverdue_13 rfl ?_
  refine tv_iload_n C dk_X0_isOverdue_15 rfl ?_
  refine tv_bipush (v := 104) C dk_X0_isOverdue_16 (by decide) ?_
  refine tv_icmp_ne C dk_X0_isOverdue_18 (fun h1 => ?_) (fun h1 => ?_)
  · refine tv_iload_n C dk_X0_isOverdue_27 rfl ?_
    refine tv_bipush (v := 111) C dk_X0_isOverdue_28 (by decide) ?_
    refine tv_icmp_ne C dk_X0_isOverdue_30 (fun h2 => ?_) (fun h2 => ?_)
    · refine tv_iconst (v := 0) C dk_X0_isOverdue_44 (by decide) ?_
      exact tv_iret C hQ dk_X0_isOverdue_45 rfl (by rw [f_X0_isOverdue, if_neg h1, if_neg h2]) rfl
    refine tv_iload C dk_X0_isOverdue_33 rfl ?_
    refine tv_bipush (v := 10) C dk_X0_isOverdue_35 (by decide) ?_
    refine tv_icmp_lt C dk_X0_isOverdue_37 (fun h3 => ?_) (fun h3 => ?_)
    · refine tv_iconst (v := 0) C dk_X0_isOverdue_44 (by decide) ?_
      exact tv_iret C hQ dk_X0_isOverdue_45 rfl (by rw [f_X0_isOverdue, if_neg h1, if_pos h2, if_pos h3]) rfl
    refine tv_iconst (v := 1) C dk_X0_isOverdue_40 (by decide) ?_
    refine tv_goto C dk_X0_isOverdue_41 ?_
    exact tv_iret C hQ dk_X0_isOverdue_45 rfl (by rw [f_X0_isOverdue, if_neg h1, if_pos h2, if_neg h3]) rfl
  refine tv_iload C dk_X0_isOverdue_21 rfl ?_
  refine tv_iconst (v := 5) C dk_X0_isOverdue_23 (by decide) ?_
  refine tv_icmp_ge C dk_X0_isOverdue_24 (fun h4 => ?_) (fun h4 => ?_)
  · refine tv_iconst (v := 1) C dk_X0_isOverdue_40 (by decide) ?_
    refine tv_goto C dk_X0_isOverdue_41 ?_
    exact tv_iret C hQ dk_X0_isOverdue_45 rfl (by rw [f_X0_isOverdue, if_pos h1, if_pos h4]) rfl
  refine tv_iload_n C dk_X0_isOverdue_27 rfl ?_
  refine tv_bipush (v := 111) C dk_X0_isOverdue_28 (by decide) ?_
  refine tv_icmp_ne C dk_X0_isOverdue_30 (fun h5 => ?_) (fun h5 => ?_)
  · refine tv_iconst (v := 0) C dk_X0_isOverdue_44 (by decide) ?_
    exact tv_iret C hQ dk_X0_isOverdue_45 rfl (by rw [f_X0_isOverdue, if_pos h1, if_neg h4, if_neg h5]) rfl
  refine tv_iload C dk_X0_isOverdue_33 rfl ?_
  refine tv_bipush (v := 10) C dk_X0_isOverdue_35 (by decide) ?_
  refine tv_icmp_lt C dk_X0_isOverdue_37 (fun h6 => ?_) (fun h6 => ?_)
  · refine tv_iconst (v := 0) C dk_X0_isOverdue_44 (by decide) ?_
    exact tv_iret C hQ dk_X0_isOverdue_45 rfl (by rw [f_X0_isOverdue, if_pos h1, if_neg h4, if_pos h5, if_pos h6]) rfl
  refine tv_iconst (v := 1) C dk_X0_isOverdue_40 (by decide) ?_
  refine tv_goto C dk_X0_isOverdue_41 ?_
  exact tv_iret C hQ dk_X0_isOverdue_45 rfl (by rw [f_X0_isOverdue, if_pos h1, if_neg h4, if_pos h5, if_neg h6]) rfl
theorem fz_X0_isOverdue {M : tvM} {b : Nat} {x1 : Int32} {x2 : Int32} : narrow .boolean (.int (f_X0_isOverdue M b x1 x2)) = .int (f_X0_isOverdue M b x1 x2) := by
  unfold f_X0_isOverdue; repeat' split
  all_goals first | rfl
/-- TideVault$Boxes.setPearls(II)I -/
def f_X0_setPearls (M : tvM) (b : Nat) (x1 : Int32) (x2 : Int32) : Int32 × tvM := (if (f_X0_has M b x1) = 0 then ((f_X0_pearlsIn M b x1), M) else (if x2 < 0 then ((f_X0_pearlsIn M b x1), M) else (if 5 < x2 then ((f_X0_pearlsIn M b x1), M) else ((f_X0_pearlsIn (tpi M (b + 14) x1.toNatClampNeg x2) b x1), (tpi M (b + 14) x1.toNatClampNeg x2)))))
theorem m_X0_setPearls (G : tvG) (M : tvM) {b : Nat} (hb : tvSB b) (x1 : Int32) (x2 : Int32) : tvRun G yX0_setPearls cX0_setPearls 3 (some .int) 3 0 0 tvP0 tvP0 [.ref (G.2.1 + (b + 6)), .int x1, .int x2] M (.inl (some (.int (f_X0_setPearls M b x1 x2).1))) ((f_X0_setPearls M b x1 x2).2) := by
  refine tvRun.of yk_X0_setPearls rfl [some (.ref (G.2.1 + (b + 6))), some (.int x1), some (.int x2)] rfl (Nat.le_of_ble_eq_true rfl) ?_
  intro E hG C hQ; subst hG
  refine tv_aload_n C dk_X0_setPearls_0 rfl ?_
  refine tv_iload_n C dk_X0_setPearls_1 rfl ?_
  refine tv_cV1 C dk_X0_setPearls_2 ml_RX0_50 yk_X0_has yi_X0_has (m_X0_has _ M hb x1) (tvSB_sh hb 6 (by decide)).2 (tvSB_sh hb 6 (by decide)).1 rfl rfl rfl (Nat.le_of_ble_eq_true rfl) (Nat.le_of_ble_eq_true rfl) (Nat.le_of_ble_eq_true rfl) (Nat.le_of_ble_eq_true rfl) (Nat.le_of_ble_eq_true rfl) ?_
  refine tv_if_eq C dk_X0_setPearls_5 (fun h1 => ?_) (fun h1 => ?_)
  · refine tv_aload_n C dk_X0_setPearls_24 rfl ?_
    refine tv_iload_n C dk_X0_setPearls_25 rfl ?_
    refine tv_cV1 C dk_X0_setPearls_26 ml_RX0_73 yk_X0_pearlsIn yi_X0_pearlsIn (m_X0_pearlsIn _ M hb x1) (tvSB_sh hb 6 (by decide)).2 (tvSB_sh hb 6 (by decide)).1 rfl rfl rfl (Nat.le_of_ble_eq_true rfl) (Nat.le_of_ble_eq_true rfl) (Nat.le_of_ble_eq_true rfl) (Nat.le_of_ble_eq_true rfl) (Nat.le_of_ble_eq_true rfl) ?_
    exact tv_iret C hQ dk_X0_setPearls_29 rfl (by rw [f_X0_setPearls, if_pos h1]) (by rw [f_X0_setPearls, if_pos h1])
  refine tv_iload_n C dk_X0_setPearls_8 rfl ?_
  refine tv_if_lt C dk_X0_setPearls_9 (fun h2 => ?_) (fun h2 => ?_)
  · refine tv_aload_n C dk_X0_setPearls_24 rfl ?_
    refine tv_iload_n C dk_X0_setPearls_25 rfl ?_
    refine tv_cV1 C dk_X0_setPearls_26 ml_RX0_73 yk_X0_pearlsIn yi_X0_pearlsIn (m_X0_pearlsIn _ M hb x1) (tvSB_sh hb 6 (by decide)).2 (tvSB_sh hb 6 (by decide)).1 rfl rfl rfl (Nat.le_of_ble_eq_true rfl) (Nat.le_of_ble_eq_true rfl) (Nat.le_of_ble_eq_true rfl) (Nat.le_of_ble_eq_true rfl) (Nat.le_of_ble_eq_true rfl) ?_
    exact tv_iret C hQ dk_X0_setPearls_29 rfl (by rw [f_X0_setPearls, if_neg h1, if_pos h2]) (by rw [f_X0_setPearls, if_neg h1, if_pos h2])
  refine tv_iload_n C dk_X0_setPearls_12 rfl ?_
  refine tv_iconst (v := 5) C dk_X0_setPearls_13 (by decide) ?_
  refine tv_icmp_gt C dk_X0_setPearls_14 (fun h3 => ?_) (fun h3 => ?_)
  · refine tv_aload_n C dk_X0_setPearls_24 rfl ?_
    refine tv_iload_n C dk_X0_setPearls_25 rfl ?_
    refine tv_cV1 C dk_X0_setPearls_26 ml_RX0_73 yk_X0_pearlsIn yi_X0_pearlsIn (m_X0_pearlsIn _ M hb x1) (tvSB_sh hb 6 (by decide)).2 (tvSB_sh hb 6 (by decide)).1 rfl rfl rfl (Nat.le_of_ble_eq_true rfl) (Nat.le_of_ble_eq_true rfl) (Nat.le_of_ble_eq_true rfl) (Nat.le_of_ble_eq_true rfl) (Nat.le_of_ble_eq_true rfl) ?_
    exact tv_iret C hQ dk_X0_setPearls_29 rfl (by rw [f_X0_setPearls, if_neg h1, if_neg h2, if_pos h3]) (by rw [f_X0_setPearls, if_neg h1, if_neg h2, if_pos h3])
  refine tv_aload_n C dk_X0_setPearls_17 rfl ?_
  refine tv_getR (r := (b + 14)) C dk_X0_setPearls_18 fl_RX0_34 (tvSB_sh hb 6 (by decide)).2 (tvSB_sh hb 6 (by decide)).1 (tvSB_rho hb (6, 8, 14) (by decide)) (fun _ _ _ _ => rfl) ?_
  refine tv_iload_n C dk_X0_setPearls_21 rfl ?_
  refine tv_iload_n C dk_X0_setPearls_22 rfl ?_
  refine tv_iast (j := x1.toNatClampNeg) rfl C tvP0_ex dk_X0_setPearls_23 (tvSB_sh hb 14 (by decide)).2 (tvSB_sh hb 14 (by decide)).1 (f_X0_has_in h1) ?_
  refine tv_aload_n C dk_X0_setPearls_24 rfl ?_
  refine tv_iload_n C dk_X0_setPearls_25 rfl ?_
  refine tv_cV1 C dk_X0_setPearls_26 ml_RX0_73 yk_X0_pearlsIn yi_X0_pearlsIn (m_X0_pearlsIn _ (tpi M (b + 14) x1.toNatClampNeg x2) hb x1) (tvSB_sh hb 6 (by decide)).2 (tvSB_sh hb 6 (by decide)).1 rfl rfl rfl (Nat.le_of_ble_eq_true rfl) (Nat.le_of_ble_eq_true rfl) (Nat.le_of_ble_eq_true rfl) (Nat.le_of_ble_eq_true rfl) (Nat.le_of_ble_eq_true rfl) ?_
  exact tv_iret C hQ dk_X0_setPearls_29 rfl (by rw [f_X0_setPearls, if_neg h1, if_neg h2, if_neg h3]) (by rw [f_X0_setPearls, if_neg h1, if_neg h2, if_neg h3])
/-- TideVault$Boxes.addPearl(II)I -/
def f_X0_addPearl (M : tvM) (b : Nat) (x1 : Int32) (x2 : Int32) : Int32 × tvM := ((f_X0_setPearls (f_X0_setValue M b x1 (f_X0_pearlsIn M b x1) x2) b x1 ((f_X0_pearlsIn M b x1) + 1)).1, (f_X0_setPearls (f_X0_setValue M b x1 (f_X0_pearlsIn M b x1) x2) b x1 ((f_X0_pearlsIn M b x1) + 1)).2)
theorem m_X0_addPearl (G : tvG) (M : tvM) {b : Nat} (hb : tvSB b) (x1 : Int32) (x2 : Int32) : tvRun G yX0_addPearl cX0_addPearl 4 (some .int) 4 0 0 tvP0 tvP0 [.ref (G.2.1 + (b + 6)), .int x1, .int x2] M (.inl (some (.int (f_X0_addPearl M b x1 x2).1))) ((f_X0_addPearl M b x1 x2).2) := by
  refine tvRun.of yk_X0_addPearl rfl [some (.ref (G.2.1 + (b + 6))), some (.int x1), some (.int x2), none] rfl (Nat.le_of_ble_eq_true rfl) ?_
  intro E hG C hQ; subst hG
  refine tv_aload_n C dk_X0_addPearl_0 rfl ?_
  refine tv_iload_n C dk_X0_addPearl_1 rfl ?_
  refine tv_cV1 C dk_X0_addPearl_2 ml_RX0_73 yk_X0_pearlsIn yi_X0_pearlsIn (m_X0_pearlsIn _ M hb x1) (tvSB_sh hb 6 (by decide)).2 (tvSB_sh hb 6 (by decide)).1 rfl rfl rfl (Nat.le_of_ble_eq_true rfl) (Nat.le_of_ble_eq_true rfl) (Nat.le_of_ble_eq_true rfl) (Nat.le_of_ble_eq_true rfl) (Nat.le_of_ble_eq_true rfl) ?_
  refine tv_istore_n (L' := [_, _, _, _]) (hn := by decide) (hlt := (Nat.le_of_ble_eq_true rfl)) (hno := rfl) C dk_X0_addPearl_5 rfl ?_
  refine tv_aload_n C dk_X0_addPearl_6 rfl ?_
  refine tv_iload_n C dk_X0_addPearl_7 rfl ?_
  refine tv_iload_n C dk_X0_addPearl_8 rfl ?_
  refine tv_iload_n C dk_X0_addPearl_9 rfl ?_
  refine tv_cV0 C dk_X0_addPearl_10 ml_RX0_76 yk_X0_setValue yi_X0_setValue (m_X0_setValue _ M hb x1 (f_X0_pearlsIn M b x1) x2) (tvSB_sh hb 6 (by decide)).2 (tvSB_sh hb 6 (by decide)).1 rfl rfl rfl (Nat.le_of_ble_eq_true rfl) (Nat.le_of_ble_eq_true rfl) (Nat.le_of_ble_eq_true rfl) (Nat.le_of_ble_eq_true rfl) (Nat.le_of_ble_eq_true rfl) ?_
  refine tv_aload_n C dk_X0_addPearl_13 rfl ?_
  refine tv_iload_n C dk_X0_addPearl_14 rfl ?_
  refine tv_iload_n C dk_X0_addPearl_15 rfl ?_
  refine tv_iconst (v := 1) C dk_X0_addPearl_16 (by decide) ?_
  refine tv_iadd C dk_X0_addPearl_17 ?_
  refine tv_cV1 C dk_X0_addPearl_18 ml_RX0_80 yk_X0_setPearls yi_X0_setPearls (m_X0_setPearls _ (f_X0_setValue M b x1 (f_X0_pearlsIn M b x1) x2) hb x1 ((f_X0_pearlsIn M b x1) + 1)) (tvSB_sh hb 6 (by decide)).2 (tvSB_sh hb 6 (by decide)).1 rfl rfl rfl (Nat.le_of_ble_eq_true rfl) (Nat.le_of_ble_eq_true rfl) (Nat.le_of_ble_eq_true rfl) (Nat.le_of_ble_eq_true rfl) (Nat.le_of_ble_eq_true rfl) ?_
  exact tv_iret C hQ dk_X0_addPearl_21 rfl (by rw [f_X0_addPearl]) (by rw [f_X0_addPearl])
/-- TideVault$Boxes.add(III)I -/
def f_X0_add (M : tvM) (b : Nat) (x1 : Int32) (x2 : Int32) (x3 : Int32) : Int32 × tvM := (if (tgi M (b + 6) 0) < 0 then ((-1), M) else (if (tgi M (b + 6) 0) < 10 then ((tgi M (b + 6) 0), (tpi (tpi (tpi (tpi (tpi (tpi (tpi (tpi (tpi M (b + 7) (tgi M (b + 6) 0).toNatClampNeg x1) (b + 8) (tgi M (b + 6) 0).toNatClampNeg x2) (b + 9) (tgi M (b + 6) 0).toNatClampNeg x3) (b + 10) (tgi M (b + 6) 0).toNatClampNeg 99) (b + 11) (tgi M (b + 6) 0).toNatClampNeg (-1)) (b + 12) (tgi M (b + 6) 0).toNatClampNeg 0) (b + 13) (tgi M (b + 6) 0).toNatClampNeg 0) (b + 14) (tgi M (b + 6) 0).toNatClampNeg 0) (b + 6) 0 ((tgi (tpi (tpi (tpi (tpi (tpi (tpi (tpi (tpi M (b + 7) (tgi M (b + 6) 0).toNatClampNeg x1) (b + 8) (tgi M (b + 6) 0).toNatClampNeg x2) (b + 9) (tgi M (b + 6) 0).toNatClampNeg x3) (b + 10) (tgi M (b + 6) 0).toNatClampNeg 99) (b + 11) (tgi M (b + 6) 0).toNatClampNeg (-1)) (b + 12) (tgi M (b + 6) 0).toNatClampNeg 0) (b + 13) (tgi M (b + 6) 0).toNatClampNeg 0) (b + 14) (tgi M (b + 6) 0).toNatClampNeg 0) (b + 6) 0) + 1))) else ((-1), M)))
theorem m_X0_add (G : tvG) (M : tvM) {b : Nat} (hb : tvSB b) (x1 : Int32) (x2 : Int32) (x3 : Int32) : tvRun G yX0_add cX0_add 5 (some .int) 1 0 0 tvP0 tvP0 [.ref (G.2.1 + (b + 6)), .int x1, .int x2, .int x3] M (.inl (some (.int (f_X0_add M b x1 x2 x3).1))) ((f_X0_add M b x1 x2 x3).2) := by
  refine tvRun.of yk_X0_add rfl [some (.ref (G.2.1 + (b + 6))), some (.int x1), some (.int x2), some (.int x3), none] rfl (Nat.le_of_ble_eq_true rfl) ?_
  intro E hG C hQ; subst hG
  refine tv_aload_n C dk_X0_add_0 rfl ?_
  refine tv_getI C dk_X0_add_1 fl_RX0_40 (tvSB_sh hb 6 (by decide)).2 (tvSB_sh hb 6 (by decide)).1 (fun _ _ _ _ => rfl) ?_
  refine tv_istore (L' := [_, _, _, _, _]) (hn := by decide) (hlt := (Nat.le_of_ble_eq_true rfl)) (hno := rfl) C dk_X0_add_4 rfl ?_
  refine tv_iload C dk_X0_add_6 rfl ?_
  refine tv_if_lt C dk_X0_add_8 (fun h1 => ?_) (fun h1 => ?_)
  · refine tv_iconst (v := (-1)) C dk_X0_add_18 (by decide) ?_
    exact tv_iret C hQ dk_X0_add_19 rfl (by rw [f_X0_add, if_pos h1]) (by rw [f_X0_add, if_pos h1])
  refine tv_iload C dk_X0_add_11 rfl ?_
  refine tv_bipush (v := 10) C dk_X0_add_13 (by decide) ?_
  refine tv_icmp_lt C dk_X0_add_15 (fun h2 => ?_) (fun h2 => ?_)
  · refine tv_aload_n C dk_X0_add_20 rfl ?_
    refine tv_getR (r := (b + 7)) C dk_X0_add_21 fl_RX0_9 (tvSB_sh hb 6 (by decide)).2 (tvSB_sh hb 6 (by decide)).1 (tvSB_rho hb (6, 1, 7) (by decide)) (fun _ _ _ _ => rfl) ?_
    refine tv_iload C dk_X0_add_24 rfl ?_
    refine tv_iload_n C dk_X0_add_26 rfl ?_
    refine tv_iast (j := (tgi M (b + 6) 0).toNatClampNeg) rfl C tvP0_ex dk_X0_add_27 (tvSB_sh hb 7 (by decide)).2 (tvSB_sh hb 7 (by decide)).1 (tvin_3 (n := 10) h1 h2 rfl (by decide)) ?_
    refine tv_aload_n C dk_X0_add_28 rfl ?_
    refine tv_getR (r := (b + 8)) C dk_X0_add_29 fl_RX0_15 (tvSB_sh hb 6 (by decide)).2 (tvSB_sh hb 6 (by decide)).1 (tvSB_rho hb (6, 2, 8) (by decide)) (fun _ _ _ _ => rfl) ?_
    refine tv_iload C dk_X0_add_32 rfl ?_
    refine tv_iload_n C dk_X0_add_34 rfl ?_
    refine tv_iast (j := (tgi M (b + 6) 0).toNatClampNeg) rfl C tvP0_ex dk_X0_add_35 (tvSB_sh hb 8 (by decide)).2 (tvSB_sh hb 8 (by decide)).1 (tvin_3 (n := 10) h1 h2 rfl (by decide)) ?_
    refine tv_aload_n C dk_X0_add_36 rfl ?_
    refine tv_getR (r := (b + 9)) C dk_X0_add_37 fl_RX0_18 (tvSB_sh hb 6 (by decide)).2 (tvSB_sh hb 6 (by decide)).1 (tvSB_rho hb (6, 3, 9) (by decide)) (fun _ _ _ _ => rfl) ?_
    refine tv_iload C dk_X0_add_40 rfl ?_
    refine tv_iload_n C dk_X0_add_42 rfl ?_
    refine tv_iast (j := (tgi M (b + 6) 0).toNatClampNeg) rfl C tvP0_ex dk_X0_add_43 (tvSB_sh hb 9 (by decide)).2 (tvSB_sh hb 9 (by decide)).1 (tvin_3 (n := 10) h1 h2 rfl (by decide)) ?_
    refine tv_aload_n C dk_X0_add_44 rfl ?_
    refine tv_getR (r := (b + 10)) C dk_X0_add_45 fl_RX0_21 (tvSB_sh hb 6 (by decide)).2 (tvSB_sh hb 6 (by decide)).1 (tvSB_rho hb (6, 4, 10) (by decide)) (fun _ _ _ _ => rfl) ?_
    refine tv_iload C dk_X0_add_48 rfl ?_
    refine tv_bipush (v := 99) C dk_X0_add_50 (by decide) ?_
    refine tv_cast (j := (tgi M (b + 6) 0).toNatClampNeg) rfl C tvP0_ex dk_X0_add_52 (tvSB_sh hb 10 (by decide)).2 (tvSB_sh hb 10 (by decide)).1 (tvin_3 (n := 10) h1 h2 rfl (by decide)) ?_
    refine tv_aload_n C dk_X0_add_53 rfl ?_
    refine tv_getR (r := (b + 11)) C dk_X0_add_54 fl_RX0_25 (tvSB_sh hb 6 (by decide)).2 (tvSB_sh hb 6 (by decide)).1 (tvSB_rho hb (6, 5, 11) (by decide)) (fun _ _ _ _ => rfl) ?_
    refine tv_iload C dk_X0_add_57 rfl ?_
    refine tv_iconst (v := (-1)) C dk_X0_add_59 (by decide) ?_
    refine tv_iast (j := (tgi M (b + 6) 0).toNatClampNeg) rfl C tvP0_ex dk_X0_add_60 (tvSB_sh hb 11 (by decide)).2 (tvSB_sh hb 11 (by decide)).1 (tvin_3 (n := 10) h1 h2 rfl (by decide)) ?_
    refine tv_aload_n C dk_X0_add_61 rfl ?_
    refine tv_getR (r := (b + 12)) C dk_X0_add_62 fl_RX0_28 (tvSB_sh hb 6 (by decide)).2 (tvSB_sh hb 6 (by decide)).1 (tvSB_rho hb (6, 6, 12) (by decide)) (fun _ _ _ _ => rfl) ?_
    refine tv_iload C dk_X0_add_65 rfl ?_
    refine tv_iconst (v := 0) C dk_X0_add_67 (by decide) ?_
    refine tv_iast (j := (tgi M (b + 6) 0).toNatClampNeg) rfl C tvP0_ex dk_X0_add_68 (tvSB_sh hb 12 (by decide)).2 (tvSB_sh hb 12 (by decide)).1 (tvin_3 (n := 10) h1 h2 rfl (by decide)) ?_
    refine tv_aload_n C dk_X0_add_69 rfl ?_
    refine tv_getR (r := (b + 13)) C dk_X0_add_70 fl_RX0_31 (tvSB_sh hb 6 (by decide)).2 (tvSB_sh hb 6 (by decide)).1 (tvSB_rho hb (6, 7, 13) (by decide)) (fun _ _ _ _ => rfl) ?_
    refine tv_iload C dk_X0_add_73 rfl ?_
    refine tv_iconst (v := 0) C dk_X0_add_75 (by decide) ?_
    refine tv_iast (j := (tgi M (b + 6) 0).toNatClampNeg) rfl C tvP0_ex dk_X0_add_76 (tvSB_sh hb 13 (by decide)).2 (tvSB_sh hb 13 (by decide)).1 (tvin_3 (n := 10) h1 h2 rfl (by decide)) ?_
    refine tv_aload_n C dk_X0_add_77 rfl ?_
    refine tv_getR (r := (b + 14)) C dk_X0_add_78 fl_RX0_34 (tvSB_sh hb 6 (by decide)).2 (tvSB_sh hb 6 (by decide)).1 (tvSB_rho hb (6, 8, 14) (by decide)) (fun _ _ _ _ => rfl) ?_
    refine tv_iload C dk_X0_add_81 rfl ?_
    refine tv_iconst (v := 0) C dk_X0_add_83 (by decide) ?_
    refine tv_iast (j := (tgi M (b + 6) 0).toNatClampNeg) rfl C tvP0_ex dk_X0_add_84 (tvSB_sh hb 14 (by decide)).2 (tvSB_sh hb 14 (by decide)).1 (tvin_3 (n := 10) h1 h2 rfl (by decide)) ?_
    refine tv_aload_n C dk_X0_add_85 rfl ?_
    refine tv_dup C dk_X0_add_86 rfl ?_
    refine tv_getI C dk_X0_add_87 fl_RX0_40 (tvSB_sh hb 6 (by decide)).2 (tvSB_sh hb 6 (by decide)).1 (fun _ _ _ _ => rfl) ?_
    refine tv_iconst (v := 1) C dk_X0_add_90 (by decide) ?_
    refine tv_iadd C dk_X0_add_91 ?_
    refine tv_putI C tvP0_ex dk_X0_add_92 fl_RX0_40 fw_0_0 (tvSB_sh hb 6 (by decide)).2 (tvSB_sh hb 6 (by decide)).1 rfl (fun _ _ _ _ _ => rfl) rfl rfl ?_
    refine tv_iload C dk_X0_add_95 rfl ?_
    exact tv_iret C hQ dk_X0_add_97 rfl (by rw [f_X0_add, if_neg h1, if_pos h2]) (by rw [f_X0_add, if_neg h1, if_pos h2])
  refine tv_iconst (v := (-1)) C dk_X0_add_18 (by decide) ?_
  exact tv_iret C hQ dk_X0_add_19 rfl (by rw [f_X0_add, if_neg h1, if_neg h2]) (by rw [f_X0_add, if_neg h1, if_neg h2])
/-- TideVault$Boxes.countOf(I)I -/
def sb_X0_countOf (M : tvM) (b : Nat) (x1 : Int32) (y2 : Int32) (y3 : Int32) : (Int32 × Int32) ⊕ Int32 := (if (tgi M (b + 6) 0) ≤ y3 then .inr y2 else (if (f_X0_belongsTo M b y3 x1) = 0 then .inl (y2, (y3 + 1)) else .inl ((y2 + 1), (y3 + 1))))
def s_X0_countOf (M : tvM) (b : Nat) (x1 : Int32) : (Int32 × Int32) → (Int32 × Int32) ⊕ Int32 := fun q => sb_X0_countOf M b x1 q.1 q.2
def e_X0_countOf (M : tvM) (b : Nat) (x1 : Int32) : (Int32 × Int32) ⊕ Int32 := .inl (0, 0)
theorem m_X0_countOf (G : tvG) (M : tvM) {b : Nat} (hb : tvSB b) (x1 : Int32) (n : Nat) (r : Int32) (hs : tvIter (s_X0_countOf M b x1) n (e_X0_countOf M b x1) = some r) : tvRun G yX0_countOf cX0_countOf 4 (some .int) 3 0 0 tvP0 tvP0 [.ref (G.2.1 + (b + 6)), .int x1] M (.inl (some (.int r))) M := by
  refine tvRun.of yk_X0_countOf rfl [some (.ref (G.2.1 + (b + 6))), some (.int x1), none, none] rfl (Nat.le_of_ble_eq_true rfl) ?_
  intro E hG C hQ; subst hG
  have K : ∀ (n : Nat) (q : Int32 × Int32), tvIter (s_X0_countOf M b x1) n (.inl q) = some r → tv_W E tvP0 0 0 M 4 [some (.ref (E.G.2.1 + (b + 6))), some (.int x1), some (.int q.1), some (.int q.2)] [] := by
    intro n
    induction n with
    | zero => intro q hq; exact (tvIter_0 hq).elim
    | succ n ih =>
      intro q hq
      obtain ⟨y2, y3⟩ := q
      have hs : tvIter (s_X0_countOf M b x1) n (sb_X0_countOf M b x1 y2 y3) = some r := tvIter_go hq
      refine tv_iload_n C dk_X0_countOf_4 rfl ?_
      refine tv_aload_n C dk_X0_countOf_5 rfl ?_
      refine tv_getI C dk_X0_countOf_6 fl_RX0_40 (tvSB_sh hb 6 (by decide)).2 (tvSB_sh hb 6 (by decide)).1 (fun _ _ _ _ => rfl) ?_
      refine tv_icmp_ge C dk_X0_countOf_9 (fun h101 => ?_) (fun h101 => ?_)
      · refine tv_iload_n C dk_X0_countOf_30 rfl ?_
        exact tv_iret C hQ dk_X0_countOf_31 rfl (by rw [sb_X0_countOf, if_pos h101] at hs; rw [← tvIter_out hs]) rfl
      refine tv_aload_n C dk_X0_countOf_12 rfl ?_
      refine tv_iload_n C dk_X0_countOf_13 rfl ?_
      refine tv_iload_n C dk_X0_countOf_14 rfl ?_
      refine tv_cV1 C dk_X0_countOf_15 ml_RX0_54 yk_X0_belongsTo yi_X0_belongsTo (m_X0_belongsTo _ M hb y3 x1) (tvSB_sh hb 6 (by decide)).2 (tvSB_sh hb 6 (by decide)).1 rfl rfl rfl (Nat.le_of_ble_eq_true rfl) (Nat.le_of_ble_eq_true rfl) (Nat.le_of_ble_eq_true rfl) (Nat.le_of_ble_eq_true rfl) (Nat.le_of_ble_eq_true rfl) ?_
      refine tv_if_eq C dk_X0_countOf_18 (fun h102 => ?_) (fun h102 => ?_)
      · refine tv_iinc (v := (y3 + 1)) (L' := [_, _, _, _]) (hn := by decide) (hlt := (Nat.le_of_ble_eq_true rfl)) (hno := rfl) C dk_X0_countOf_24 rfl rfl rfl ?_
        refine tv_goto C dk_X0_countOf_27 ?_
        exact (ih (y2, (y3 + 1)) (by rw [sb_X0_countOf, if_neg h101, if_pos h102] at hs; exact hs))
      refine tv_iinc (v := (y2 + 1)) (L' := [_, _, _, _]) (hn := by decide) (hlt := (Nat.le_of_ble_eq_true rfl)) (hno := rfl) C dk_X0_countOf_21 rfl rfl rfl ?_
      refine tv_iinc (v := (y3 + 1)) (L' := [_, _, _, _]) (hn := by decide) (hlt := (Nat.le_of_ble_eq_true rfl)) (hno := rfl) C dk_X0_countOf_24 rfl rfl rfl ?_
      refine tv_goto C dk_X0_countOf_27 ?_
      exact (ih ((y2 + 1), (y3 + 1)) (by rw [sb_X0_countOf, if_neg h101, if_neg h102] at hs; exact hs))
  refine tv_iconst (v := 0) C dk_X0_countOf_0 (by decide) ?_
  refine tv_istore_n (L' := [_, _, _, _]) (hn := by decide) (hlt := (Nat.le_of_ble_eq_true rfl)) (hno := rfl) C dk_X0_countOf_1 rfl ?_
  refine tv_iconst (v := 0) C dk_X0_countOf_2 (by decide) ?_
  refine tv_istore_n (L' := [_, _, _, _]) (hn := by decide) (hlt := (Nat.le_of_ble_eq_true rfl)) (hno := rfl) C dk_X0_countOf_3 rfl ?_
  exact (K n (0, 0) (by rw [e_X0_countOf] at hs; exact hs))
def f_X0_countOf (M : tvM) (b : Nat) (x1 : Int32) : Int32 := nI (tvCt (fun i => !decide ((f_X0_belongsTo M b (nI i) x1) = 0)) (tgi M (b + 6) 0).toNatClampNeg)
theorem r_X0_countOf (M : tvM) (b : Nat) (x1 : Int32) : ∃ n, tvIter (s_X0_countOf M b x1) n (e_X0_countOf M b x1) = some (f_X0_countOf M b x1) := by
  refine tvIter_for (s_X0_countOf M b x1) (fun i => (nI (tvCt (fun i => !decide ((f_X0_belongsTo M b (nI i) x1) = 0)) i), nI i)) (tgi M (b + 6) 0).toNatClampNeg _ (fun i hi => ?_) ?_
  · simp only [s_X0_countOf, sb_X0_countOf, if_neg (tv_nle hi), tvCt]
    by_cases h : (f_X0_belongsTo M b (nI i) x1) = 0
    · simp [h, nI_1]
    · simp [h, nI_1]
  · simp only [s_X0_countOf, sb_X0_countOf, if_pos tv_le, f_X0_countOf]
theorem n_X0_countOf (G : tvG) (M : tvM) {b : Nat} (hb : tvSB b) (x1 : Int32) : tvRun G yX0_countOf cX0_countOf 4 (some .int) 3 0 0 tvP0 tvP0 [.ref (G.2.1 + (b + 6)), .int x1] M (.inl (some (.int (f_X0_countOf M b x1)))) M := by
  obtain ⟨n, hn⟩ := r_X0_countOf M b x1 
  exact m_X0_countOf G M hb x1 n _ hn
/-- TideVault$Boxes.countIn(C)I -/
def sb_X0_countIn (M : tvM) (b : Nat) (x1 : Int32) (y2 : Int32) (y3 : Int32) : (Int32 × Int32) ⊕ Int32 := (if (tgi M (b + 6) 0) ≤ y3 then .inr y2 else (if (f_X0_statusOf M b y3) = x1 then .inl ((y2 + 1), (y3 + 1)) else .inl (y2, (y3 + 1))))
def s_X0_countIn (M : tvM) (b : Nat) (x1 : Int32) : (Int32 × Int32) → (Int32 × Int32) ⊕ Int32 := fun q => sb_X0_countIn M b x1 q.1 q.2
def e_X0_countIn (M : tvM) (b : Nat) (x1 : Int32) : (Int32 × Int32) ⊕ Int32 := .inl (0, 0)
theorem m_X0_countIn (G : tvG) (M : tvM) {b : Nat} (hb : tvSB b) (x1 : Int32) (n : Nat) (r : Int32) (hs : tvIter (s_X0_countIn M b x1) n (e_X0_countIn M b x1) = some r) : tvRun G yX0_countIn cX0_countIn 4 (some .int) 3 0 0 tvP0 tvP0 [.ref (G.2.1 + (b + 6)), .int x1] M (.inl (some (.int r))) M := by
  refine tvRun.of yk_X0_countIn rfl [some (.ref (G.2.1 + (b + 6))), some (.int x1), none, none] rfl (Nat.le_of_ble_eq_true rfl) ?_
  intro E hG C hQ; subst hG
  have K : ∀ (n : Nat) (q : Int32 × Int32), tvIter (s_X0_countIn M b x1) n (.inl q) = some r → tv_W E tvP0 0 0 M 4 [some (.ref (E.G.2.1 + (b + 6))), some (.int x1), some (.int q.1), some (.int q.2)] [] := by
    intro n
    induction n with
    | zero => intro q hq; exact (tvIter_0 hq).elim
    | succ n ih =>
      intro q hq
      obtain ⟨y2, y3⟩ := q
      have hs : tvIter (s_X0_countIn M b x1) n (sb_X0_countIn M b x1 y2 y3) = some r := tvIter_go hq
      refine tv_iload_n C dk_X0_countIn_4 rfl ?_
      refine tv_aload_n C dk_X0_countIn_5 rfl ?_
      refine tv_getI C dk_X0_countIn_6 fl_RX0_40 (tvSB_sh hb 6 (by decide)).2 (tvSB_sh hb 6 (by decide)).1 (fun _ _ _ _ => rfl) ?_
      refine tv_icmp_ge C dk_X0_countIn_9 (fun h101 => ?_) (fun h101 => ?_)
      · refine tv_iload_n C dk_X0_countIn_30 rfl ?_
        exact tv_iret C hQ dk_X0_countIn_31 rfl (by rw [sb_X0_countIn, if_pos h101] at hs; rw [← tvIter_out hs]) rfl
      refine tv_aload_n C dk_X0_countIn_12 rfl ?_
      refine tv_iload_n C dk_X0_countIn_13 rfl ?_
      refine tv_cV1 C dk_X0_countIn_14 ml_RX0_58 yk_X0_statusOf yi_X0_statusOf (m_X0_statusOf _ M hb y3) (tvSB_sh hb 6 (by decide)).2 (tvSB_sh hb 6 (by decide)).1 rfl rfl rfl (Nat.le_of_ble_eq_true rfl) (Nat.le_of_ble_eq_true rfl) (Nat.le_of_ble_eq_true rfl) (Nat.le_of_ble_eq_true rfl) (Nat.le_of_ble_eq_true rfl) ?_
      refine tv_iload_n C dk_X0_countIn_17 rfl ?_
      refine tv_icmp_ne C dk_X0_countIn_18 (fun h102 => ?_) (fun h102 => ?_)
      · refine tv_iinc (v := (y3 + 1)) (L' := [_, _, _, _]) (hn := by decide) (hlt := (Nat.le_of_ble_eq_true rfl)) (hno := rfl) C dk_X0_countIn_24 rfl rfl rfl ?_
        refine tv_goto C dk_X0_countIn_27 ?_
        exact (ih (y2, (y3 + 1)) (by rw [sb_X0_countIn, if_neg h101, if_neg h102] at hs; exact hs))
      refine tv_iinc (v := (y2 + 1)) (L' := [_, _, _, _]) (hn := by decide) (hlt := (Nat.le_of_ble_eq_true rfl)) (hno := rfl) C dk_X0_countIn_21 rfl rfl rfl ?_
      refine tv_iinc (v := (y3 + 1)) (L' := [_, _, _, _]) (hn := by decide) (hlt := (Nat.le_of_ble_eq_true rfl)) (hno := rfl) C dk_X0_countIn_24 rfl rfl rfl ?_
      refine tv_goto C dk_X0_countIn_27 ?_
      exact (ih ((y2 + 1), (y3 + 1)) (by rw [sb_X0_countIn, if_neg h101, if_pos h102] at hs; exact hs))
  refine tv_iconst (v := 0) C dk_X0_countIn_0 (by decide) ?_
  refine tv_istore_n (L' := [_, _, _, _]) (hn := by decide) (hlt := (Nat.le_of_ble_eq_true rfl)) (hno := rfl) C dk_X0_countIn_1 rfl ?_
  refine tv_iconst (v := 0) C dk_X0_countIn_2 (by decide) ?_
  refine tv_istore_n (L' := [_, _, _, _]) (hn := by decide) (hlt := (Nat.le_of_ble_eq_true rfl)) (hno := rfl) C dk_X0_countIn_3 rfl ?_
  exact (K n (0, 0) (by rw [e_X0_countIn] at hs; exact hs))
def f_X0_countIn (M : tvM) (b : Nat) (x1 : Int32) : Int32 := nI (tvCt (fun i => decide ((f_X0_statusOf M b (nI i)) = x1)) (tgi M (b + 6) 0).toNatClampNeg)
theorem r_X0_countIn (M : tvM) (b : Nat) (x1 : Int32) : ∃ n, tvIter (s_X0_countIn M b x1) n (e_X0_countIn M b x1) = some (f_X0_countIn M b x1) := by
  refine tvIter_for (s_X0_countIn M b x1) (fun i => (nI (tvCt (fun i => decide ((f_X0_statusOf M b (nI i)) = x1)) i), nI i)) (tgi M (b + 6) 0).toNatClampNeg _ (fun i hi => ?_) ?_
  · simp only [s_X0_countIn, sb_X0_countIn, if_neg (tv_nle hi), tvCt]
    by_cases h : (f_X0_statusOf M b (nI i)) = x1
    · simp [h, nI_1]
    · simp [h, nI_1]
  · simp only [s_X0_countIn, sb_X0_countIn, if_pos tv_le, f_X0_countIn]
theorem n_X0_countIn (G : tvG) (M : tvM) {b : Nat} (hb : tvSB b) (x1 : Int32) : tvRun G yX0_countIn cX0_countIn 4 (some .int) 3 0 0 tvP0 tvP0 [.ref (G.2.1 + (b + 6)), .int x1] M (.inl (some (.int (f_X0_countIn M b x1)))) M := by
  obtain ⟨n, hn⟩ := r_X0_countIn M b x1 
  exact m_X0_countIn G M hb x1 n _ hn
/-- TideVault.refuse(I)V -/
def f_X8_refuse (M : tvM) (x1 : Int32) : Option String × tvM := (if x1 = 1 then ((some "java/lang/IndexOutOfBoundsException"), M) else (if x1 = 2 then ((some "java/lang/IllegalArgumentException"), M) else (if x1 = 3 then ((some "java/lang/IllegalStateException"), M) else (if x1 = 4 then ((some "java/lang/UnsupportedOperationException"), M) else (if x1 = 5 then ((some "java/util/NoSuchElementException"), M) else (none, M))))))
theorem m_X8_refuse (G : tvG) (M : tvM) (x1 : Int32) : tvRun G yX8_refuse cX8_refuse 1 none 6 1 6 tvP0 tvP0 [.int x1] M (tvOx none (f_X8_refuse M x1).1) ((f_X8_refuse M x1).2) := by
  refine tvRun.of yk_X8_refuse rfl [some (.int x1)] rfl (Nat.le_of_ble_eq_true rfl) ?_
  intro E hG C hQ; subst hG
  refine tv_iload_n C dk_X8_refuse_0 rfl ?_
  refine tv_iconst (v := 1) C dk_X8_refuse_1 (by decide) ?_
  refine tv_icmp_ne C dk_X8_refuse_2 (fun h1 => ?_) (fun h1 => ?_)
  · refine tv_iload_n C dk_X8_refuse_16 rfl ?_
    refine tv_iconst (v := 2) C dk_X8_refuse_17 (by decide) ?_
    refine tv_icmp_ne C dk_X8_refuse_18 (fun h2 => ?_) (fun h2 => ?_)
    · refine tv_iload_n C dk_X8_refuse_32 rfl ?_
      refine tv_iconst (v := 3) C dk_X8_refuse_33 (by decide) ?_
      refine tv_icmp_ne C dk_X8_refuse_34 (fun h3 => ?_) (fun h3 => ?_)
      · refine tv_iload_n C dk_X8_refuse_48 rfl ?_
        refine tv_iconst (v := 4) C dk_X8_refuse_49 (by decide) ?_
        refine tv_icmp_ne C dk_X8_refuse_50 (fun h4 => ?_) (fun h4 => ?_)
        · refine tv_iload_n C dk_X8_refuse_64 rfl ?_
          refine tv_iconst (v := 5) C dk_X8_refuse_65 (by decide) ?_
          refine tv_icmp_ne C dk_X8_refuse_66 (fun h5 => ?_) (fun h5 => ?_)
          · exact tv_vret C hQ dk_X8_refuse_80 (by rw [f_X8_refuse, if_neg h1, if_neg h2, if_neg h3, if_neg h4, if_neg h5]; rfl) (by rw [f_X8_refuse, if_neg h1, if_neg h2, if_neg h3, if_neg h4, if_neg h5])
          exact tv_throwNW C tvP0_ex hQ th_RX8_215_381 dk_X8_refuse_69 dk_X8_refuse_72 dk_X8_refuse_73 dk_X8_refuse_76 dk_X8_refuse_79 (Nat.le_of_ble_eq_true rfl) (Nat.le_of_ble_eq_true rfl) (by rw [f_X8_refuse, if_neg h1, if_neg h2, if_neg h3, if_neg h4, if_pos h5]; rfl) (by rw [f_X8_refuse, if_neg h1, if_neg h2, if_neg h3, if_neg h4, if_pos h5])
        exact tv_throwW C tvP0_ex hQ th_RX8_341_379 dk_X8_refuse_53 dk_X8_refuse_56 dk_X8_refuse_57 dk_X8_refuse_60 dk_X8_refuse_63 (Nat.le_of_ble_eq_true rfl) (Nat.le_of_ble_eq_true rfl) (by rw [f_X8_refuse, if_neg h1, if_neg h2, if_neg h3, if_pos h4]; rfl) (by rw [f_X8_refuse, if_neg h1, if_neg h2, if_neg h3, if_pos h4])
      exact tv_throwW C tvP0_ex hQ th_RX8_305_377 dk_X8_refuse_37 dk_X8_refuse_40 dk_X8_refuse_41 dk_X8_refuse_44 dk_X8_refuse_47 (Nat.le_of_ble_eq_true rfl) (Nat.le_of_ble_eq_true rfl) (by rw [f_X8_refuse, if_neg h1, if_neg h2, if_pos h3]; rfl) (by rw [f_X8_refuse, if_neg h1, if_neg h2, if_pos h3])
    exact tv_throwW C tvP0_ex hQ th_RX8_179_375 dk_X8_refuse_21 dk_X8_refuse_24 dk_X8_refuse_25 dk_X8_refuse_28 dk_X8_refuse_31 (Nat.le_of_ble_eq_true rfl) (Nat.le_of_ble_eq_true rfl) (by rw [f_X8_refuse, if_neg h1, if_pos h2]; rfl) (by rw [f_X8_refuse, if_neg h1, if_pos h2])
  exact tv_throwW C tvP0_ex hQ th_RX8_294_373 dk_X8_refuse_5 dk_X8_refuse_8 dk_X8_refuse_9 dk_X8_refuse_12 dk_X8_refuse_15 (Nat.le_of_ble_eq_true rfl) (Nat.le_of_ble_eq_true rfl) (by rw [f_X8_refuse, if_pos h1]; rfl) (by rw [f_X8_refuse, if_pos h1])
