/-- TideVaultModel.thrown()I -/
def f_X9_thrown (M : tvM) : Int32 := (tgi M 249 5)
theorem m_X9_thrown (G : tvG) (M : tvM) : tvRun G yX9_thrown cX9_thrown 1 (some .int) 1 0 0 tvP0 tvP0 [.ref (G.2.1 + 249)] M (.inl (some (.int (f_X9_thrown M)))) M := by
  refine tvRun.of yk_X9_thrown rfl [some (.ref (G.2.1 + 249))] rfl (Nat.le_of_ble_eq_true rfl) ?_
  intro E hG C hQ; subst hG
  refine tv_aload_n C dk_X9_thrown_0 rfl ?_
  refine tv_getI C dk_X9_thrown_1 fl_RX9_38 (Nat.le_of_ble_eq_true rfl) rfl (fun _ _ _ _ => rfl) ?_
  exact tv_iret C hQ dk_X9_thrown_4 rfl (by rw [f_X9_thrown]) rfl
/-- TideVaultModel.isIn(III)Z -/
def f_X9_isIn (M : tvM) (x1 : Int32) (x2 : Int32) (x3 : Int32) : Int32 := (if x1 < x2 then 0 else (if x3 < x1 then 0 else 1))
theorem m_X9_isIn (G : tvG) (M : tvM) (x1 : Int32) (x2 : Int32) (x3 : Int32) : tvRun G yX9_isIn cX9_isIn 3 (some .boolean) 1 0 0 tvP0 tvP0 [.int x1, .int x2, .int x3] M (.inl (some (.int (f_X9_isIn M x1 x2 x3)))) M := by
  refine tvRun.of yk_X9_isIn rfl [some (.int x1), some (.int x2), some (.int x3)] rfl (Nat.le_of_ble_eq_true rfl) ?_
  intro E hG C hQ; subst hG
  refine tv_iload_n C dk_X9_isIn_0 rfl ?_
  refine tv_iload_n C dk_X9_isIn_1 rfl ?_
  refine tv_icmp_lt C dk_X9_isIn_2 (fun h1 => ?_) (fun h1 => ?_)
  · refine tv_iconst (v := 0) C dk_X9_isIn_14 (by decide) ?_
    exact tv_iret C hQ dk_X9_isIn_15 rfl (by rw [f_X9_isIn, if_pos h1]) rfl
  refine tv_iload_n C dk_X9_isIn_5 rfl ?_
  refine tv_iload_n C dk_X9_isIn_6 rfl ?_
  refine tv_icmp_gt C dk_X9_isIn_7 (fun h2 => ?_) (fun h2 => ?_)
  · refine tv_iconst (v := 0) C dk_X9_isIn_14 (by decide) ?_
    exact tv_iret C hQ dk_X9_isIn_15 rfl (by rw [f_X9_isIn, if_neg h1, if_pos h2]) rfl
  refine tv_iconst (v := 1) C dk_X9_isIn_10 (by decide) ?_
  refine tv_goto C dk_X9_isIn_11 ?_
  exact tv_iret C hQ dk_X9_isIn_15 rfl (by rw [f_X9_isIn, if_neg h1, if_neg h2]) rfl
theorem fz_X9_isIn {M : tvM} {x1 : Int32} {x2 : Int32} {x3 : Int32} : narrow .boolean (.int (f_X9_isIn M x1 x2 x3)) = .int (f_X9_isIn M x1 x2 x3) := by
  unfold f_X9_isIn; repeat' split
  all_goals first | rfl
/-- TideVaultModel.isThrown(ZI)Z -/
def f_X9_isThrown (M : tvM) (x1 : Int32) (x2 : Int32) : Int32 × tvM := (if x1 = 0 then (x1, (tpi M 249 5 0)) else (x1, (tpi M 249 5 x2)))
def q_X9_isThrown (M : tvM) (x1 : Int32) (x2 : Int32) : Prop := ((x1 = 0 → (narrow .boolean (.int x1) = .int x1 ∧ True)) ∧ (¬ x1 = 0 → (narrow .boolean (.int x1) = .int x1 ∧ True)))
theorem m_X9_isThrown (G : tvG) (M : tvM) (x1 : Int32) (x2 : Int32) (hq : q_X9_isThrown M x1 x2) : tvRun G yX9_isThrown cX9_isThrown 3 (some .boolean) 1 0 0 tvP0 tvP0 [.ref (G.2.1 + 249), .int x1, .int x2] M (.inl (some (.int (f_X9_isThrown M x1 x2).1))) ((f_X9_isThrown M x1 x2).2) := by
  refine tvRun.of yk_X9_isThrown rfl [some (.ref (G.2.1 + 249)), some (.int x1), some (.int x2)] rfl (Nat.le_of_ble_eq_true rfl) ?_
  intro E hG C hQ; subst hG
  refine tv_aload_n C dk_X9_isThrown_0 rfl ?_
  refine tv_iload_n C dk_X9_isThrown_1 rfl ?_
  refine tv_if_eq C dk_X9_isThrown_2 (fun h1 => ?_) (fun h1 => ?_)
  · have q1 := hq.1 h1
    refine tv_iconst (v := 0) C dk_X9_isThrown_9 (by decide) ?_
    refine tv_putI C tvP0_ex dk_X9_isThrown_10 fl_RX9_38 fw_9_5 (Nat.le_of_ble_eq_true rfl) rfl rfl (fun _ _ _ _ _ => rfl) rfl rfl ?_
    refine tv_iload_n C dk_X9_isThrown_13 rfl ?_
    have q2 := q1.2
    exact tv_iret C hQ dk_X9_isThrown_14 q1.1 (by rw [f_X9_isThrown, if_pos h1]) (by rw [f_X9_isThrown, if_pos h1])
  have q3 := hq.2 h1
  refine tv_iload_n C dk_X9_isThrown_5 rfl ?_
  refine tv_goto C dk_X9_isThrown_6 ?_
  refine tv_putI C tvP0_ex dk_X9_isThrown_10 fl_RX9_38 fw_9_5 (Nat.le_of_ble_eq_true rfl) rfl rfl (fun _ _ _ _ _ => rfl) rfl rfl ?_
  refine tv_iload_n C dk_X9_isThrown_13 rfl ?_
  have q4 := q3.2
  exact tv_iret C hQ dk_X9_isThrown_14 q3.1 (by rw [f_X9_isThrown, if_neg h1]) (by rw [f_X9_isThrown, if_neg h1])
theorem tv_qt0 (M : tvM) (k : Int32) : q_X9_isThrown M 0 k := ⟨fun _ => ⟨rfl, trivial⟩, fun _ => ⟨rfl, trivial⟩⟩
theorem tv_qt1 (M : tvM) (k : Int32) : q_X9_isThrown M 1 k := ⟨fun _ => ⟨rfl, trivial⟩, fun _ => ⟨rfl, trivial⟩⟩
theorem tv_ti {E : tvE} {P : tvPh} {k sl pc : Nat} {M : tvM} {L : List (Option Value)} {st : List Value} {x v : Int32} (h : x = v) (kk : tv_W E P k sl M pc L (.int v :: st)) : tv_W E P k sl M pc L (.int x :: st) := h ▸ kk
/-- TideVaultModel.ofHolder(II)I -/
def f_X9_ofHolder (M : tvM) (x1 : Int32) (x2 : Int32) : Int32 := (tgi M 250 ((12 + (3 * x1)) + x2).toNatClampNeg)
def q_X9_ofHolder (M : tvM) (x1 : Int32) (x2 : Int32) : Prop := (vp_in ((12 + (3 * x1)) + x2) 202 ∧ True)
theorem m_X9_ofHolder (G : tvG) (M : tvM) (x1 : Int32) (x2 : Int32) (hq : q_X9_ofHolder M x1 x2) : tvRun G yX9_ofHolder cX9_ofHolder 3 (some .int) 1 0 0 tvP0 tvP0 [.ref (G.2.1 + 249), .int x1, .int x2] M (.inl (some (.int (f_X9_ofHolder M x1 x2)))) M := by
  refine tvRun.of yk_X9_ofHolder rfl [some (.ref (G.2.1 + 249)), some (.int x1), some (.int x2)] rfl (Nat.le_of_ble_eq_true rfl) ?_
  intro E hG C hQ; subst hG
  refine tv_aload_n C dk_X9_ofHolder_0 rfl ?_
  refine tv_getR (r := 250) C dk_X9_ofHolder_1 fl_RX9_9 (Nat.le_of_ble_eq_true rfl) rfl rfl (fun _ _ _ _ => rfl) ?_
  refine tv_bipush (v := 12) C dk_X9_ofHolder_4 (by decide) ?_
  refine tv_iconst (v := 3) C dk_X9_ofHolder_6 (by decide) ?_
  refine tv_iload_n C dk_X9_ofHolder_7 rfl ?_
  refine tv_imul C dk_X9_ofHolder_8 ?_
  refine tv_iadd C dk_X9_ofHolder_9 ?_
  refine tv_iload_n C dk_X9_ofHolder_10 rfl ?_
  refine tv_iadd C dk_X9_ofHolder_11 ?_
  have q1 := hq.2
  refine tv_iald (j := ((12 + (3 * x1)) + x2).toNatClampNeg) rfl C dk_X9_ofHolder_12 (Nat.le_of_ble_eq_true rfl) rfl hq.1 ?_
  exact tv_iret C hQ dk_X9_ofHolder_13 rfl (by rw [f_X9_ofHolder]) rfl
/-- TideVaultModel.setsHolder(III)V -/
def f_X9_setsHolder (M : tvM) (x1 : Int32) (x2 : Int32) (x3 : Int32) : tvM := (tpi M 250 ((12 + (3 * x1)) + x2).toNatClampNeg x3)
def q_X9_setsHolder (M : tvM) (x1 : Int32) (x2 : Int32) (x3 : Int32) : Prop := (vp_in ((12 + (3 * x1)) + x2) 202 ∧ True)
theorem m_X9_setsHolder (G : tvG) (M : tvM) (x1 : Int32) (x2 : Int32) (x3 : Int32) (hq : q_X9_setsHolder M x1 x2 x3) : tvRun G yX9_setsHolder cX9_setsHolder 4 none 1 0 0 tvP0 tvP0 [.ref (G.2.1 + 249), .int x1, .int x2, .int x3] M (.inl none) (f_X9_setsHolder M x1 x2 x3) := by
  refine tvRun.of yk_X9_setsHolder rfl [some (.ref (G.2.1 + 249)), some (.int x1), some (.int x2), some (.int x3)] rfl (Nat.le_of_ble_eq_true rfl) ?_
  intro E hG C hQ; subst hG
  refine tv_aload_n C dk_X9_setsHolder_0 rfl ?_
  refine tv_getR (r := 250) C dk_X9_setsHolder_1 fl_RX9_9 (Nat.le_of_ble_eq_true rfl) rfl rfl (fun _ _ _ _ => rfl) ?_
  refine tv_bipush (v := 12) C dk_X9_setsHolder_4 (by decide) ?_
  refine tv_iconst (v := 3) C dk_X9_setsHolder_6 (by decide) ?_
  refine tv_iload_n C dk_X9_setsHolder_7 rfl ?_
  refine tv_imul C dk_X9_setsHolder_8 ?_
  refine tv_iadd C dk_X9_setsHolder_9 ?_
  refine tv_iload_n C dk_X9_setsHolder_10 rfl ?_
  refine tv_iadd C dk_X9_setsHolder_11 ?_
  refine tv_iload_n C dk_X9_setsHolder_12 rfl ?_
  have q1 := hq.2
  refine tv_iast (j := ((12 + (3 * x1)) + x2).toNatClampNeg) rfl C tvP0_ex dk_X9_setsHolder_13 (Nat.le_of_ble_eq_true rfl) rfl hq.1 ?_
  exact tv_vret C hQ dk_X9_setsHolder_14 rfl (by rw [f_X9_setsHolder])
/-- TideVaultModel.of(II)I -/
def f_X9_of (M : tvM) (x1 : Int32) (x2 : Int32) : Int32 := (tgi M 250 ((36 + (13 * x1)) + x2).toNatClampNeg)
def q_X9_of (M : tvM) (x1 : Int32) (x2 : Int32) : Prop := (vp_in ((36 + (13 * x1)) + x2) 202 ∧ True)
theorem m_X9_of (G : tvG) (M : tvM) (x1 : Int32) (x2 : Int32) (hq : q_X9_of M x1 x2) : tvRun G yX9_of cX9_of 3 (some .int) 1 0 0 tvP0 tvP0 [.ref (G.2.1 + 249), .int x1, .int x2] M (.inl (some (.int (f_X9_of M x1 x2)))) M := by
  refine tvRun.of yk_X9_of rfl [some (.ref (G.2.1 + 249)), some (.int x1), some (.int x2)] rfl (Nat.le_of_ble_eq_true rfl) ?_
  intro E hG C hQ; subst hG
  refine tv_aload_n C dk_X9_of_0 rfl ?_
  refine tv_getR (r := 250) C dk_X9_of_1 fl_RX9_9 (Nat.le_of_ble_eq_true rfl) rfl rfl (fun _ _ _ _ => rfl) ?_
  refine tv_bipush (v := 36) C dk_X9_of_4 (by decide) ?_
  refine tv_bipush (v := 13) C dk_X9_of_6 (by decide) ?_
  refine tv_iload_n C dk_X9_of_8 rfl ?_
  refine tv_imul C dk_X9_of_9 ?_
  refine tv_iadd C dk_X9_of_10 ?_
  refine tv_iload_n C dk_X9_of_11 rfl ?_
  refine tv_iadd C dk_X9_of_12 ?_
  have q1 := hq.2
  refine tv_iald (j := ((36 + (13 * x1)) + x2).toNatClampNeg) rfl C dk_X9_of_13 (Nat.le_of_ble_eq_true rfl) rfl hq.1 ?_
  exact tv_iret C hQ dk_X9_of_14 rfl (by rw [f_X9_of]) rfl
