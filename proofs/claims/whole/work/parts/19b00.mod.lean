/-- k places of row a0 from i on into row a from j on, one after the other -/
def tvCk (M : tvM) (a0 i a j : Nat) : Nat → tvM
  | 0 => M
  | k + 1 => tpi (tvCk M a0 i a j k) a (j + k) (tgi (tvCk M a0 i a j k) a0 (i + k))
/-- TideVaultModel.copies([II[II)V -/
def f_X9_copies (M : tvM) (a0 : Nat) (x1 : Int32) (a : Nat) (x2 : Int32) : tvM := tvCk M a0 x1.toNatClampNeg a x2.toNatClampNeg 202
def q_X9_copies (n0 n : Nat) (x1 x2 : Int32) : Prop := ∃ i j : Nat, x1 = nI i ∧ x2 = nI j ∧ i + 202 ≤ n0 ∧ j + 202 ≤ n ∧ n0 < 2 ^ 31 ∧ n < 2 ^ 31
theorem m_X9_copies (G : tvG) (M : tvM) {a0 a n0 n : Nat} (ha0 : a0 < 259) (hs0 : tvSh a0 = (1, n0)) (ha : a < 259) (hs : tvSh a = (1, n)) (x1 x2 : Int32) (hq : q_X9_copies n0 n x1 x2) : tvRun G yX9_copies cX9_copies 5 none 1 0 0 tvP0 tvP0 [.ref (G.2.1 + a0), .int x1, .ref (G.2.1 + a), .int x2] M (.inl none) (f_X9_copies M a0 x1 a x2) := by
  obtain ⟨i, j, rfl, rfl, hi, hj, hn0, hn⟩ := hq
  refine tvRun.of yk_X9_copies rfl [some (.ref (G.2.1 + a0)), some (.int (nI i)), some (.ref (G.2.1 + a)), some (.int (nI j)), none] rfl (Nat.le_of_ble_eq_true rfl) ?_
  intro E hG C hQ; subst hG
  have hf : f_X9_copies M a0 (nI i) a (nI j) = tvCk M a0 i a j 202 := by
    unfold f_X9_copies
    rw [nI_clamp (by omega), nI_clamp (by omega)]
  have K : ∀ k m : Nat, m + k = 202 → tv_W E tvP0 0 0 (tvCk M a0 i a j m) 3 [some (.ref (E.G.2.1 + a0)), some (.int (nI i)), some (.ref (E.G.2.1 + a)), some (.int (nI j)), some (.int (nI m))] [] := by
    intro k
    induction k with
    | zero =>
      intro m hm
      have hm : m = 202 := by omega
      subst hm
      refine tv_iload C dk_X9_copies_3 rfl ?_
      refine tv_sipush (v := 202) C dk_X9_copies_5 (by decide) ?_
      refine tv_icmp_ge C dk_X9_copies_8 (fun h => ?_) (fun h => absurd (by decide) h)
      exact tv_vret C hQ dk_X9_copies_29 rfl hf
    | succ k ih =>
      intro m hm
      have hlt : ¬ (202 : Int32) ≤ nI m := by
        intro h
        rw [Int32.le_iff_toInt_le, nI_toInt (by omega)] at h
        have : (202 : Int32).toInt = 202 := by decide
        omega
      refine tv_iload C dk_X9_copies_3 rfl ?_
      refine tv_sipush (v := 202) C dk_X9_copies_5 (by decide) ?_
      refine tv_icmp_ge C dk_X9_copies_8 (fun h => absurd h hlt) (fun h => ?_)
      refine tv_aload_n C dk_X9_copies_11 rfl ?_
      refine tv_iload_n C dk_X9_copies_12 rfl ?_
      refine tv_iload C dk_X9_copies_13 rfl ?_
      refine tv_iadd C dk_X9_copies_15 ?_
      refine tv_aload_n C dk_X9_copies_16 rfl ?_
      refine tv_iload_n C dk_X9_copies_17 rfl ?_
      refine tv_iload C dk_X9_copies_18 rfl ?_
      refine tv_iadd C dk_X9_copies_20 ?_
      refine tv_iald (j := i + m) (by rw [nI_add, nI_clamp (by omega)]) C dk_X9_copies_21 ha0 hs0 (by rw [nI_add]; exact vp_in_nI (by omega) hn0) ?_
      refine tv_iast (j := j + m) (by rw [nI_add, nI_clamp (by omega)]) C tvP0_ex dk_X9_copies_22 ha hs (by rw [nI_add]; exact vp_in_nI (by omega) hn) ?_
      refine tv_iinc (v := nI (m + 1)) (L' := [_, _, _, _, _]) (hn := by decide) (hlt := (Nat.le_of_ble_eq_true rfl)) (hno := rfl) C dk_X9_copies_23 rfl (nI_1 m) rfl ?_
      refine tv_goto C dk_X9_copies_26 ?_
      exact ih (m + 1) (by omega)
  refine tv_iconst (v := 0) C dk_X9_copies_0 (by decide) ?_
  refine tv_istore (L' := [_, _, _, _, _]) (hn := by decide) (hlt := (Nat.le_of_ble_eq_true rfl)) (hno := rfl) C dk_X9_copies_1 rfl ?_
  exact K 202 0 rfl
/-- TideVaultModel.number(I)V -/
def f_X9_numberA (M : tvM) (x1 : Int32) : tvM := (f_X9_puts M (48 + (x1 - x1 / 10 * 10)))
def q_X9_numberA (M : tvM) (x1 : Int32) : Prop := ((q_X9_puts M (48 + (x1 - x1 / 10 * 10))) ∧ True)
theorem m_X9_numberA (G : tvG) (M : tvM) (x1 : Int32) (h0 : x1 < 10) (hq : q_X9_numberA M x1) : tvRun G yX9_number cX9_number 2 none 2 0 0 tvP0 tvP0 [.ref (G.2.1 + 249), .int x1] M (.inl none) (f_X9_numberA M x1) := by
  refine tvRun.of yk_X9_number rfl [some (.ref (G.2.1 + 249)), some (.int x1)] rfl (Nat.le_of_ble_eq_true rfl) ?_
  intro E hG C hQ; subst hG
  refine tv_iload_n C dk_X9_number_0 rfl ?_
  refine tv_bipush (v := 10) C dk_X9_number_1 (by decide) ?_
  refine tv_icmp_lt C dk_X9_number_3 (fun _ => ?_) (fun h => absurd h0 h)
  refine tv_aload_n C dk_X9_number_14 rfl ?_
  refine tv_bipush (v := 48) C dk_X9_number_15 (by decide) ?_
  refine tv_iload_n C dk_X9_number_17 rfl ?_
  refine tv_bipush (v := 10) C dk_X9_number_18 (by decide) ?_
  refine tv_irem C dk_X9_number_20 (by decide) ?_
  refine tv_iadd C dk_X9_number_21 ?_
  have q1 := hq.2
  refine tv_cV0 C dk_X9_number_22 ml_RX9_193 yk_X9_puts yi_X9_puts (m_X9_puts _ M (48 + (x1 - x1 / 10 * 10)) hq.1) (Nat.le_of_ble_eq_true rfl) rfl rfl rfl rfl (Nat.le_of_ble_eq_true rfl) (Nat.le_of_ble_eq_true rfl) (Nat.le_of_ble_eq_true rfl) (Nat.le_of_ble_eq_true rfl) (Nat.le_of_ble_eq_true rfl) ?_
  exact tv_vret C hQ dk_X9_number_25 rfl (by rw [f_X9_numberA, ])
/-- TideVaultModel.number(I)V -/
def f_X9_number (M : tvM) (x1 : Int32) : tvM := (if x1 < 10 then (f_X9_puts M (48 + (x1 - x1 / 10 * 10))) else (f_X9_puts (f_X9_numberA M (x1 / 10)) (48 + (x1 - x1 / 10 * 10))))
def q_X9_number (M : tvM) (x1 : Int32) : Prop := ((x1 < 10 → ((q_X9_puts M (48 + (x1 - x1 / 10 * 10))) ∧ True)) ∧ (¬ x1 < 10 → ((x1 / 10) < 10 ∧ ((q_X9_numberA M (x1 / 10)) ∧ ((q_X9_puts (f_X9_numberA M (x1 / 10)) (48 + (x1 - x1 / 10 * 10))) ∧ True)))))
theorem m_X9_number (G : tvG) (M : tvM) (x1 : Int32) (hq : q_X9_number M x1) : tvRun G yX9_number cX9_number 2 none 3 0 0 tvP0 tvP0 [.ref (G.2.1 + 249), .int x1] M (.inl none) (f_X9_number M x1) := by
  refine tvRun.of yk_X9_number rfl [some (.ref (G.2.1 + 249)), some (.int x1)] rfl (Nat.le_of_ble_eq_true rfl) ?_
  intro E hG C hQ; subst hG
  refine tv_iload_n C dk_X9_number_0 rfl ?_
  refine tv_bipush (v := 10) C dk_X9_number_1 (by decide) ?_
  refine tv_icmp_lt C dk_X9_number_3 (fun h1 => ?_) (fun h1 => ?_)
  · have q1 := hq.1 h1
    refine tv_aload_n C dk_X9_number_14 rfl ?_
    refine tv_bipush (v := 48) C dk_X9_number_15 (by decide) ?_
    refine tv_iload_n C dk_X9_number_17 rfl ?_
    refine tv_bipush (v := 10) C dk_X9_number_18 (by decide) ?_
    refine tv_irem C dk_X9_number_20 (by decide) ?_
    refine tv_iadd C dk_X9_number_21 ?_
    have q2 := q1.2
    refine tv_cV0 C dk_X9_number_22 ml_RX9_193 yk_X9_puts yi_X9_puts (m_X9_puts _ M (48 + (x1 - x1 / 10 * 10)) q1.1) (Nat.le_of_ble_eq_true rfl) rfl rfl rfl rfl (Nat.le_of_ble_eq_true rfl) (Nat.le_of_ble_eq_true rfl) (Nat.le_of_ble_eq_true rfl) (Nat.le_of_ble_eq_true rfl) (Nat.le_of_ble_eq_true rfl) ?_
    exact tv_vret C hQ dk_X9_number_25 rfl (by rw [f_X9_number, if_pos h1])
  have q3 := hq.2 h1
  refine tv_aload_n C dk_X9_number_6 rfl ?_
  refine tv_iload_n C dk_X9_number_7 rfl ?_
  refine tv_bipush (v := 10) C dk_X9_number_8 (by decide) ?_
  refine tv_idiv C dk_X9_number_10 (by decide) ?_
  have q4 := q3.2
  have q5 := q4.2
  refine tv_cV0 C dk_X9_number_11 ml_RX9_190 yk_X9_number yi_X9_number (m_X9_numberA _ M (x1 / 10) q3.1 q4.1) (Nat.le_of_ble_eq_true rfl) rfl rfl rfl rfl (Nat.le_of_ble_eq_true rfl) (Nat.le_of_ble_eq_true rfl) (Nat.le_of_ble_eq_true rfl) (Nat.le_of_ble_eq_true rfl) (Nat.le_of_ble_eq_true rfl) ?_
  refine tv_aload_n C dk_X9_number_14 rfl ?_
  refine tv_bipush (v := 48) C dk_X9_number_15 (by decide) ?_
  refine tv_iload_n C dk_X9_number_17 rfl ?_
  refine tv_bipush (v := 10) C dk_X9_number_18 (by decide) ?_
  refine tv_irem C dk_X9_number_20 (by decide) ?_
  refine tv_iadd C dk_X9_number_21 ?_
  have q6 := q5.2
  refine tv_cV0 C dk_X9_number_22 ml_RX9_193 yk_X9_puts yi_X9_puts (m_X9_puts _ (f_X9_numberA M (x1 / 10)) (48 + (x1 - x1 / 10 * 10)) q5.1) (Nat.le_of_ble_eq_true rfl) rfl rfl rfl rfl (Nat.le_of_ble_eq_true rfl) (Nat.le_of_ble_eq_true rfl) (Nat.le_of_ble_eq_true rfl) (Nat.le_of_ble_eq_true rfl) (Nat.le_of_ble_eq_true rfl) ?_
  exact tv_vret C hQ dk_X9_number_25 rfl (by rw [f_X9_number, if_neg h1])
/-- TideVaultModel.keeps()V -/
def f_X9_keeps (M : tvM) : tvM := (tpi (f_X9_copies M 250 0 251 0) 249 5 0)
theorem m_X9_keeps (G : tvG) (M : tvM) : tvRun G yX9_keeps cX9_keeps 1 none 2 0 0 tvP0 tvP0 [.ref (G.2.1 + 249)] M (.inl none) (f_X9_keeps M) := by
  refine tvRun.of yk_X9_keeps rfl [some (.ref (G.2.1 + 249))] rfl (Nat.le_of_ble_eq_true rfl) ?_
  intro E hG C hQ; subst hG
  refine tv_aload_n C dk_X9_keeps_0 rfl ?_
  refine tv_getR (r := 250) C dk_X9_keeps_1 fl_RX9_9 (Nat.le_of_ble_eq_true rfl) rfl rfl (fun _ _ _ _ => rfl) ?_
  refine tv_iconst (v := 0) C dk_X9_keeps_4 (by decide) ?_
  refine tv_aload_n C dk_X9_keeps_5 rfl ?_
  refine tv_getR (r := 251) C dk_X9_keeps_6 fl_RX9_13 (Nat.le_of_ble_eq_true rfl) rfl rfl (fun _ _ _ _ => rfl) ?_
  refine tv_iconst (v := 0) C dk_X9_keeps_9 (by decide) ?_
  refine tv_cS0 C dk_X9_keeps_10 ml_RX9_41 yk_X9_copies yi_X9_copies (m_X9_copies _ M (a0 := 250) (a := 251) (n0 := 202) (n := 202) (Nat.le_of_ble_eq_true rfl) rfl (Nat.le_of_ble_eq_true rfl) rfl 0 0 ⟨0, 0, rfl, rfl, (Nat.le_of_ble_eq_true rfl), (Nat.le_of_ble_eq_true rfl), (Nat.le_of_ble_eq_true rfl), (Nat.le_of_ble_eq_true rfl)⟩) rfl rfl (Nat.le_of_ble_eq_true rfl) (Nat.le_of_ble_eq_true rfl) (Nat.le_of_ble_eq_true rfl) (Nat.le_of_ble_eq_true rfl) (Nat.le_of_ble_eq_true rfl) ?_
  refine tv_aload_n C dk_X9_keeps_13 rfl ?_
  refine tv_iconst (v := 0) C dk_X9_keeps_14 (by decide) ?_
  refine tv_putI C tvP0_ex dk_X9_keeps_15 fl_RX9_38 fw_9_5 (Nat.le_of_ble_eq_true rfl) rfl rfl (fun _ _ _ _ _ => rfl) rfl rfl ?_
  exact tv_vret C hQ dk_X9_keeps_18 rfl (by rw [f_X9_keeps])
