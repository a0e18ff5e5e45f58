/-- TideVaultModel.isNumberBehind(III)Z -/
def f_X9_isNumberBehind (M : tvM) (x1 : Int32) (x2 : Int32) (x3 : Int32) : Int32 × tvM := (if (f_X9_isSign M x1).1 = 0 then (0, (f_X9_isSign M x1).2) else (if (f_X9_isNumber ((f_X9_isSign M x1).2) x2 x3).1 = 0 then (0, (f_X9_isNumber ((f_X9_isSign M x1).2) x2 x3).2) else (1, (f_X9_isNumber ((f_X9_isSign M x1).2) x2 x3).2)))
def q_X9_isNumberBehind (M : tvM) (x1 : Int32) (x2 : Int32) (x3 : Int32) : Prop := ((q_X9_isSign M x1) ∧ (((f_X9_isSign M x1).1 = 0 → True) ∧ (¬ (f_X9_isSign M x1).1 = 0 → ((q_X9_isNumber ((f_X9_isSign M x1).2) x2 x3) ∧ (((f_X9_isNumber ((f_X9_isSign M x1).2) x2 x3).1 = 0 → True) ∧ (¬ (f_X9_isNumber ((f_X9_isSign M x1).2) x2 x3).1 = 0 → True))))))
theorem m_X9_isNumberBehind (G : tvG) (M : tvM) (x1 : Int32) (x2 : Int32) (x3 : Int32) (hq : q_X9_isNumberBehind M x1 x2 x3) : tvRun G yX9_isNumberBehind cX9_isNumberBehind 4 (some .boolean) 3 0 0 tvP0 tvP0 [.ref (G.2.1 + 249), .int x1, .int x2, .int x3] M (.inl (some (.int (f_X9_isNumberBehind M x1 x2 x3).1))) ((f_X9_isNumberBehind M x1 x2 x3).2) := by
  refine tvRun.of yk_X9_isNumberBehind rfl [some (.ref (G.2.1 + 249)), some (.int x1), some (.int x2), some (.int x3)] rfl (Nat.le_of_ble_eq_true rfl) ?_
  intro E hG C hQ; subst hG
  refine tv_aload_n C dk_X9_isNumberBehind_0 rfl ?_
  refine tv_iload_n C dk_X9_isNumberBehind_1 rfl ?_
  have q1 := hq.2
  refine tv_cV1 C dk_X9_isNumberBehind_2 ml_RX9_209 yk_X9_isSign yi_X9_isSign (m_X9_isSign _ M x1 hq.1) (Nat.le_of_ble_eq_true rfl) rfl rfl rfl rfl (Nat.le_of_ble_eq_true rfl) (Nat.le_of_ble_eq_true rfl) (Nat.le_of_ble_eq_true rfl) (Nat.le_of_ble_eq_true rfl) (Nat.le_of_ble_eq_true rfl) ?_
  refine tv_if_eq C dk_X9_isNumberBehind_5 (fun h1 => ?_) (fun h1 => ?_)
  · have q2 := q1.1 h1
    refine tv_iconst (v := 0) C dk_X9_isNumberBehind_21 (by decide) ?_
    exact tv_iret C hQ dk_X9_isNumberBehind_22 rfl (by rw [f_X9_isNumberBehind, if_pos h1]) (by rw [f_X9_isNumberBehind, if_pos h1])
  have q3 := q1.2 h1
  refine tv_aload_n C dk_X9_isNumberBehind_8 rfl ?_
  refine tv_iload_n C dk_X9_isNumberBehind_9 rfl ?_
  refine tv_iload_n C dk_X9_isNumberBehind_10 rfl ?_
  have q4 := q3.2
  refine tv_cV1 C dk_X9_isNumberBehind_11 ml_RX9_212 yk_X9_isNumber yi_X9_isNumber (n_X9_isNumber _ ((f_X9_isSign M x1).2) x2 x3 q3.1) (Nat.le_of_ble_eq_true rfl) rfl rfl rfl rfl (Nat.le_of_ble_eq_true rfl) (Nat.le_of_ble_eq_true rfl) (Nat.le_of_ble_eq_true rfl) (Nat.le_of_ble_eq_true rfl) (Nat.le_of_ble_eq_true rfl) ?_
  refine tv_if_eq C dk_X9_isNumberBehind_14 (fun h2 => ?_) (fun h2 => ?_)
  · have q5 := q4.1 h2
    refine tv_iconst (v := 0) C dk_X9_isNumberBehind_21 (by decide) ?_
    exact tv_iret C hQ dk_X9_isNumberBehind_22 rfl (by rw [f_X9_isNumberBehind, if_neg h1, if_pos h2]) (by rw [f_X9_isNumberBehind, if_neg h1, if_pos h2])
  have q6 := q4.2 h2
  refine tv_iconst (v := 1) C dk_X9_isNumberBehind_17 (by decide) ?_
  refine tv_goto C dk_X9_isNumberBehind_18 ?_
  exact tv_iret C hQ dk_X9_isNumberBehind_22 rfl (by rw [f_X9_isNumberBehind, if_neg h1, if_neg h2]) (by rw [f_X9_isNumberBehind, if_neg h1, if_neg h2])
theorem fz_X9_isNumberBehind {M : tvM} {x1 : Int32} {x2 : Int32} {x3 : Int32} : narrow .boolean (.int (f_X9_isNumberBehind M x1 x2 x3).1) = .int ((f_X9_isNumberBehind M x1 x2 x3).1) := by
  unfold f_X9_isNumberBehind; repeat' split
  all_goals try dsimp only
  all_goals first | rfl
/-- TideVaultModel.readsT(I)Z -/
def f_X9_readsT (M : tvM) (x1 : Int32) : Int32 × tvM := (if (f_X9_isSign M 117).1 = 0 then (if (f_X9_isSign ((f_X9_isSign M 117).2) 105).1 = 0 then (if (f_X9_isWord (tpi ((f_X9_isSign ((f_X9_isSign M 117).2) 105).2) 256 x1.toNatClampNeg 97) 23).1 = 0 then (0, (f_X9_isWord (tpi ((f_X9_isSign ((f_X9_isSign M 117).2) 105).2) 256 x1.toNatClampNeg 97) 23).2) else (if (f_X9_isNumber ((f_X9_isWord (tpi ((f_X9_isSign ((f_X9_isSign M 117).2) 105).2) 256 x1.toNatClampNeg 97) 23).2) 1 (x1 + 1)).1 = 0 then (0, (f_X9_isNumber ((f_X9_isWord (tpi ((f_X9_isSign ((f_X9_isSign M 117).2) 105).2) 256 x1.toNatClampNeg 97) 23).2) 1 (x1 + 1)).2) else (1, (f_X9_isNumber ((f_X9_isWord (tpi ((f_X9_isSign ((f_X9_isSign M 117).2) 105).2) 256 x1.toNatClampNeg 97) 23).2) 1 (x1 + 1)).2))) else (if (f_X9_isWord (tpi ((f_X9_isSign ((f_X9_isSign M 117).2) 105).2) 256 x1.toNatClampNeg 105) 22).1 = 0 then (0, (f_X9_isWord (tpi ((f_X9_isSign ((f_X9_isSign M 117).2) 105).2) 256 x1.toNatClampNeg 105) 22).2) else (if (f_X9_isNumber ((f_X9_isWord (tpi ((f_X9_isSign ((f_X9_isSign M 117).2) 105).2) 256 x1.toNatClampNeg 105) 22).2) 3 (x1 + 1)).1 = 0 then (0, (f_X9_isNumber ((f_X9_isWord (tpi ((f_X9_isSign ((f_X9_isSign M 117).2) 105).2) 256 x1.toNatClampNeg 105) 22).2) 3 (x1 + 1)).2) else (if (f_X9_isNumberBehind ((f_X9_isNumber ((f_X9_isWord (tpi ((f_X9_isSign ((f_X9_isSign M 117).2) 105).2) 256 x1.toNatClampNeg 105) 22).2) 3 (x1 + 1)).2) 47 3 (x1 + 2)).1 = 0 then (0, (f_X9_isNumberBehind ((f_X9_isNumber ((f_X9_isWord (tpi ((f_X9_isSign ((f_X9_isSign M 117).2) 105).2) 256 x1.toNatClampNeg 105) 22).2) 3 (x1 + 1)).2) 47 3 (x1 + 2)).2) else (1, (f_X9_isNumberBehind ((f_X9_isNumber ((f_X9_isWord (tpi ((f_X9_isSign ((f_X9_isSign M 117).2) 105).2) 256 x1.toNatClampNeg 105) 22).2) 3 (x1 + 1)).2) 47 3 (x1 + 2)).2))))) else (if (f_X9_isWord ((f_X9_isSign M 117).2) 21).1 = 0 then (0, (f_X9_isWord ((f_X9_isSign M 117).2) 21).2) else (if (f_X9_isNumber ((f_X9_isWord ((f_X9_isSign M 117).2) 21).2) 1 (x1 + 1)).1 = 0 then (0, (f_X9_isNumber ((f_X9_isWord ((f_X9_isSign M 117).2) 21).2) 1 (x1 + 1)).2) else (if (f_X9_isNumberBehind ((f_X9_isNumber ((f_X9_isWord ((f_X9_isSign M 117).2) 21).2) 1 (x1 + 1)).2) 32 1 (x1 + 2)).1 = 0 then (0, (f_X9_isNumberBehind ((f_X9_isNumber ((f_X9_isWord ((f_X9_isSign M 117).2) 21).2) 1 (x1 + 1)).2) 32 1 (x1 + 2)).2) else (if (f_X9_isNumberBehind ((f_X9_isNumberBehind ((f_X9_isNumber ((f_X9_isWord ((f_X9_isSign M 117).2) 21).2) 1 (x1 + 1)).2) 32 1 (x1 + 2)).2) 61 3 (x1 + 3)).1 = 0 then (0, (f_X9_isNumberBehind ((f_X9_isNumberBehind ((f_X9_isNumber ((f_X9_isWord ((f_X9_isSign M 117).2) 21).2) 1 (x1 + 1)).2) 32 1 (x1 + 2)).2) 61 3 (x1 + 3)).2) else (1, (f_X9_isNumberBehind ((f_X9_isNumberBehind ((f_X9_isNumber ((f_X9_isWord ((f_X9_isSign M 117).2) 21).2) 1 (x1 + 1)).2) 32 1 (x1 + 2)).2) 61 3 (x1 + 3)).2))))))
def q_X9_readsT (M : tvM) (x1 : Int32) : Prop := ((q_X9_isSign M 117) ∧ (((f_X9_isSign M 117).1 = 0 → ((q_X9_isSign ((f_X9_isSign M 117).2) 105) ∧ (((f_X9_isSign ((f_X9_isSign M 117).2) 105).1 = 0 → (vp_in x1 124 ∧ ((q_X9_isWord (tpi ((f_X9_isSign ((f_X9_isSign M 117).2) 105).2) 256 x1.toNatClampNeg 97) 23) ∧ (((f_X9_isWord (tpi ((f_X9_isSign ((f_X9_isSign M 117).2) 105).2) 256 x1.toNatClampNeg 97) 23).1 = 0 → True) ∧ (¬ (f_X9_isWord (tpi ((f_X9_isSign ((f_X9_isSign M 117).2) 105).2) 256 x1.toNatClampNeg 97) 23).1 = 0 → ((q_X9_isNumber ((f_X9_isWord (tpi ((f_X9_isSign ((f_X9_isSign M 117).2) 105).2) 256 x1.toNatClampNeg 97) 23).2) 1 (x1 + 1)) ∧ (((f_X9_isNumber ((f_X9_isWord (tpi ((f_X9_isSign ((f_X9_isSign M 117).2) 105).2) 256 x1.toNatClampNeg 97) 23).2) 1 (x1 + 1)).1 = 0 → True) ∧ (¬ (f_X9_isNumber ((f_X9_isWord (tpi ((f_X9_isSign ((f_X9_isSign M 117).2) 105).2) 256 x1.toNatClampNeg 97) 23).2) 1 (x1 + 1)).1 = 0 → True)))))))) ∧ (¬ (f_X9_isSign ((f_X9_isSign M 117).2) 105).1 = 0 → (vp_in x1 124 ∧ ((q_X9_isWord (tpi ((f_X9_isSign ((f_X9_isSign M 117).2) 105).2) 256 x1.toNatClampNeg 105) 22) ∧ (((f_X9_isWord (tpi ((f_X9_isSign ((f_X9_isSign M 117).2) 105).2) 256 x1.toNatClampNeg 105) 22).1 = 0 → True) ∧ (¬ (f_X9_isWord (tpi ((f_X9_isSign ((f_X9_isSign M 117).2) 105).2) 256 x1.toNatClampNeg 105) 22).1 = 0 → ((q_X9_isNumber ((f_X9_isWord (tpi ((f_X9_isSign ((f_X9_isSign M 117).2) 105).2) 256 x1.toNatClampNeg 105) 22).2) 3 (x1 + 1)) ∧ (((f_X9_isNumber ((f_X9_isWord (tpi ((f_X9_isSign ((f_X9_isSign M 117).2) 105).2) 256 x1.toNatClampNeg 105) 22).2) 3 (x1 + 1)).1 = 0 → True) ∧ (¬ (f_X9_isNumber ((f_X9_isWord (tpi ((f_X9_isSign ((f_X9_isSign M 117).2) 105).2) 256 x1.toNatClampNeg 105) 22).2) 3 (x1 + 1)).1 = 0 → ((q_X9_isNumberBehind ((f_X9_isNumber ((f_X9_isWord (tpi ((f_X9_isSign ((f_X9_isSign M 117).2) 105).2) 256 x1.toNatClampNeg 105) 22).2) 3 (x1 + 1)).2) 47 3 (x1 + 2)) ∧ (((f_X9_isNumberBehind ((f_X9_isNumber ((f_X9_isWord (tpi ((f_X9_isSign ((f_X9_isSign M 117).2) 105).2) 256 x1.toNatClampNeg 105) 22).2) 3 (x1 + 1)).2) 47 3 (x1 + 2)).1 = 0 → True) ∧ (¬ (f_X9_isNumberBehind ((f_X9_isNumber ((f_X9_isWord (tpi ((f_X9_isSign ((f_X9_isSign M 117).2) 105).2) 256 x1.toNatClampNeg 105) 22).2) 3 (x1 + 1)).2) 47 3 (x1 + 2)).1 = 0 → True)))))))))))))) ∧ (¬ (f_X9_isSign M 117).1 = 0 → ((q_X9_isWord ((f_X9_isSign M 117).2) 21) ∧ (((f_X9_isWord ((f_X9_isSign M 117).2) 21).1 = 0 → True) ∧ (¬ (f_X9_isWord ((f_X9_isSign M 117).2) 21).1 = 0 → ((q_X9_isNumber ((f_X9_isWord ((f_X9_isSign M 117).2) 21).2) 1 (x1 + 1)) ∧ (((f_X9_isNumber ((f_X9_isWord ((f_X9_isSign M 117).2) 21).2) 1 (x1 + 1)).1 = 0 → True) ∧ (¬ (f_X9_isNumber ((f_X9_isWord ((f_X9_isSign M 117).2) 21).2) 1 (x1 + 1)).1 = 0 → ((q_X9_isNumberBehind ((f_X9_isNumber ((f_X9_isWord ((f_X9_isSign M 117).2) 21).2) 1 (x1 + 1)).2) 32 1 (x1 + 2)) ∧ (((f_X9_isNumberBehind ((f_X9_isNumber ((f_X9_isWord ((f_X9_isSign M 117).2) 21).2) 1 (x1 + 1)).2) 32 1 (x1 + 2)).1 = 0 → True) ∧ (¬ (f_X9_isNumberBehind ((f_X9_isNumber ((f_X9_isWord ((f_X9_isSign M 117).2) 21).2) 1 (x1 + 1)).2) 32 1 (x1 + 2)).1 = 0 → ((q_X9_isNumberBehind ((f_X9_isNumberBehind ((f_X9_isNumber ((f_X9_isWord ((f_X9_isSign M 117).2) 21).2) 1 (x1 + 1)).2) 32 1 (x1 + 2)).2) 61 3 (x1 + 3)) ∧ (((f_X9_isNumberBehind ((f_X9_isNumberBehind ((f_X9_isNumber ((f_X9_isWord ((f_X9_isSign M 117).2) 21).2) 1 (x1 + 1)).2) 32 1 (x1 + 2)).2) 61 3 (x1 + 3)).1 = 0 → True) ∧ (¬ (f_X9_isNumberBehind ((f_X9_isNumberBehind ((f_X9_isNumber ((f_X9_isWord ((f_X9_isSign M 117).2) 21).2) 1 (x1 + 1)).2) 32 1 (x1 + 2)).2) 61 3 (x1 + 3)).1 = 0 → True)))))))))))))))
theorem m_X9_readsT (G : tvG) (M : tvM) (x1 : Int32) (hq : q_X9_readsT M x1) : tvRun G yX9_readsT cX9_readsT 2 (some .boolean) 6 0 0 tvP0 tvP0 [.ref (G.2.1 + 249), .int x1] M (.inl (some (.int (f_X9_readsT M x1).1))) ((f_X9_readsT M x1).2) := by
  refine tvRun.of yk_X9_readsT rfl [some (.ref (G.2.1 + 249)), some (.int x1)] rfl (Nat.le_of_ble_eq_true rfl) ?_
  intro E hG C hQ; subst hG
  refine tv_aload_n C dk_X9_readsT_0 rfl ?_
  refine tv_bipush (v := 117) C dk_X9_readsT_1 (by decide) ?_
  have q1 := hq.2
  refine tv_cV1 C dk_X9_readsT_3 ml_RX9_209 yk_X9_isSign yi_X9_isSign (m_X9_isSign _ M 117 hq.1) (Nat.le_of_ble_eq_true rfl) rfl rfl rfl rfl (Nat.le_of_ble_eq_true rfl) (Nat.le_of_ble_eq_true rfl) (Nat.le_of_ble_eq_true rfl) (Nat.le_of_ble_eq_true rfl) (Nat.le_of_ble_eq_true rfl) ?_
  refine tv_if_eq C dk_X9_readsT_6 (fun h1 => ?_) (fun h1 => ?_)
  · have q2 := q1.1 h1
    refine tv_aload_n C dk_X9_readsT_61 rfl ?_
    refine tv_bipush (v := 105) C dk_X9_readsT_62 (by decide) ?_
    have q3 := q2.2
    refine tv_cV1 C dk_X9_readsT_64 ml_RX9_209 yk_X9_isSign yi_X9_isSign (m_X9_isSign _ ((f_X9_isSign M 117).2) 105 q2.1) (Nat.le_of_ble_eq_true rfl) rfl rfl rfl rfl (Nat.le_of_ble_eq_true rfl) (Nat.le_of_ble_eq_true rfl) (Nat.le_of_ble_eq_true rfl) (Nat.le_of_ble_eq_true rfl) (Nat.le_of_ble_eq_true rfl) ?_
    refine tv_if_eq C dk_X9_readsT_67 (fun h2 => ?_) (fun h2 => ?_)
    · have q4 := q3.1 h2
      refine tv_aload_n C dk_X9_readsT_117 rfl ?_
      refine tv_getR (r := 256) C dk_X9_readsT_118 fl_RX9_35 (Nat.le_of_ble_eq_true rfl) rfl rfl (fun _ _ _ _ => rfl) ?_
      refine tv_iload_n C dk_X9_readsT_121 rfl ?_
      refine tv_bipush (v := 97) C dk_X9_readsT_122 (by decide) ?_
      have q5 := q4.2
      refine tv_iast (j := x1.toNatClampNeg) rfl C tvP0_ex dk_X9_readsT_124 (Nat.le_of_ble_eq_true rfl) rfl q4.1 ?_
      refine tv_aload_n C dk_X9_readsT_125 rfl ?_
      refine tv_ldcS (i := 23) C dk_X9_readsT_126 (List.mem_of_getElem? (i := 23) rfl) ?_
      have q6 := q5.2
      refine tv_cV1 C dk_X9_readsT_128 ml_RX9_217 yk_X9_isWord yi_X9_isWord (n_X9_isWord _ (tpi ((f_X9_isSign ((f_X9_isSign M 117).2) 105).2) 256 x1.toNatClampNeg 97) 23 (by decide) q5.1) (Nat.le_of_ble_eq_true rfl) rfl rfl rfl rfl (Nat.le_of_ble_eq_true rfl) (Nat.le_of_ble_eq_true rfl) (Nat.le_of_ble_eq_true rfl) (Nat.le_of_ble_eq_true rfl) (Nat.le_of_ble_eq_true rfl) ?_
      refine tv_if_eq C dk_X9_readsT_131 (fun h3 => ?_) (fun h3 => ?_)
      · have q7 := q6.1 h3
        refine tv_iconst (v := 0) C dk_X9_readsT_149 (by decide) ?_
        exact tv_iret C hQ dk_X9_readsT_150 rfl (by rw [f_X9_readsT, if_pos h1, if_pos h2, if_pos h3]) (by rw [f_X9_readsT, if_pos h1, if_pos h2, if_pos h3])
      have q8 := q6.2 h3
      refine tv_aload_n C dk_X9_readsT_134 rfl ?_
      refine tv_iconst (v := 1) C dk_X9_readsT_135 (by decide) ?_
      refine tv_iload_n C dk_X9_readsT_136 rfl ?_
      refine tv_iconst (v := 1) C dk_X9_readsT_137 (by decide) ?_
      refine tv_iadd C dk_X9_readsT_138 ?_
      have q9 := q8.2
      refine tv_cV1 C dk_X9_readsT_139 ml_RX9_212 yk_X9_isNumber yi_X9_isNumber (n_X9_isNumber _ ((f_X9_isWord (tpi ((f_X9_isSign ((f_X9_isSign M 117).2) 105).2) 256 x1.toNatClampNeg 97) 23).2) 1 (x1 + 1) q8.1) (Nat.le_of_ble_eq_true rfl) rfl rfl rfl rfl (Nat.le_of_ble_eq_true rfl) (Nat.le_of_ble_eq_true rfl) (Nat.le_of_ble_eq_true rfl) (Nat.le_of_ble_eq_true rfl) (Nat.le_of_ble_eq_true rfl) ?_
      refine tv_if_eq C dk_X9_readsT_142 (fun h4 => ?_) (fun h4 => ?_)
      · have q10 := q9.1 h4
        refine tv_iconst (v := 0) C dk_X9_readsT_149 (by decide) ?_
        exact tv_iret C hQ dk_X9_readsT_150 rfl (by rw [f_X9_readsT, if_pos h1, if_pos h2, if_neg h3, if_pos h4]) (by rw [f_X9_readsT, if_pos h1, if_pos h2, if_neg h3, if_pos h4])
      have q11 := q9.2 h4
      refine tv_iconst (v := 1) C dk_X9_readsT_145 (by decide) ?_
      refine tv_goto C dk_X9_readsT_146 ?_
      exact tv_iret C hQ dk_X9_readsT_150 rfl (by rw [f_X9_readsT, if_pos h1, if_pos h2, if_neg h3, if_neg h4]) (by rw [f_X9_readsT, if_pos h1, if_pos h2, if_neg h3, if_neg h4])
    have q12 := q3.2 h2
    refine tv_aload_n C dk_X9_readsT_70 rfl ?_
    refine tv_getR (r := 256) C dk_X9_readsT_71 fl_RX9_35 (Nat.le_of_ble_eq_true rfl) rfl rfl (fun _ _ _ _ => rfl) ?_
    refine tv_iload_n C dk_X9_readsT_74 rfl ?_
    refine tv_bipush (v := 105) C dk_X9_readsT_75 (by decide) ?_
    have q13 := q12.2
    refine tv_iast (j := x1.toNatClampNeg) rfl C tvP0_ex dk_X9_readsT_77 (Nat.le_of_ble_eq_true rfl) rfl q12.1 ?_
    refine tv_aload_n C dk_X9_readsT_78 rfl ?_
    refine tv_ldcS (i := 22) C dk_X9_readsT_79 (List.mem_of_getElem? (i := 22) rfl) ?_
    have q14 := q13.2
    refine tv_cV1 C dk_X9_readsT_81 ml_RX9_217 yk_X9_isWord yi_X9_isWord (n_X9_isWord _ (tpi ((f_X9_isSign ((f_X9_isSign M 117).2) 105).2) 256 x1.toNatClampNeg 105) 22 (by decide) q13.1) (Nat.le_of_ble_eq_true rfl) rfl rfl rfl rfl (Nat.le_of_ble_eq_true rfl) (Nat.le_of_ble_eq_true rfl) (Nat.le_of_ble_eq_true rfl) (Nat.le_of_ble_eq_true rfl) (Nat.le_of_ble_eq_true rfl) ?_
    refine tv_if_eq C dk_X9_readsT_84 (fun h5 => ?_) (fun h5 => ?_)
    · have q15 := q14.1 h5
      refine tv_iconst (v := 0) C dk_X9_readsT_115 (by decide) ?_
      exact tv_iret C hQ dk_X9_readsT_116 rfl (by rw [f_X9_readsT, if_pos h1, if_neg h2, if_pos h5]) (by rw [f_X9_readsT, if_pos h1, if_neg h2, if_pos h5])
    have q16 := q14.2 h5
    refine tv_aload_n C dk_X9_readsT_87 rfl ?_
    refine tv_iconst (v := 3) C dk_X9_readsT_88 (by decide) ?_
    refine tv_iload_n C dk_X9_readsT_89 rfl ?_
    refine tv_iconst (v := 1) C dk_X9_readsT_90 (by decide) ?_
    refine tv_iadd C dk_X9_readsT_91 ?_
    have q17 := q16.2
    refine tv_cV1 C dk_X9_readsT_92 ml_RX9_212 yk_X9_isNumber yi_X9_isNumber (n_X9_isNumber _ ((f_X9_isWord (tpi ((f_X9_isSign ((f_X9_isSign M 117).2) 105).2) 256 x1.toNatClampNeg 105) 22).2) 3 (x1 + 1) q16.1) (Nat.le_of_ble_eq_true rfl) rfl rfl rfl rfl (Nat.le_of_ble_eq_true rfl) (Nat.le_of_ble_eq_true rfl) (Nat.le_of_ble_eq_true rfl) (Nat.le_of_ble_eq_true rfl) (Nat.le_of_ble_eq_true rfl) ?_
    refine tv_if_eq C dk_X9_readsT_95 (fun h6 => ?_) (fun h6 => ?_)
    · have q18 := q17.1 h6
      refine tv_iconst (v := 0) C dk_X9_readsT_115 (by decide) ?_
      exact tv_iret C hQ dk_X9_readsT_116 rfl (by rw [f_X9_readsT, if_pos h1, if_neg h2, if_neg h5, if_pos h6]) (by rw [f_X9_readsT, if_pos h1, if_neg h2, if_neg h5, if_pos h6])
    have q19 := q17.2 h6
    refine tv_aload_n C dk_X9_readsT_98 rfl ?_
    refine tv_bipush (v := 47) C dk_X9_readsT_99 (by decide) ?_
    refine tv_iconst (v := 3) C dk_X9_readsT_101 (by decide) ?_
    refine tv_iload_n C dk_X9_readsT_102 rfl ?_
    refine tv_iconst (v := 2) C dk_X9_readsT_103 (by decide) ?_
    refine tv_iadd C dk_X9_readsT_104 ?_
    have q20 := q19.2
    refine tv_cV1 C dk_X9_readsT_105 ml_RX9_221 yk_X9_isNumberBehind yi_X9_isNumberBehind (m_X9_isNumberBehind _ ((f_X9_isNumber ((f_X9_isWord (tpi ((f_X9_isSign ((f_X9_isSign M 117).2) 105).2) 256 x1.toNatClampNeg 105) 22).2) 3 (x1 + 1)).2) 47 3 (x1 + 2) q19.1) (Nat.le_of_ble_eq_true rfl) rfl rfl rfl rfl (Nat.le_of_ble_eq_true rfl) (Nat.le_of_ble_eq_true rfl) (Nat.le_of_ble_eq_true rfl) (Nat.le_of_ble_eq_true rfl) (Nat.le_of_ble_eq_true rfl) ?_
    refine tv_if_eq C dk_X9_readsT_108 (fun h7 => ?_) (fun h7 => ?_)
    · have q21 := q20.1 h7
      refine tv_iconst (v := 0) C dk_X9_readsT_115 (by decide) ?_
      exact tv_iret C hQ dk_X9_readsT_116 rfl (by rw [f_X9_readsT, if_pos h1, if_neg h2, if_neg h5, if_neg h6, if_pos h7]) (by rw [f_X9_readsT, if_pos h1, if_neg h2, if_neg h5, if_neg h6, if_pos h7])
    have q22 := q20.2 h7
    refine tv_iconst (v := 1) C dk_X9_readsT_111 (by decide) ?_
    refine tv_goto C dk_X9_readsT_112 ?_
    exact tv_iret C hQ dk_X9_readsT_116 rfl (by rw [f_X9_readsT, if_pos h1, if_neg h2, if_neg h5, if_neg h6, if_neg h7]) (by rw [f_X9_readsT, if_pos h1, if_neg h2, if_neg h5, if_neg h6, if_neg h7])
  have q23 := q1.2 h1
  refine tv_aload_n C dk_X9_readsT_9 rfl ?_
  refine tv_ldcS (i := 21) C dk_X9_readsT_10 (List.mem_of_getElem? (i := 21) rfl) ?_
  have q24 := q23.2
  refine tv_cV1 C dk_X9_readsT_12 ml_RX9_217 yk_X9_isWord yi_X9_isWord (n_X9_isWord _ ((f_X9_isSign M 117).2) 21 (by decide) q23.1) (Nat.le_of_ble_eq_true rfl) rfl rfl rfl rfl (Nat.le_of_ble_eq_true rfl) (Nat.le_of_ble_eq_true rfl) (Nat.le_of_ble_eq_true rfl) (Nat.le_of_ble_eq_true rfl) (Nat.le_of_ble_eq_true rfl) ?_
  refine tv_if_eq C dk_X9_readsT_15 (fun h8 => ?_) (fun h8 => ?_)
  · have q25 := q24.1 h8
    refine tv_iconst (v := 0) C dk_X9_readsT_59 (by decide) ?_
    exact tv_iret C hQ dk_X9_readsT_60 rfl (by rw [f_X9_readsT, if_neg h1, if_pos h8]) (by rw [f_X9_readsT, if_neg h1, if_pos h8])
  have q26 := q24.2 h8
  refine tv_aload_n C dk_X9_readsT_18 rfl ?_
  refine tv_iconst (v := 1) C dk_X9_readsT_19 (by decide) ?_
  refine tv_iload_n C dk_X9_readsT_20 rfl ?_
  refine tv_iconst (v := 1) C dk_X9_readsT_21 (by decide) ?_
  refine tv_iadd C dk_X9_readsT_22 ?_
  have q27 := q26.2
  refine tv_cV1 C dk_X9_readsT_23 ml_RX9_212 yk_X9_isNumber yi_X9_isNumber (n_X9_isNumber _ ((f_X9_isWord ((f_X9_isSign M 117).2) 21).2) 1 (x1 + 1) q26.1) (Nat.le_of_ble_eq_true rfl) rfl rfl rfl rfl (Nat.le_of_ble_eq_true rfl) (Nat.le_of_ble_eq_true rfl) (Nat.le_of_ble_eq_true rfl) (Nat.le_of_ble_eq_true rfl) (Nat.le_of_ble_eq_true rfl) ?_
  refine tv_if_eq C dk_X9_readsT_26 (fun h9 => ?_) (fun h9 => ?_)
  · have q28 := q27.1 h9
    refine tv_iconst (v := 0) C dk_X9_readsT_59 (by decide) ?_
    exact tv_iret C hQ dk_X9_readsT_60 rfl (by rw [f_X9_readsT, if_neg h1, if_neg h8, if_pos h9]) (by rw [f_X9_readsT, if_neg h1, if_neg h8, if_pos h9])
  have q29 := q27.2 h9
  refine tv_aload_n C dk_X9_readsT_29 rfl ?_
  refine tv_bipush (v := 32) C dk_X9_readsT_30 (by decide) ?_
  refine tv_iconst (v := 1) C dk_X9_readsT_32 (by decide) ?_
  refine tv_iload_n C dk_X9_readsT_33 rfl ?_
  refine tv_iconst (v := 2) C dk_X9_readsT_34 (by decide) ?_
  refine tv_iadd C dk_X9_readsT_35 ?_
  have q30 := q29.2
  refine tv_cV1 C dk_X9_readsT_36 ml_RX9_221 yk_X9_isNumberBehind yi_X9_isNumberBehind (m_X9_isNumberBehind _ ((f_X9_isNumber ((f_X9_isWord ((f_X9_isSign M 117).2) 21).2) 1 (x1 + 1)).2) 32 1 (x1 + 2) q29.1) (Nat.le_of_ble_eq_true rfl) rfl rfl rfl rfl (Nat.le_of_ble_eq_true rfl) (Nat.le_of_ble_eq_true rfl) (Nat.le_of_ble_eq_true rfl) (Nat.le_of_ble_eq_true rfl) (Nat.le_of_ble_eq_true rfl) ?_
  refine tv_if_eq C dk_X9_readsT_39 (fun h10 => ?_) (fun h10 => ?_)
  · have q31 := q30.1 h10
    refine tv_iconst (v := 0) C dk_X9_readsT_59 (by decide) ?_
    exact tv_iret C hQ dk_X9_readsT_60 rfl (by rw [f_X9_readsT, if_neg h1, if_neg h8, if_neg h9, if_pos h10]) (by rw [f_X9_readsT, if_neg h1, if_neg h8, if_neg h9, if_pos h10])
  have q32 := q30.2 h10
  refine tv_aload_n C dk_X9_readsT_42 rfl ?_
  refine tv_bipush (v := 61) C dk_X9_readsT_43 (by decide) ?_
  refine tv_iconst (v := 3) C dk_X9_readsT_45 (by decide) ?_
  refine tv_iload_n C dk_X9_readsT_46 rfl ?_
  refine tv_iconst (v := 3) C dk_X9_readsT_47 (by decide) ?_
  refine tv_iadd C dk_X9_readsT_48 ?_
  have q33 := q32.2
  refine tv_cV1 C dk_X9_readsT_49 ml_RX9_221 yk_X9_isNumberBehind yi_X9_isNumberBehind (m_X9_isNumberBehind _ ((f_X9_isNumberBehind ((f_X9_isNumber ((f_X9_isWord ((f_X9_isSign M 117).2) 21).2) 1 (x1 + 1)).2) 32 1 (x1 + 2)).2) 61 3 (x1 + 3) q32.1) (Nat.le_of_ble_eq_true rfl) rfl rfl rfl rfl (Nat.le_of_ble_eq_true rfl) (Nat.le_of_ble_eq_true rfl) (Nat.le_of_ble_eq_true rfl) (Nat.le_of_ble_eq_true rfl) (Nat.le_of_ble_eq_true rfl) ?_
  refine tv_if_eq C dk_X9_readsT_52 (fun h11 => ?_) (fun h11 => ?_)
  · have q34 := q33.1 h11
    refine tv_iconst (v := 0) C dk_X9_readsT_59 (by decide) ?_
    exact tv_iret C hQ dk_X9_readsT_60 rfl (by rw [f_X9_readsT, if_neg h1, if_neg h8, if_neg h9, if_neg h10, if_pos h11]) (by rw [f_X9_readsT, if_neg h1, if_neg h8, if_neg h9, if_neg h10, if_pos h11])
  have q35 := q33.2 h11
  refine tv_iconst (v := 1) C dk_X9_readsT_55 (by decide) ?_
  refine tv_goto C dk_X9_readsT_56 ?_
  exact tv_iret C hQ dk_X9_readsT_60 rfl (by rw [f_X9_readsT, if_neg h1, if_neg h8, if_neg h9, if_neg h10, if_neg h11]) (by rw [f_X9_readsT, if_neg h1, if_neg h8, if_neg h9, if_neg h10, if_neg h11])
theorem fz_X9_readsT {M : tvM} {x1 : Int32} : narrow .boolean (.int (f_X9_readsT M x1).1) = .int ((f_X9_readsT M x1).1) := by
  unfold f_X9_readsT; repeat' split
  all_goals try dsimp only
  all_goals first | rfl
/-- TideVaultModel.readsC(I)Z -/
def f_X9_readsC (M : tvM) (x1 : Int32) : Int32 × tvM := (if (f_X9_isSign M 111).1 = 0 then (if (f_X9_isWord (tpi ((f_X9_isSign M 111).2) 256 x1.toNatClampNeg 108) 24).1 = 0 then (0, (f_X9_isWord (tpi ((f_X9_isSign M 111).2) 256 x1.toNatClampNeg 108) 24).2) else (if (f_X9_isNumber ((f_X9_isWord (tpi ((f_X9_isSign M 111).2) 256 x1.toNatClampNeg 108) 24).2) 1 (x1 + 1)).1 = 0 then (0, (f_X9_isNumber ((f_X9_isWord (tpi ((f_X9_isSign M 111).2) 256 x1.toNatClampNeg 108) 24).2) 1 (x1 + 1)).2) else (1, (f_X9_isNumber ((f_X9_isWord (tpi ((f_X9_isSign M 111).2) 256 x1.toNatClampNeg 108) 24).2) 1 (x1 + 1)).2))) else (if (f_X9_isWord ((f_X9_isSign M 111).2) 22).1 = 0 then (0, (f_X9_isWord ((f_X9_isSign M 111).2) 22).2) else (if (f_X9_isNumber ((f_X9_isWord ((f_X9_isSign M 111).2) 22).2) 1 (x1 + 1)).1 = 0 then (0, (f_X9_isNumber ((f_X9_isWord ((f_X9_isSign M 111).2) 22).2) 1 (x1 + 1)).2) else (if (f_X9_isNumberBehind ((f_X9_isNumber ((f_X9_isWord ((f_X9_isSign M 111).2) 22).2) 1 (x1 + 1)).2) 32 3 (x1 + 2)).1 = 0 then (0, (f_X9_isNumberBehind ((f_X9_isNumber ((f_X9_isWord ((f_X9_isSign M 111).2) 22).2) 1 (x1 + 1)).2) 32 3 (x1 + 2)).2) else (if (f_X9_isNumberBehind ((f_X9_isNumberBehind ((f_X9_isNumber ((f_X9_isWord ((f_X9_isSign M 111).2) 22).2) 1 (x1 + 1)).2) 32 3 (x1 + 2)).2) 62 3 (x1 + 3)).1 = 0 then (0, (f_X9_isNumberBehind ((f_X9_isNumberBehind ((f_X9_isNumber ((f_X9_isWord ((f_X9_isSign M 111).2) 22).2) 1 (x1 + 1)).2) 32 3 (x1 + 2)).2) 62 3 (x1 + 3)).2) else (1, (f_X9_isNumberBehind ((f_X9_isNumberBehind ((f_X9_isNumber ((f_X9_isWord ((f_X9_isSign M 111).2) 22).2) 1 (x1 + 1)).2) 32 3 (x1 + 2)).2) 62 3 (x1 + 3)).2))))))
def q_X9_readsC (M : tvM) (x1 : Int32) : Prop := ((q_X9_isSign M 111) ∧ (((f_X9_isSign M 111).1 = 0 → (vp_in x1 124 ∧ ((q_X9_isWord (tpi ((f_X9_isSign M 111).2) 256 x1.toNatClampNeg 108) 24) ∧ (((f_X9_isWord (tpi ((f_X9_isSign M 111).2) 256 x1.toNatClampNeg 108) 24).1 = 0 → True) ∧ (¬ (f_X9_isWord (tpi ((f_X9_isSign M 111).2) 256 x1.toNatClampNeg 108) 24).1 = 0 → ((q_X9_isNumber ((f_X9_isWord (tpi ((f_X9_isSign M 111).2) 256 x1.toNatClampNeg 108) 24).2) 1 (x1 + 1)) ∧ (((f_X9_isNumber ((f_X9_isWord (tpi ((f_X9_isSign M 111).2) 256 x1.toNatClampNeg 108) 24).2) 1 (x1 + 1)).1 = 0 → True) ∧ (¬ (f_X9_isNumber ((f_X9_isWord (tpi ((f_X9_isSign M 111).2) 256 x1.toNatClampNeg 108) 24).2) 1 (x1 + 1)).1 = 0 → True)))))))) ∧ (¬ (f_X9_isSign M 111).1 = 0 → ((q_X9_isWord ((f_X9_isSign M 111).2) 22) ∧ (((f_X9_isWord ((f_X9_isSign M 111).2) 22).1 = 0 → True) ∧ (¬ (f_X9_isWord ((f_X9_isSign M 111).2) 22).1 = 0 → ((q_X9_isNumber ((f_X9_isWord ((f_X9_isSign M 111).2) 22).2) 1 (x1 + 1)) ∧ (((f_X9_isNumber ((f_X9_isWord ((f_X9_isSign M 111).2) 22).2) 1 (x1 + 1)).1 = 0 → True) ∧ (¬ (f_X9_isNumber ((f_X9_isWord ((f_X9_isSign M 111).2) 22).2) 1 (x1 + 1)).1 = 0 → ((q_X9_isNumberBehind ((f_X9_isNumber ((f_X9_isWord ((f_X9_isSign M 111).2) 22).2) 1 (x1 + 1)).2) 32 3 (x1 + 2)) ∧ (((f_X9_isNumberBehind ((f_X9_isNumber ((f_X9_isWord ((f_X9_isSign M 111).2) 22).2) 1 (x1 + 1)).2) 32 3 (x1 + 2)).1 = 0 → True) ∧ (¬ (f_X9_isNumberBehind ((f_X9_isNumber ((f_X9_isWord ((f_X9_isSign M 111).2) 22).2) 1 (x1 + 1)).2) 32 3 (x1 + 2)).1 = 0 → ((q_X9_isNumberBehind ((f_X9_isNumberBehind ((f_X9_isNumber ((f_X9_isWord ((f_X9_isSign M 111).2) 22).2) 1 (x1 + 1)).2) 32 3 (x1 + 2)).2) 62 3 (x1 + 3)) ∧ (((f_X9_isNumberBehind ((f_X9_isNumberBehind ((f_X9_isNumber ((f_X9_isWord ((f_X9_isSign M 111).2) 22).2) 1 (x1 + 1)).2) 32 3 (x1 + 2)).2) 62 3 (x1 + 3)).1 = 0 → True) ∧ (¬ (f_X9_isNumberBehind ((f_X9_isNumberBehind ((f_X9_isNumber ((f_X9_isWord ((f_X9_isSign M 111).2) 22).2) 1 (x1 + 1)).2) 32 3 (x1 + 2)).2) 62 3 (x1 + 3)).1 = 0 → True)))))))))))))))
theorem m_X9_readsC (G : tvG) (M : tvM) (x1 : Int32) (hq : q_X9_readsC M x1) : tvRun G yX9_readsC cX9_readsC 2 (some .boolean) 6 0 0 tvP0 tvP0 [.ref (G.2.1 + 249), .int x1] M (.inl (some (.int (f_X9_readsC M x1).1))) ((f_X9_readsC M x1).2) := by
  refine tvRun.of yk_X9_readsC rfl [some (.ref (G.2.1 + 249)), some (.int x1)] rfl (Nat.le_of_ble_eq_true rfl) ?_
  intro E hG C hQ; subst hG
  refine tv_aload_n C dk_X9_readsC_0 rfl ?_
  refine tv_bipush (v := 111) C dk_X9_readsC_1 (by decide) ?_
  have q1 := hq.2
  refine tv_cV1 C dk_X9_readsC_3 ml_RX9_209 yk_X9_isSign yi_X9_isSign (m_X9_isSign _ M 111 hq.1) (Nat.le_of_ble_eq_true rfl) rfl rfl rfl rfl (Nat.le_of_ble_eq_true rfl) (Nat.le_of_ble_eq_true rfl) (Nat.le_of_ble_eq_true rfl) (Nat.le_of_ble_eq_true rfl) (Nat.le_of_ble_eq_true rfl) ?_
  refine tv_if_eq C dk_X9_readsC_6 (fun h1 => ?_) (fun h1 => ?_)
  · have q2 := q1.1 h1
    refine tv_aload_n C dk_X9_readsC_61 rfl ?_
    refine tv_getR (r := 256) C dk_X9_readsC_62 fl_RX9_35 (Nat.le_of_ble_eq_true rfl) rfl rfl (fun _ _ _ _ => rfl) ?_
    refine tv_iload_n C dk_X9_readsC_65 rfl ?_
    refine tv_bipush (v := 108) C dk_X9_readsC_66 (by decide) ?_
    have q3 := q2.2
    refine tv_iast (j := x1.toNatClampNeg) rfl C tvP0_ex dk_X9_readsC_68 (Nat.le_of_ble_eq_true rfl) rfl q2.1 ?_
    refine tv_aload_n C dk_X9_readsC_69 rfl ?_
    refine tv_ldcS (i := 24) C dk_X9_readsC_70 (List.mem_of_getElem? (i := 24) rfl) ?_
    have q4 := q3.2
    refine tv_cV1 C dk_X9_readsC_72 ml_RX9_217 yk_X9_isWord yi_X9_isWord (n_X9_isWord _ (tpi ((f_X9_isSign M 111).2) 256 x1.toNatClampNeg 108) 24 (by decide) q3.1) (Nat.le_of_ble_eq_true rfl) rfl rfl rfl rfl (Nat.le_of_ble_eq_true rfl) (Nat.le_of_ble_eq_true rfl) (Nat.le_of_ble_eq_true rfl) (Nat.le_of_ble_eq_true rfl) (Nat.le_of_ble_eq_true rfl) ?_
    refine tv_if_eq C dk_X9_readsC_75 (fun h2 => ?_) (fun h2 => ?_)
    · have q5 := q4.1 h2
      refine tv_iconst (v := 0) C dk_X9_readsC_93 (by decide) ?_
      exact tv_iret C hQ dk_X9_readsC_94 rfl (by rw [f_X9_readsC, if_pos h1, if_pos h2]) (by rw [f_X9_readsC, if_pos h1, if_pos h2])
    have q6 := q4.2 h2
    refine tv_aload_n C dk_X9_readsC_78 rfl ?_
    refine tv_iconst (v := 1) C dk_X9_readsC_79 (by decide) ?_
    refine tv_iload_n C dk_X9_readsC_80 rfl ?_
    refine tv_iconst (v := 1) C dk_X9_readsC_81 (by decide) ?_
    refine tv_iadd C dk_X9_readsC_82 ?_
    have q7 := q6.2
    refine tv_cV1 C dk_X9_readsC_83 ml_RX9_212 yk_X9_isNumber yi_X9_isNumber (n_X9_isNumber _ ((f_X9_isWord (tpi ((f_X9_isSign M 111).2) 256 x1.toNatClampNeg 108) 24).2) 1 (x1 + 1) q6.1) (Nat.le_of_ble_eq_true rfl) rfl rfl rfl rfl (Nat.le_of_ble_eq_true rfl) (Nat.le_of_ble_eq_true rfl) (Nat.le_of_ble_eq_true rfl) (Nat.le_of_ble_eq_true rfl) (Nat.le_of_ble_eq_true rfl) ?_
    refine tv_if_eq C dk_X9_readsC_86 (fun h3 => ?_) (fun h3 => ?_)
    · have q8 := q7.1 h3
      refine tv_iconst (v := 0) C dk_X9_readsC_93 (by decide) ?_
      exact tv_iret C hQ dk_X9_readsC_94 rfl (by rw [f_X9_readsC, if_pos h1, if_neg h2, if_pos h3]) (by rw [f_X9_readsC, if_pos h1, if_neg h2, if_pos h3])
    have q9 := q7.2 h3
    refine tv_iconst (v := 1) C dk_X9_readsC_89 (by decide) ?_
    refine tv_goto C dk_X9_readsC_90 ?_
    exact tv_iret C hQ dk_X9_readsC_94 rfl (by rw [f_X9_readsC, if_pos h1, if_neg h2, if_neg h3]) (by rw [f_X9_readsC, if_pos h1, if_neg h2, if_neg h3])
  have q10 := q1.2 h1
  refine tv_aload_n C dk_X9_readsC_9 rfl ?_
  refine tv_ldcS (i := 22) C dk_X9_readsC_10 (List.mem_of_getElem? (i := 22) rfl) ?_
  have q11 := q10.2
  refine tv_cV1 C dk_X9_readsC_12 ml_RX9_217 yk_X9_isWord yi_X9_isWord (n_X9_isWord _ ((f_X9_isSign M 111).2) 22 (by decide) q10.1) (Nat.le_of_ble_eq_true rfl) rfl rfl rfl rfl (Nat.le_of_ble_eq_true rfl) (Nat.le_of_ble_eq_true rfl) (Nat.le_of_ble_eq_true rfl) (Nat.le_of_ble_eq_true rfl) (Nat.le_of_ble_eq_true rfl) ?_
  refine tv_if_eq C dk_X9_readsC_15 (fun h4 => ?_) (fun h4 => ?_)
  · have q12 := q11.1 h4
    refine tv_iconst (v := 0) C dk_X9_readsC_59 (by decide) ?_
    exact tv_iret C hQ dk_X9_readsC_60 rfl (by rw [f_X9_readsC, if_neg h1, if_pos h4]) (by rw [f_X9_readsC, if_neg h1, if_pos h4])
  have q13 := q11.2 h4
  refine tv_aload_n C dk_X9_readsC_18 rfl ?_
  refine tv_iconst (v := 1) C dk_X9_readsC_19 (by decide) ?_
  refine tv_iload_n C dk_X9_readsC_20 rfl ?_
  refine tv_iconst (v := 1) C dk_X9_readsC_21 (by decide) ?_
  refine tv_iadd C dk_X9_readsC_22 ?_
  have q14 := q13.2
  refine tv_cV1 C dk_X9_readsC_23 ml_RX9_212 yk_X9_isNumber yi_X9_isNumber (n_X9_isNumber _ ((f_X9_isWord ((f_X9_isSign M 111).2) 22).2) 1 (x1 + 1) q13.1) (Nat.le_of_ble_eq_true rfl) rfl rfl rfl rfl (Nat.le_of_ble_eq_true rfl) (Nat.le_of_ble_eq_true rfl) (Nat.le_of_ble_eq_true rfl) (Nat.le_of_ble_eq_true rfl) (Nat.le_of_ble_eq_true rfl) ?_
  refine tv_if_eq C dk_X9_readsC_26 (fun h5 => ?_) (fun h5 => ?_)
  · have q15 := q14.1 h5
    refine tv_iconst (v := 0) C dk_X9_readsC_59 (by decide) ?_
    exact tv_iret C hQ dk_X9_readsC_60 rfl (by rw [f_X9_readsC, if_neg h1, if_neg h4, if_pos h5]) (by rw [f_X9_readsC, if_neg h1, if_neg h4, if_pos h5])
  have q16 := q14.2 h5
  refine tv_aload_n C dk_X9_readsC_29 rfl ?_
  refine tv_bipush (v := 32) C dk_X9_readsC_30 (by decide) ?_
  refine tv_iconst (v := 3) C dk_X9_readsC_32 (by decide) ?_
  refine tv_iload_n C dk_X9_readsC_33 rfl ?_
  refine tv_iconst (v := 2) C dk_X9_readsC_34 (by decide) ?_
  refine tv_iadd C dk_X9_readsC_35 ?_
  have q17 := q16.2
  refine tv_cV1 C dk_X9_readsC_36 ml_RX9_221 yk_X9_isNumberBehind yi_X9_isNumberBehind (m_X9_isNumberBehind _ ((f_X9_isNumber ((f_X9_isWord ((f_X9_isSign M 111).2) 22).2) 1 (x1 + 1)).2) 32 3 (x1 + 2) q16.1) (Nat.le_of_ble_eq_true rfl) rfl rfl rfl rfl (Nat.le_of_ble_eq_true rfl) (Nat.le_of_ble_eq_true rfl) (Nat.le_of_ble_eq_true rfl) (Nat.le_of_ble_eq_true rfl) (Nat.le_of_ble_eq_true rfl) ?_
  refine tv_if_eq C dk_X9_readsC_39 (fun h6 => ?_) (fun h6 => ?_)
  · have q18 := q17.1 h6
    refine tv_iconst (v := 0) C dk_X9_readsC_59 (by decide) ?_
    exact tv_iret C hQ dk_X9_readsC_60 rfl (by rw [f_X9_readsC, if_neg h1, if_neg h4, if_neg h5, if_pos h6]) (by rw [f_X9_readsC, if_neg h1, if_neg h4, if_neg h5, if_pos h6])
  have q19 := q17.2 h6
  refine tv_aload_n C dk_X9_readsC_42 rfl ?_
  refine tv_bipush (v := 62) C dk_X9_readsC_43 (by decide) ?_
  refine tv_iconst (v := 3) C dk_X9_readsC_45 (by decide) ?_
  refine tv_iload_n C dk_X9_readsC_46 rfl ?_
  refine tv_iconst (v := 3) C dk_X9_readsC_47 (by decide) ?_
  refine tv_iadd C dk_X9_readsC_48 ?_
  have q20 := q19.2
  refine tv_cV1 C dk_X9_readsC_49 ml_RX9_221 yk_X9_isNumberBehind yi_X9_isNumberBehind (m_X9_isNumberBehind _ ((f_X9_isNumberBehind ((f_X9_isNumber ((f_X9_isWord ((f_X9_isSign M 111).2) 22).2) 1 (x1 + 1)).2) 32 3 (x1 + 2)).2) 62 3 (x1 + 3) q19.1) (Nat.le_of_ble_eq_true rfl) rfl rfl rfl rfl (Nat.le_of_ble_eq_true rfl) (Nat.le_of_ble_eq_true rfl) (Nat.le_of_ble_eq_true rfl) (Nat.le_of_ble_eq_true rfl) (Nat.le_of_ble_eq_true rfl) ?_
  refine tv_if_eq C dk_X9_readsC_52 (fun h7 => ?_) (fun h7 => ?_)
  · have q21 := q20.1 h7
    refine tv_iconst (v := 0) C dk_X9_readsC_59 (by decide) ?_
    exact tv_iret C hQ dk_X9_readsC_60 rfl (by rw [f_X9_readsC, if_neg h1, if_neg h4, if_neg h5, if_neg h6, if_pos h7]) (by rw [f_X9_readsC, if_neg h1, if_neg h4, if_neg h5, if_neg h6, if_pos h7])
  have q22 := q20.2 h7
  refine tv_iconst (v := 1) C dk_X9_readsC_55 (by decide) ?_
  refine tv_goto C dk_X9_readsC_56 ?_
  exact tv_iret C hQ dk_X9_readsC_60 rfl (by rw [f_X9_readsC, if_neg h1, if_neg h4, if_neg h5, if_neg h6, if_neg h7]) (by rw [f_X9_readsC, if_neg h1, if_neg h4, if_neg h5, if_neg h6, if_neg h7])
theorem fz_X9_readsC {M : tvM} {x1 : Int32} : narrow .boolean (.int (f_X9_readsC M x1).1) = .int ((f_X9_readsC M x1).1) := by
  unfold f_X9_readsC; repeat' split
  all_goals try dsimp only
  all_goals first | rfl
/-- TideVaultModel.readsWait(I)Z -/
def f_X9_readsWait (M : tvM) (x1 : Int32) : Int32 × tvM := (if (f_X9_isWord (tpi M 256 (x1 + 1).toNatClampNeg 1) 26).1 = 0 then (0, (f_X9_isWord (tpi M 256 (x1 + 1).toNatClampNeg 1) 26).2) else (if (f_X9_isSign ((f_X9_isWord (tpi M 256 (x1 + 1).toNatClampNeg 1) 26).2) 32).1 = 0 then (1, (f_X9_isSign ((f_X9_isWord (tpi M 256 (x1 + 1).toNatClampNeg 1) 26).2) 32).2) else (if (f_X9_isNumber ((f_X9_isSign ((f_X9_isWord (tpi M 256 (x1 + 1).toNatClampNeg 1) 26).2) 32).2) 3 (x1 + 1)).1 = 0 then (0, (f_X9_isNumber ((f_X9_isSign ((f_X9_isWord (tpi M 256 (x1 + 1).toNatClampNeg 1) 26).2) 32).2) 3 (x1 + 1)).2) else (1, (f_X9_isNumber ((f_X9_isSign ((f_X9_isWord (tpi M 256 (x1 + 1).toNatClampNeg 1) 26).2) 32).2) 3 (x1 + 1)).2))))
def q_X9_readsWait (M : tvM) (x1 : Int32) : Prop := (vp_in (x1 + 1) 124 ∧ ((q_X9_isWord (tpi M 256 (x1 + 1).toNatClampNeg 1) 26) ∧ (((f_X9_isWord (tpi M 256 (x1 + 1).toNatClampNeg 1) 26).1 = 0 → True) ∧ (¬ (f_X9_isWord (tpi M 256 (x1 + 1).toNatClampNeg 1) 26).1 = 0 → ((q_X9_isSign ((f_X9_isWord (tpi M 256 (x1 + 1).toNatClampNeg 1) 26).2) 32) ∧ (((f_X9_isSign ((f_X9_isWord (tpi M 256 (x1 + 1).toNatClampNeg 1) 26).2) 32).1 = 0 → True) ∧ (¬ (f_X9_isSign ((f_X9_isWord (tpi M 256 (x1 + 1).toNatClampNeg 1) 26).2) 32).1 = 0 → ((q_X9_isNumber ((f_X9_isSign ((f_X9_isWord (tpi M 256 (x1 + 1).toNatClampNeg 1) 26).2) 32).2) 3 (x1 + 1)) ∧ (((f_X9_isNumber ((f_X9_isSign ((f_X9_isWord (tpi M 256 (x1 + 1).toNatClampNeg 1) 26).2) 32).2) 3 (x1 + 1)).1 = 0 → True) ∧ (¬ (f_X9_isNumber ((f_X9_isSign ((f_X9_isWord (tpi M 256 (x1 + 1).toNatClampNeg 1) 26).2) 32).2) 3 (x1 + 1)).1 = 0 → True))))))))))
theorem m_X9_readsWait (G : tvG) (M : tvM) (x1 : Int32) (hq : q_X9_readsWait M x1) : tvRun G yX9_readsWait cX9_readsWait 2 (some .boolean) 6 0 0 tvP0 tvP0 [.ref (G.2.1 + 249), .int x1] M (.inl (some (.int (f_X9_readsWait M x1).1))) ((f_X9_readsWait M x1).2) := by
  refine tvRun.of yk_X9_readsWait rfl [some (.ref (G.2.1 + 249)), some (.int x1)] rfl (Nat.le_of_ble_eq_true rfl) ?_
  intro E hG C hQ; subst hG
  refine tv_aload_n C dk_X9_readsWait_0 rfl ?_
  refine tv_getR (r := 256) C dk_X9_readsWait_1 fl_RX9_35 (Nat.le_of_ble_eq_true rfl) rfl rfl (fun _ _ _ _ => rfl) ?_
  refine tv_iload_n C dk_X9_readsWait_4 rfl ?_
  refine tv_iconst (v := 1) C dk_X9_readsWait_5 (by decide) ?_
  refine tv_iadd C dk_X9_readsWait_6 ?_
  refine tv_iconst (v := 1) C dk_X9_readsWait_7 (by decide) ?_
  have q1 := hq.2
  refine tv_iast (j := (x1 + 1).toNatClampNeg) rfl C tvP0_ex dk_X9_readsWait_8 (Nat.le_of_ble_eq_true rfl) rfl hq.1 ?_
  refine tv_aload_n C dk_X9_readsWait_9 rfl ?_
  refine tv_ldcS (i := 26) C dk_X9_readsWait_10 (List.mem_of_getElem? (i := 26) rfl) ?_
  have q2 := q1.2
  refine tv_cV1 C dk_X9_readsWait_12 ml_RX9_217 yk_X9_isWord yi_X9_isWord (n_X9_isWord _ (tpi M 256 (x1 + 1).toNatClampNeg 1) 26 (by decide) q1.1) (Nat.le_of_ble_eq_true rfl) rfl rfl rfl rfl (Nat.le_of_ble_eq_true rfl) (Nat.le_of_ble_eq_true rfl) (Nat.le_of_ble_eq_true rfl) (Nat.le_of_ble_eq_true rfl) (Nat.le_of_ble_eq_true rfl) ?_
  refine tv_if_eq C dk_X9_readsWait_15 (fun h1 => ?_) (fun h1 => ?_)
  · have q3 := q2.1 h1
    refine tv_iconst (v := 0) C dk_X9_readsWait_42 (by decide) ?_
    exact tv_iret C hQ dk_X9_readsWait_43 rfl (by rw [f_X9_readsWait, if_pos h1]) (by rw [f_X9_readsWait, if_pos h1])
  have q4 := q2.2 h1
  refine tv_aload_n C dk_X9_readsWait_18 rfl ?_
  refine tv_bipush (v := 32) C dk_X9_readsWait_19 (by decide) ?_
  have q5 := q4.2
  refine tv_cV1 C dk_X9_readsWait_21 ml_RX9_209 yk_X9_isSign yi_X9_isSign (m_X9_isSign _ ((f_X9_isWord (tpi M 256 (x1 + 1).toNatClampNeg 1) 26).2) 32 q4.1) (Nat.le_of_ble_eq_true rfl) rfl rfl rfl rfl (Nat.le_of_ble_eq_true rfl) (Nat.le_of_ble_eq_true rfl) (Nat.le_of_ble_eq_true rfl) (Nat.le_of_ble_eq_true rfl) (Nat.le_of_ble_eq_true rfl) ?_
  refine tv_if_eq C dk_X9_readsWait_24 (fun h2 => ?_) (fun h2 => ?_)
  · have q6 := q5.1 h2
    refine tv_iconst (v := 1) C dk_X9_readsWait_38 (by decide) ?_
    refine tv_goto C dk_X9_readsWait_39 ?_
    exact tv_iret C hQ dk_X9_readsWait_43 rfl (by rw [f_X9_readsWait, if_neg h1, if_pos h2]) (by rw [f_X9_readsWait, if_neg h1, if_pos h2])
  have q7 := q5.2 h2
  refine tv_aload_n C dk_X9_readsWait_27 rfl ?_
  refine tv_iconst (v := 3) C dk_X9_readsWait_28 (by decide) ?_
  refine tv_iload_n C dk_X9_readsWait_29 rfl ?_
  refine tv_iconst (v := 1) C dk_X9_readsWait_30 (by decide) ?_
  refine tv_iadd C dk_X9_readsWait_31 ?_
  have q8 := q7.2
  refine tv_cV1 C dk_X9_readsWait_32 ml_RX9_212 yk_X9_isNumber yi_X9_isNumber (n_X9_isNumber _ ((f_X9_isSign ((f_X9_isWord (tpi M 256 (x1 + 1).toNatClampNeg 1) 26).2) 32).2) 3 (x1 + 1) q7.1) (Nat.le_of_ble_eq_true rfl) rfl rfl rfl rfl (Nat.le_of_ble_eq_true rfl) (Nat.le_of_ble_eq_true rfl) (Nat.le_of_ble_eq_true rfl) (Nat.le_of_ble_eq_true rfl) (Nat.le_of_ble_eq_true rfl) ?_
  refine tv_if_eq C dk_X9_readsWait_35 (fun h3 => ?_) (fun h3 => ?_)
  · have q9 := q8.1 h3
    refine tv_iconst (v := 0) C dk_X9_readsWait_42 (by decide) ?_
    exact tv_iret C hQ dk_X9_readsWait_43 rfl (by rw [f_X9_readsWait, if_neg h1, if_neg h2, if_pos h3]) (by rw [f_X9_readsWait, if_neg h1, if_neg h2, if_pos h3])
  have q10 := q8.2 h3
  refine tv_iconst (v := 1) C dk_X9_readsWait_38 (by decide) ?_
  refine tv_goto C dk_X9_readsWait_39 ?_
  exact tv_iret C hQ dk_X9_readsWait_43 rfl (by rw [f_X9_readsWait, if_neg h1, if_neg h2, if_neg h3]) (by rw [f_X9_readsWait, if_neg h1, if_neg h2, if_neg h3])
theorem fz_X9_readsWait {M : tvM} {x1 : Int32} : narrow .boolean (.int (f_X9_readsWait M x1).1) = .int ((f_X9_readsWait M x1).1) := by
  unfold f_X9_readsWait; repeat' split
  all_goals try dsimp only
  all_goals first | rfl
