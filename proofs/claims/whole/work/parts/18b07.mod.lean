/-- TideVaultModel.readsRest(II)Z -/
def f_X9_readsRest (M : tvM) (x1 : Int32) (x2 : Int32) : Int32 × tvM := (if x1 = 98 then (if (f_X9_isWord M 20).1 = 0 then (0, (f_X9_isWord M 20).2) else (if (f_X9_isNumber ((f_X9_isWord M 20).2) 1 (x2 + 1)).1 = 0 then (0, (f_X9_isNumber ((f_X9_isWord M 20).2) 1 (x2 + 1)).2) else (if (f_X9_isNumberBehind ((f_X9_isNumber ((f_X9_isWord M 20).2) 1 (x2 + 1)).2) 38 1 (x2 + 2)).1 = 0 then (0, (f_X9_isNumberBehind ((f_X9_isNumber ((f_X9_isWord M 20).2) 1 (x2 + 1)).2) 38 1 (x2 + 2)).2) else (if (f_X9_isNumberBehind ((f_X9_isNumberBehind ((f_X9_isNumber ((f_X9_isWord M 20).2) 1 (x2 + 1)).2) 38 1 (x2 + 2)).2) 43 3 (x2 + 3)).1 = 0 then (0, (f_X9_isNumberBehind ((f_X9_isNumberBehind ((f_X9_isNumber ((f_X9_isWord M 20).2) 1 (x2 + 1)).2) 38 1 (x2 + 2)).2) 43 3 (x2 + 3)).2) else (1, (f_X9_isNumberBehind ((f_X9_isNumberBehind ((f_X9_isNumber ((f_X9_isWord M 20).2) 1 (x2 + 1)).2) 38 1 (x2 + 2)).2) 43 3 (x2 + 3)).2))))) else (if x1 = 99 then ((f_X9_readsC M x2).1, (f_X9_readsC M x2).2) else (if x1 = 104 then (if (f_X9_isWord M 19).1 = 0 then (0, (f_X9_isWord M 19).2) else (if (f_X9_isNumber ((f_X9_isWord M 19).2) 3 (x2 + 1)).1 = 0 then (0, (f_X9_isNumber ((f_X9_isWord M 19).2) 3 (x2 + 1)).2) else (1, (f_X9_isNumber ((f_X9_isWord M 19).2) 3 (x2 + 1)).2))) else (if x1 = 112 then (if (f_X9_isWord M 25).1 = 0 then (0, (f_X9_isWord M 25).2) else (if (f_X9_isNumber ((f_X9_isWord M 25).2) 1 (x2 + 1)).1 = 0 then (0, (f_X9_isNumber ((f_X9_isWord M 25).2) 1 (x2 + 1)).2) else (if (f_X9_isNumberBehind ((f_X9_isNumber ((f_X9_isWord M 25).2) 1 (x2 + 1)).2) 61 3 (x2 + 2)).1 = 0 then (0, (f_X9_isNumberBehind ((f_X9_isNumber ((f_X9_isWord M 25).2) 1 (x2 + 1)).2) 61 3 (x2 + 2)).2) else (1, (f_X9_isNumberBehind ((f_X9_isNumber ((f_X9_isWord M 25).2) 1 (x2 + 1)).2) 61 3 (x2 + 2)).2)))) else (if x1 = 116 then ((f_X9_readsT M x2).1, (f_X9_readsT M x2).2) else ((f_X9_readsWait M x2).1, (f_X9_readsWait M x2).2))))))
def q_X9_readsRest (M : tvM) (x1 : Int32) (x2 : Int32) : Prop := ((x1 = 98 → ((q_X9_isWord M 20) ∧ (((f_X9_isWord M 20).1 = 0 → True) ∧ (¬ (f_X9_isWord M 20).1 = 0 → ((q_X9_isNumber ((f_X9_isWord M 20).2) 1 (x2 + 1)) ∧ (((f_X9_isNumber ((f_X9_isWord M 20).2) 1 (x2 + 1)).1 = 0 → True) ∧ (¬ (f_X9_isNumber ((f_X9_isWord M 20).2) 1 (x2 + 1)).1 = 0 → ((q_X9_isNumberBehind ((f_X9_isNumber ((f_X9_isWord M 20).2) 1 (x2 + 1)).2) 38 1 (x2 + 2)) ∧ (((f_X9_isNumberBehind ((f_X9_isNumber ((f_X9_isWord M 20).2) 1 (x2 + 1)).2) 38 1 (x2 + 2)).1 = 0 → True) ∧ (¬ (f_X9_isNumberBehind ((f_X9_isNumber ((f_X9_isWord M 20).2) 1 (x2 + 1)).2) 38 1 (x2 + 2)).1 = 0 → ((q_X9_isNumberBehind ((f_X9_isNumberBehind ((f_X9_isNumber ((f_X9_isWord M 20).2) 1 (x2 + 1)).2) 38 1 (x2 + 2)).2) 43 3 (x2 + 3)) ∧ (((f_X9_isNumberBehind ((f_X9_isNumberBehind ((f_X9_isNumber ((f_X9_isWord M 20).2) 1 (x2 + 1)).2) 38 1 (x2 + 2)).2) 43 3 (x2 + 3)).1 = 0 → True) ∧ (¬ (f_X9_isNumberBehind ((f_X9_isNumberBehind ((f_X9_isNumber ((f_X9_isWord M 20).2) 1 (x2 + 1)).2) 38 1 (x2 + 2)).2) 43 3 (x2 + 3)).1 = 0 → True))))))))))))) ∧ (¬ x1 = 98 → ((x1 = 99 → ((q_X9_readsC M x2) ∧ True)) ∧ (¬ x1 = 99 → ((x1 = 104 → ((q_X9_isWord M 19) ∧ (((f_X9_isWord M 19).1 = 0 → True) ∧ (¬ (f_X9_isWord M 19).1 = 0 → ((q_X9_isNumber ((f_X9_isWord M 19).2) 3 (x2 + 1)) ∧ (((f_X9_isNumber ((f_X9_isWord M 19).2) 3 (x2 + 1)).1 = 0 → True) ∧ (¬ (f_X9_isNumber ((f_X9_isWord M 19).2) 3 (x2 + 1)).1 = 0 → True))))))) ∧ (¬ x1 = 104 → ((x1 = 112 → ((q_X9_isWord M 25) ∧ (((f_X9_isWord M 25).1 = 0 → True) ∧ (¬ (f_X9_isWord M 25).1 = 0 → ((q_X9_isNumber ((f_X9_isWord M 25).2) 1 (x2 + 1)) ∧ (((f_X9_isNumber ((f_X9_isWord M 25).2) 1 (x2 + 1)).1 = 0 → True) ∧ (¬ (f_X9_isNumber ((f_X9_isWord M 25).2) 1 (x2 + 1)).1 = 0 → ((q_X9_isNumberBehind ((f_X9_isNumber ((f_X9_isWord M 25).2) 1 (x2 + 1)).2) 61 3 (x2 + 2)) ∧ (((f_X9_isNumberBehind ((f_X9_isNumber ((f_X9_isWord M 25).2) 1 (x2 + 1)).2) 61 3 (x2 + 2)).1 = 0 → True) ∧ (¬ (f_X9_isNumberBehind ((f_X9_isNumber ((f_X9_isWord M 25).2) 1 (x2 + 1)).2) 61 3 (x2 + 2)).1 = 0 → True)))))))))) ∧ (¬ x1 = 112 → ((x1 = 116 → ((q_X9_readsT M x2) ∧ True)) ∧ (¬ x1 = 116 → ((q_X9_readsWait M x2) ∧ True)))))))))))
theorem m_X9_readsRest (G : tvG) (M : tvM) (x1 : Int32) (x2 : Int32) (hq : q_X9_readsRest M x1 x2) : tvRun G yX9_readsRest cX9_readsRest 3 (some .boolean) 7 0 0 tvP0 tvP0 [.ref (G.2.1 + 249), .int x1, .int x2] M (.inl (some (.int (f_X9_readsRest M x1 x2).1))) ((f_X9_readsRest M x1 x2).2) := by
  refine tvRun.of yk_X9_readsRest rfl [some (.ref (G.2.1 + 249)), some (.int x1), some (.int x2)] rfl (Nat.le_of_ble_eq_true rfl) ?_
  intro E hG C hQ; subst hG
  refine tv_iload_n C dk_X9_readsRest_0 rfl ?_
  refine tv_case (x := x1) (c := 98) (fun h1 => ?_) (fun h1 => ?_)
  · have q1 := hq.1 h1
    refine tv_sw C dk_X9_readsRest_1_c98 h1 ?_
    refine tv_aload_n C dk_X9_readsRest_78 rfl ?_
    refine tv_ldcS (i := 20) C dk_X9_readsRest_79 (List.mem_of_getElem? (i := 20) rfl) ?_
    have q2 := q1.2
    refine tv_cV1 C dk_X9_readsRest_81 ml_RX9_217 yk_X9_isWord yi_X9_isWord (n_X9_isWord _ M 20 (by decide) q1.1) (Nat.le_of_ble_eq_true rfl) rfl rfl rfl rfl (Nat.le_of_ble_eq_true rfl) (Nat.le_of_ble_eq_true rfl) (Nat.le_of_ble_eq_true rfl) (Nat.le_of_ble_eq_true rfl) (Nat.le_of_ble_eq_true rfl) ?_
    refine tv_if_eq C dk_X9_readsRest_84 (fun h2 => ?_) (fun h2 => ?_)
    · have q3 := q2.1 h2
      refine tv_iconst (v := 0) C dk_X9_readsRest_128 (by decide) ?_
      exact tv_iret C hQ dk_X9_readsRest_129 rfl (by rw [f_X9_readsRest, if_pos h1, if_pos h2]) (by rw [f_X9_readsRest, if_pos h1, if_pos h2])
    have q4 := q2.2 h2
    refine tv_aload_n C dk_X9_readsRest_87 rfl ?_
    refine tv_iconst (v := 1) C dk_X9_readsRest_88 (by decide) ?_
    refine tv_iload_n C dk_X9_readsRest_89 rfl ?_
    refine tv_iconst (v := 1) C dk_X9_readsRest_90 (by decide) ?_
    refine tv_iadd C dk_X9_readsRest_91 ?_
    have q5 := q4.2
    refine tv_cV1 C dk_X9_readsRest_92 ml_RX9_212 yk_X9_isNumber yi_X9_isNumber (n_X9_isNumber _ ((f_X9_isWord M 20).2) 1 (x2 + 1) q4.1) (Nat.le_of_ble_eq_true rfl) rfl rfl rfl rfl (Nat.le_of_ble_eq_true rfl) (Nat.le_of_ble_eq_true rfl) (Nat.le_of_ble_eq_true rfl) (Nat.le_of_ble_eq_true rfl) (Nat.le_of_ble_eq_true rfl) ?_
    refine tv_if_eq C dk_X9_readsRest_95 (fun h3 => ?_) (fun h3 => ?_)
    · have q6 := q5.1 h3
      refine tv_iconst (v := 0) C dk_X9_readsRest_128 (by decide) ?_
      exact tv_iret C hQ dk_X9_readsRest_129 rfl (by rw [f_X9_readsRest, if_pos h1, if_neg h2, if_pos h3]) (by rw [f_X9_readsRest, if_pos h1, if_neg h2, if_pos h3])
    have q7 := q5.2 h3
    refine tv_aload_n C dk_X9_readsRest_98 rfl ?_
    refine tv_bipush (v := 38) C dk_X9_readsRest_99 (by decide) ?_
    refine tv_iconst (v := 1) C dk_X9_readsRest_101 (by decide) ?_
    refine tv_iload_n C dk_X9_readsRest_102 rfl ?_
    refine tv_iconst (v := 2) C dk_X9_readsRest_103 (by decide) ?_
    refine tv_iadd C dk_X9_readsRest_104 ?_
    have q8 := q7.2
    refine tv_cV1 C dk_X9_readsRest_105 ml_RX9_221 yk_X9_isNumberBehind yi_X9_isNumberBehind (m_X9_isNumberBehind _ ((f_X9_isNumber ((f_X9_isWord M 20).2) 1 (x2 + 1)).2) 38 1 (x2 + 2) q7.1) (Nat.le_of_ble_eq_true rfl) rfl rfl rfl rfl (Nat.le_of_ble_eq_true rfl) (Nat.le_of_ble_eq_true rfl) (Nat.le_of_ble_eq_true rfl) (Nat.le_of_ble_eq_true rfl) (Nat.le_of_ble_eq_true rfl) ?_
    refine tv_if_eq C dk_X9_readsRest_108 (fun h4 => ?_) (fun h4 => ?_)
    · have q9 := q8.1 h4
      refine tv_iconst (v := 0) C dk_X9_readsRest_128 (by decide) ?_
      exact tv_iret C hQ dk_X9_readsRest_129 rfl (by rw [f_X9_readsRest, if_pos h1, if_neg h2, if_neg h3, if_pos h4]) (by rw [f_X9_readsRest, if_pos h1, if_neg h2, if_neg h3, if_pos h4])
    have q10 := q8.2 h4
    refine tv_aload_n C dk_X9_readsRest_111 rfl ?_
    refine tv_bipush (v := 43) C dk_X9_readsRest_112 (by decide) ?_
    refine tv_iconst (v := 3) C dk_X9_readsRest_114 (by decide) ?_
    refine tv_iload_n C dk_X9_readsRest_115 rfl ?_
    refine tv_iconst (v := 3) C dk_X9_readsRest_116 (by decide) ?_
    refine tv_iadd C dk_X9_readsRest_117 ?_
    have q11 := q10.2
    refine tv_cV1 C dk_X9_readsRest_118 ml_RX9_221 yk_X9_isNumberBehind yi_X9_isNumberBehind (m_X9_isNumberBehind _ ((f_X9_isNumberBehind ((f_X9_isNumber ((f_X9_isWord M 20).2) 1 (x2 + 1)).2) 38 1 (x2 + 2)).2) 43 3 (x2 + 3) q10.1) (Nat.le_of_ble_eq_true rfl) rfl rfl rfl rfl (Nat.le_of_ble_eq_true rfl) (Nat.le_of_ble_eq_true rfl) (Nat.le_of_ble_eq_true rfl) (Nat.le_of_ble_eq_true rfl) (Nat.le_of_ble_eq_true rfl) ?_
    refine tv_if_eq C dk_X9_readsRest_121 (fun h5 => ?_) (fun h5 => ?_)
    · have q12 := q11.1 h5
      refine tv_iconst (v := 0) C dk_X9_readsRest_128 (by decide) ?_
      exact tv_iret C hQ dk_X9_readsRest_129 rfl (by rw [f_X9_readsRest, if_pos h1, if_neg h2, if_neg h3, if_neg h4, if_pos h5]) (by rw [f_X9_readsRest, if_pos h1, if_neg h2, if_neg h3, if_neg h4, if_pos h5])
    have q13 := q11.2 h5
    refine tv_iconst (v := 1) C dk_X9_readsRest_124 (by decide) ?_
    refine tv_goto C dk_X9_readsRest_125 ?_
    exact tv_iret C hQ dk_X9_readsRest_129 rfl (by rw [f_X9_readsRest, if_pos h1, if_neg h2, if_neg h3, if_neg h4, if_neg h5]) (by rw [f_X9_readsRest, if_pos h1, if_neg h2, if_neg h3, if_neg h4, if_neg h5])
  have q14 := hq.2 h1
  refine tv_case (x := x1) (c := 99) (fun h6 => ?_) (fun h6 => ?_)
  · have q15 := q14.1 h6
    refine tv_sw C dk_X9_readsRest_1_c99 h6 ?_
    refine tv_aload_n C dk_X9_readsRest_136 rfl ?_
    refine tv_iload_n C dk_X9_readsRest_137 rfl ?_
    have q16 := q15.2
    refine tv_cV1 C dk_X9_readsRest_138 ml_RX9_239 yk_X9_readsC yi_X9_readsC (m_X9_readsC _ M x2 q15.1) (Nat.le_of_ble_eq_true rfl) rfl rfl rfl rfl (Nat.le_of_ble_eq_true rfl) (Nat.le_of_ble_eq_true rfl) (Nat.le_of_ble_eq_true rfl) (Nat.le_of_ble_eq_true rfl) (Nat.le_of_ble_eq_true rfl) ?_
    exact tv_iret C hQ dk_X9_readsRest_141 (fz_X9_readsC) (by rw [f_X9_readsRest, if_neg h1, if_pos h6]) (by rw [f_X9_readsRest, if_neg h1, if_pos h6])
  have q17 := q14.2 h6
  refine tv_case (x := x1) (c := 104) (fun h7 => ?_) (fun h7 => ?_)
  · have q18 := q17.1 h7
    refine tv_sw C dk_X9_readsRest_1_c104 h7 ?_
    refine tv_aload_n C dk_X9_readsRest_52 rfl ?_
    refine tv_ldcS (i := 19) C dk_X9_readsRest_53 (List.mem_of_getElem? (i := 19) rfl) ?_
    have q19 := q18.2
    refine tv_cV1 C dk_X9_readsRest_55 ml_RX9_217 yk_X9_isWord yi_X9_isWord (n_X9_isWord _ M 19 (by decide) q18.1) (Nat.le_of_ble_eq_true rfl) rfl rfl rfl rfl (Nat.le_of_ble_eq_true rfl) (Nat.le_of_ble_eq_true rfl) (Nat.le_of_ble_eq_true rfl) (Nat.le_of_ble_eq_true rfl) (Nat.le_of_ble_eq_true rfl) ?_
    refine tv_if_eq C dk_X9_readsRest_58 (fun h8 => ?_) (fun h8 => ?_)
    · have q20 := q19.1 h8
      refine tv_iconst (v := 0) C dk_X9_readsRest_76 (by decide) ?_
      exact tv_iret C hQ dk_X9_readsRest_77 rfl (by rw [f_X9_readsRest, if_neg h1, if_neg h6, if_pos h7, if_pos h8]) (by rw [f_X9_readsRest, if_neg h1, if_neg h6, if_pos h7, if_pos h8])
    have q21 := q19.2 h8
    refine tv_aload_n C dk_X9_readsRest_61 rfl ?_
    refine tv_iconst (v := 3) C dk_X9_readsRest_62 (by decide) ?_
    refine tv_iload_n C dk_X9_readsRest_63 rfl ?_
    refine tv_iconst (v := 1) C dk_X9_readsRest_64 (by decide) ?_
    refine tv_iadd C dk_X9_readsRest_65 ?_
    have q22 := q21.2
    refine tv_cV1 C dk_X9_readsRest_66 ml_RX9_212 yk_X9_isNumber yi_X9_isNumber (n_X9_isNumber _ ((f_X9_isWord M 19).2) 3 (x2 + 1) q21.1) (Nat.le_of_ble_eq_true rfl) rfl rfl rfl rfl (Nat.le_of_ble_eq_true rfl) (Nat.le_of_ble_eq_true rfl) (Nat.le_of_ble_eq_true rfl) (Nat.le_of_ble_eq_true rfl) (Nat.le_of_ble_eq_true rfl) ?_
    refine tv_if_eq C dk_X9_readsRest_69 (fun h9 => ?_) (fun h9 => ?_)
    · have q23 := q22.1 h9
      refine tv_iconst (v := 0) C dk_X9_readsRest_76 (by decide) ?_
      exact tv_iret C hQ dk_X9_readsRest_77 rfl (by rw [f_X9_readsRest, if_neg h1, if_neg h6, if_pos h7, if_neg h8, if_pos h9]) (by rw [f_X9_readsRest, if_neg h1, if_neg h6, if_pos h7, if_neg h8, if_pos h9])
    have q24 := q22.2 h9
    refine tv_iconst (v := 1) C dk_X9_readsRest_72 (by decide) ?_
    refine tv_goto C dk_X9_readsRest_73 ?_
    exact tv_iret C hQ dk_X9_readsRest_77 rfl (by rw [f_X9_readsRest, if_neg h1, if_neg h6, if_pos h7, if_neg h8, if_neg h9]) (by rw [f_X9_readsRest, if_neg h1, if_neg h6, if_pos h7, if_neg h8, if_neg h9])
  have q25 := q17.2 h7
  refine tv_case (x := x1) (c := 112) (fun h10 => ?_) (fun h10 => ?_)
  · have q26 := q25.1 h10
    refine tv_sw C dk_X9_readsRest_1_c112 h10 ?_
    refine tv_aload_n C dk_X9_readsRest_142 rfl ?_
    refine tv_ldcS (i := 25) C dk_X9_readsRest_143 (List.mem_of_getElem? (i := 25) rfl) ?_
    have q27 := q26.2
    refine tv_cV1 C dk_X9_readsRest_145 ml_RX9_217 yk_X9_isWord yi_X9_isWord (n_X9_isWord _ M 25 (by decide) q26.1) (Nat.le_of_ble_eq_true rfl) rfl rfl rfl rfl (Nat.le_of_ble_eq_true rfl) (Nat.le_of_ble_eq_true rfl) (Nat.le_of_ble_eq_true rfl) (Nat.le_of_ble_eq_true rfl) (Nat.le_of_ble_eq_true rfl) ?_
    refine tv_if_eq C dk_X9_readsRest_148 (fun h11 => ?_) (fun h11 => ?_)
    · have q28 := q27.1 h11
      refine tv_iconst (v := 0) C dk_X9_readsRest_179 (by decide) ?_
      exact tv_iret C hQ dk_X9_readsRest_180 rfl (by rw [f_X9_readsRest, if_neg h1, if_neg h6, if_neg h7, if_pos h10, if_pos h11]) (by rw [f_X9_readsRest, if_neg h1, if_neg h6, if_neg h7, if_pos h10, if_pos h11])
    have q29 := q27.2 h11
    refine tv_aload_n C dk_X9_readsRest_151 rfl ?_
    refine tv_iconst (v := 1) C dk_X9_readsRest_152 (by decide) ?_
    refine tv_iload_n C dk_X9_readsRest_153 rfl ?_
    refine tv_iconst (v := 1) C dk_X9_readsRest_154 (by decide) ?_
    refine tv_iadd C dk_X9_readsRest_155 ?_
    have q30 := q29.2
    refine tv_cV1 C dk_X9_readsRest_156 ml_RX9_212 yk_X9_isNumber yi_X9_isNumber (n_X9_isNumber _ ((f_X9_isWord M 25).2) 1 (x2 + 1) q29.1) (Nat.le_of_ble_eq_true rfl) rfl rfl rfl rfl (Nat.le_of_ble_eq_true rfl) (Nat.le_of_ble_eq_true rfl) (Nat.le_of_ble_eq_true rfl) (Nat.le_of_ble_eq_true rfl) (Nat.le_of_ble_eq_true rfl) ?_
    refine tv_if_eq C dk_X9_readsRest_159 (fun h12 => ?_) (fun h12 => ?_)
    · have q31 := q30.1 h12
      refine tv_iconst (v := 0) C dk_X9_readsRest_179 (by decide) ?_
      exact tv_iret C hQ dk_X9_readsRest_180 rfl (by rw [f_X9_readsRest, if_neg h1, if_neg h6, if_neg h7, if_pos h10, if_neg h11, if_pos h12]) (by rw [f_X9_readsRest, if_neg h1, if_neg h6, if_neg h7, if_pos h10, if_neg h11, if_pos h12])
    have q32 := q30.2 h12
    refine tv_aload_n C dk_X9_readsRest_162 rfl ?_
    refine tv_bipush (v := 61) C dk_X9_readsRest_163 (by decide) ?_
    refine tv_iconst (v := 3) C dk_X9_readsRest_165 (by decide) ?_
    refine tv_iload_n C dk_X9_readsRest_166 rfl ?_
    refine tv_iconst (v := 2) C dk_X9_readsRest_167 (by decide) ?_
    refine tv_iadd C dk_X9_readsRest_168 ?_
    have q33 := q32.2
    refine tv_cV1 C dk_X9_readsRest_169 ml_RX9_221 yk_X9_isNumberBehind yi_X9_isNumberBehind (m_X9_isNumberBehind _ ((f_X9_isNumber ((f_X9_isWord M 25).2) 1 (x2 + 1)).2) 61 3 (x2 + 2) q32.1) (Nat.le_of_ble_eq_true rfl) rfl rfl rfl rfl (Nat.le_of_ble_eq_true rfl) (Nat.le_of_ble_eq_true rfl) (Nat.le_of_ble_eq_true rfl) (Nat.le_of_ble_eq_true rfl) (Nat.le_of_ble_eq_true rfl) ?_
    refine tv_if_eq C dk_X9_readsRest_172 (fun h13 => ?_) (fun h13 => ?_)
    · have q34 := q33.1 h13
      refine tv_iconst (v := 0) C dk_X9_readsRest_179 (by decide) ?_
      exact tv_iret C hQ dk_X9_readsRest_180 rfl (by rw [f_X9_readsRest, if_neg h1, if_neg h6, if_neg h7, if_pos h10, if_neg h11, if_neg h12, if_pos h13]) (by rw [f_X9_readsRest, if_neg h1, if_neg h6, if_neg h7, if_pos h10, if_neg h11, if_neg h12, if_pos h13])
    have q35 := q33.2 h13
    refine tv_iconst (v := 1) C dk_X9_readsRest_175 (by decide) ?_
    refine tv_goto C dk_X9_readsRest_176 ?_
    exact tv_iret C hQ dk_X9_readsRest_180 rfl (by rw [f_X9_readsRest, if_neg h1, if_neg h6, if_neg h7, if_pos h10, if_neg h11, if_neg h12, if_neg h13]) (by rw [f_X9_readsRest, if_neg h1, if_neg h6, if_neg h7, if_pos h10, if_neg h11, if_neg h12, if_neg h13])
  have q36 := q25.2 h10
  refine tv_case (x := x1) (c := 116) (fun h14 => ?_) (fun h14 => ?_)
  · have q37 := q36.1 h14
    refine tv_sw C dk_X9_readsRest_1_c116 h14 ?_
    refine tv_aload_n C dk_X9_readsRest_130 rfl ?_
    refine tv_iload_n C dk_X9_readsRest_131 rfl ?_
    have q38 := q37.2
    refine tv_cV1 C dk_X9_readsRest_132 ml_RX9_236 yk_X9_readsT yi_X9_readsT (m_X9_readsT _ M x2 q37.1) (Nat.le_of_ble_eq_true rfl) rfl rfl rfl rfl (Nat.le_of_ble_eq_true rfl) (Nat.le_of_ble_eq_true rfl) (Nat.le_of_ble_eq_true rfl) (Nat.le_of_ble_eq_true rfl) (Nat.le_of_ble_eq_true rfl) ?_
    exact tv_iret C hQ dk_X9_readsRest_135 (fz_X9_readsT) (by rw [f_X9_readsRest, if_neg h1, if_neg h6, if_neg h7, if_neg h10, if_pos h14]) (by rw [f_X9_readsRest, if_neg h1, if_neg h6, if_neg h7, if_neg h10, if_pos h14])
  have q39 := q36.2 h14
  refine tv_swd C (dk_X9_readsRest_1_d h1 h6 h7 h10 h14) ?_
  refine tv_aload_n C dk_X9_readsRest_181 rfl ?_
  refine tv_iload_n C dk_X9_readsRest_182 rfl ?_
  have q40 := q39.2
  refine tv_cV1 C dk_X9_readsRest_183 ml_RX9_244 yk_X9_readsWait yi_X9_readsWait (m_X9_readsWait _ M x2 q39.1) (Nat.le_of_ble_eq_true rfl) rfl rfl rfl rfl (Nat.le_of_ble_eq_true rfl) (Nat.le_of_ble_eq_true rfl) (Nat.le_of_ble_eq_true rfl) (Nat.le_of_ble_eq_true rfl) (Nat.le_of_ble_eq_true rfl) ?_
  exact tv_iret C hQ dk_X9_readsRest_186 (fz_X9_readsWait) (by rw [f_X9_readsRest, if_neg h1, if_neg h6, if_neg h7, if_neg h10, if_neg h14]) (by rw [f_X9_readsRest, if_neg h1, if_neg h6, if_neg h7, if_neg h10, if_neg h14])
theorem fz_X9_readsRest {M : tvM} {x1 : Int32} {x2 : Int32} : narrow .boolean (.int (f_X9_readsRest M x1 x2).1) = .int ((f_X9_readsRest M x1 x2).1) := by
  unfold f_X9_readsRest; repeat' split
  all_goals try dsimp only
  all_goals first | simp only [fz_X9_readsC, fz_X9_readsT, fz_X9_readsWait] | rfl
/-- TideVaultModel.readsCommand()Z -/
def f_X9_readsCommand (M : tvM) : Int32 × tvM := (if (f_X9_isFirst M (f_X9_now M)) = 0 then (0, M) else ((f_X9_readsRest (tpi (tpi (tpi M 256 (4 * (tgi M 249 17)).toNatClampNeg (f_X9_now M)) 249 16 ((tgi (tpi M 256 (4 * (tgi M 249 17)).toNatClampNeg (f_X9_now M)) 249 16) + 1)) 249 17 ((tgi (tpi (tpi M 256 (4 * (tgi M 249 17)).toNatClampNeg (f_X9_now M)) 249 16 ((tgi (tpi M 256 (4 * (tgi M 249 17)).toNatClampNeg (f_X9_now M)) 249 16) + 1)) 249 17) + 1)) (f_X9_now M) (4 * (tgi M 249 17))).1, (f_X9_readsRest (tpi (tpi (tpi M 256 (4 * (tgi M 249 17)).toNatClampNeg (f_X9_now M)) 249 16 ((tgi (tpi M 256 (4 * (tgi M 249 17)).toNatClampNeg (f_X9_now M)) 249 16) + 1)) 249 17 ((tgi (tpi (tpi M 256 (4 * (tgi M 249 17)).toNatClampNeg (f_X9_now M)) 249 16 ((tgi (tpi M 256 (4 * (tgi M 249 17)).toNatClampNeg (f_X9_now M)) 249 16) + 1)) 249 17) + 1)) (f_X9_now M) (4 * (tgi M 249 17))).2))
def q_X9_readsCommand (M : tvM) : Prop := ((q_X9_now M) ∧ (((f_X9_isFirst M (f_X9_now M)) = 0 → True) ∧ (¬ (f_X9_isFirst M (f_X9_now M)) = 0 → (vp_in (4 * (tgi M 249 17)) 124 ∧ ((q_X9_readsRest (tpi (tpi (tpi M 256 (4 * (tgi M 249 17)).toNatClampNeg (f_X9_now M)) 249 16 ((tgi (tpi M 256 (4 * (tgi M 249 17)).toNatClampNeg (f_X9_now M)) 249 16) + 1)) 249 17 ((tgi (tpi (tpi M 256 (4 * (tgi M 249 17)).toNatClampNeg (f_X9_now M)) 249 16 ((tgi (tpi M 256 (4 * (tgi M 249 17)).toNatClampNeg (f_X9_now M)) 249 16) + 1)) 249 17) + 1)) (f_X9_now M) (4 * (tgi M 249 17))) ∧ True)))))
theorem m_X9_readsCommand (G : tvG) (M : tvM) (hq : q_X9_readsCommand M) : tvRun G yX9_readsCommand cX9_readsCommand 3 (some .boolean) 8 0 0 tvP0 tvP0 [.ref (G.2.1 + 249)] M (.inl (some (.int (f_X9_readsCommand M).1))) ((f_X9_readsCommand M).2) := by
  refine tvRun.of yk_X9_readsCommand rfl [some (.ref (G.2.1 + 249)), none, none] rfl (Nat.le_of_ble_eq_true rfl) ?_
  intro E hG C hQ; subst hG
  refine tv_iconst (v := 4) C dk_X9_readsCommand_0 (by decide) ?_
  refine tv_aload_n C dk_X9_readsCommand_1 rfl ?_
  refine tv_getI C dk_X9_readsCommand_2 fl_RX9_247 (Nat.le_of_ble_eq_true rfl) rfl (fun _ _ _ _ => rfl) ?_
  refine tv_imul C dk_X9_readsCommand_5 ?_
  refine tv_istore_n (L' := [_, _, _]) (hn := by decide) (hlt := (Nat.le_of_ble_eq_true rfl)) (hno := rfl) C dk_X9_readsCommand_6 rfl ?_
  refine tv_aload_n C dk_X9_readsCommand_7 rfl ?_
  have q1 := hq.2
  refine tv_cV1 C dk_X9_readsCommand_8 ml_RX9_202 yk_X9_now yi_X9_now (m_X9_now _ M hq.1) (Nat.le_of_ble_eq_true rfl) rfl rfl rfl rfl (Nat.le_of_ble_eq_true rfl) (Nat.le_of_ble_eq_true rfl) (Nat.le_of_ble_eq_true rfl) (Nat.le_of_ble_eq_true rfl) (Nat.le_of_ble_eq_true rfl) ?_
  refine tv_istore_n (L' := [_, _, _]) (hn := by decide) (hlt := (Nat.le_of_ble_eq_true rfl)) (hno := rfl) C dk_X9_readsCommand_11 rfl ?_
  refine tv_iload_n C dk_X9_readsCommand_12 rfl ?_
  refine tv_cS1 C dk_X9_readsCommand_13 ml_RX9_250 yk_X9_isFirst yi_X9_isFirst (m_X9_isFirst _ M (f_X9_now M)) rfl rfl (Nat.le_of_ble_eq_true rfl) (Nat.le_of_ble_eq_true rfl) (Nat.le_of_ble_eq_true rfl) (Nat.le_of_ble_eq_true rfl) (Nat.le_of_ble_eq_true rfl) ?_
  refine tv_if_ne C dk_X9_readsCommand_16 (fun h1 => ?_) (fun h1 => ?_)
  · have q2 := q1.2 h1
    refine tv_aload_n C dk_X9_readsCommand_21 rfl ?_
    refine tv_getR (r := 256) C dk_X9_readsCommand_22 fl_RX9_35 (Nat.le_of_ble_eq_true rfl) rfl rfl (fun _ _ _ _ => rfl) ?_
    refine tv_iload_n C dk_X9_readsCommand_25 rfl ?_
    refine tv_iload_n C dk_X9_readsCommand_26 rfl ?_
    have q3 := q2.2
    refine tv_iast (j := (4 * (tgi M 249 17)).toNatClampNeg) rfl C tvP0_ex dk_X9_readsCommand_27 (Nat.le_of_ble_eq_true rfl) rfl q2.1 ?_
    refine tv_aload_n C dk_X9_readsCommand_28 rfl ?_
    refine tv_dup C dk_X9_readsCommand_29 rfl ?_
    refine tv_getI C dk_X9_readsCommand_30 fl_RX9_199 (Nat.le_of_ble_eq_true rfl) rfl (fun _ _ _ _ => rfl) ?_
    refine tv_iconst (v := 1) C dk_X9_readsCommand_33 (by decide) ?_
    refine tv_iadd C dk_X9_readsCommand_34 ?_
    refine tv_putI C tvP0_ex dk_X9_readsCommand_35 fl_RX9_199 fw_9_16 (Nat.le_of_ble_eq_true rfl) rfl rfl (fun _ _ _ _ _ => rfl) rfl rfl ?_
    refine tv_aload_n C dk_X9_readsCommand_38 rfl ?_
    refine tv_dup C dk_X9_readsCommand_39 rfl ?_
    refine tv_getI C dk_X9_readsCommand_40 fl_RX9_247 (Nat.le_of_ble_eq_true rfl) rfl (fun _ _ _ _ => rfl) ?_
    refine tv_iconst (v := 1) C dk_X9_readsCommand_43 (by decide) ?_
    refine tv_iadd C dk_X9_readsCommand_44 ?_
    refine tv_putI C tvP0_ex dk_X9_readsCommand_45 fl_RX9_247 fw_9_17 (Nat.le_of_ble_eq_true rfl) rfl rfl (fun _ _ _ _ _ => rfl) rfl rfl ?_
    refine tv_aload_n C dk_X9_readsCommand_48 rfl ?_
    refine tv_iload_n C dk_X9_readsCommand_49 rfl ?_
    refine tv_iload_n C dk_X9_readsCommand_50 rfl ?_
    have q4 := q3.2
    refine tv_cV1 C dk_X9_readsCommand_51 ml_RX9_253 yk_X9_readsRest yi_X9_readsRest (m_X9_readsRest _ (tpi (tpi (tpi M 256 (4 * (tgi M 249 17)).toNatClampNeg (f_X9_now M)) 249 16 ((tgi (tpi M 256 (4 * (tgi M 249 17)).toNatClampNeg (f_X9_now M)) 249 16) + 1)) 249 17 ((tgi (tpi (tpi M 256 (4 * (tgi M 249 17)).toNatClampNeg (f_X9_now M)) 249 16 ((tgi (tpi M 256 (4 * (tgi M 249 17)).toNatClampNeg (f_X9_now M)) 249 16) + 1)) 249 17) + 1)) (f_X9_now M) (4 * (tgi M 249 17)) q3.1) (Nat.le_of_ble_eq_true rfl) rfl rfl rfl rfl (Nat.le_of_ble_eq_true rfl) (Nat.le_of_ble_eq_true rfl) (Nat.le_of_ble_eq_true rfl) (Nat.le_of_ble_eq_true rfl) (Nat.le_of_ble_eq_true rfl) ?_
    exact tv_iret C hQ dk_X9_readsCommand_54 (fz_X9_readsRest) (by rw [f_X9_readsCommand, if_neg h1]) (by rw [f_X9_readsCommand, if_neg h1])
  have q5 := q1.1 h1
  refine tv_iconst (v := 0) C dk_X9_readsCommand_19 (by decide) ?_
  exact tv_iret C hQ dk_X9_readsCommand_20 rfl (by rw [f_X9_readsCommand, if_pos h1]) (by rw [f_X9_readsCommand, if_pos h1])
theorem fz_X9_readsCommand {M : tvM} : narrow .boolean (.int (f_X9_readsCommand M).1) = .int ((f_X9_readsCommand M).1) := by
  unfold f_X9_readsCommand; repeat' split
  all_goals try dsimp only
  all_goals first | simp only [fz_X9_readsRest] | rfl
/-- TideVaultModel.isProgram()Z -/
def sb_X9_isProgram (y1 : Int32) (M : tvM) : (Int32 × tvM) ⊕ (Int32 × tvM) := (if y1 = 0 then .inr (0, M) else (if (f_X9_isSign M 59).1 = 0 then (if (tgi ((f_X9_isSign M 59).2) 249 16) = (tgi ((f_X9_isSign M 59).2) 249 15) then .inr (1, (f_X9_isSign M 59).2) else .inr (0, (f_X9_isSign M 59).2)) else .inl ((f_X9_readsCommand ((f_X9_isSign M 59).2)).1, (f_X9_readsCommand ((f_X9_isSign M 59).2)).2)))
def s_X9_isProgram : (Int32 × tvM) → (Int32 × tvM) ⊕ (Int32 × tvM) := fun q => sb_X9_isProgram q.1 q.2
def e_X9_isProgram (M : tvM) : (Int32 × tvM) ⊕ (Int32 × tvM) := .inl ((f_X9_readsCommand (tpi (tpi M 249 16 0) 249 17 0)).1, (f_X9_readsCommand (tpi (tpi M 249 16 0) 249 17 0)).2)
def qb_X9_isProgram (y1 : Int32) (M : tvM) : Prop := ((y1 = 0 → True) ∧ (¬ y1 = 0 → ((q_X9_isSign M 59) ∧ (((f_X9_isSign M 59).1 = 0 → (((tgi ((f_X9_isSign M 59).2) 249 16) = (tgi ((f_X9_isSign M 59).2) 249 15) → True) ∧ (¬ (tgi ((f_X9_isSign M 59).2) 249 16) = (tgi ((f_X9_isSign M 59).2) 249 15) → True))) ∧ (¬ (f_X9_isSign M 59).1 = 0 → ((q_X9_readsCommand ((f_X9_isSign M 59).2)) ∧ True))))))
def qs_X9_isProgram : (Int32 × tvM) → Prop := fun q => qb_X9_isProgram q.1 q.2
def qe_X9_isProgram (M : tvM) : Prop := ((q_X9_readsCommand (tpi (tpi M 249 16 0) 249 17 0)) ∧ True)
theorem m_X9_isProgram (G : tvG) (M : tvM) (n : Nat) (r : (Int32 × tvM)) (hs : tvIter (s_X9_isProgram) n (e_X9_isProgram M) = some r) (hq : qe_X9_isProgram M) (hqn : tvQ (s_X9_isProgram) (qs_X9_isProgram) n (e_X9_isProgram M)) : tvRun G yX9_isProgram cX9_isProgram 2 (some .boolean) 9 0 0 tvP0 tvP0 [.ref (G.2.1 + 249)] M (.inl (some (.int r.1))) r.2 := by
  refine tvRun.of yk_X9_isProgram rfl [some (.ref (G.2.1 + 249)), none] rfl (Nat.le_of_ble_eq_true rfl) ?_
  intro E hG C hQ; subst hG
  have K : ∀ (n : Nat) (y1 : Int32) (M : tvM), tvQ (s_X9_isProgram) (qs_X9_isProgram) n (.inl (y1, M)) → tvIter (s_X9_isProgram) n (.inl (y1, M)) = some r → tv_W E tvP0 0 0 M 15 [some (.ref (E.G.2.1 + 249)), some (.int y1)] [] := by
    intro n
    induction n with
    | zero => intro y1 M hqq hz; exact (tvIter_0 hz).elim
    | succ n ih =>
      intro y1 M hqq hz
      have hs : tvIter (s_X9_isProgram) n (sb_X9_isProgram y1 M) = some r := by have h9 := tvIter_go hz; exact h9
      have hqn : tvQ (s_X9_isProgram) (qs_X9_isProgram) n (sb_X9_isProgram y1 M) := by have h9 := (tvQ_go hqq).2; exact h9
      have hq : qb_X9_isProgram y1 M := by have h9 := (tvQ_go hqq).1; exact h9
      refine tv_iload_n C dk_X9_isProgram_15 rfl ?_
      refine tv_if_eq C dk_X9_isProgram_16 (fun h101 => ?_) (fun h101 => ?_)
      · have q1 := hq.1 h101
        refine tv_iload_n C dk_X9_isProgram_36 rfl ?_
        refine tv_if_eq C dk_X9_isProgram_37 (fun _ => ?_) (fun h => absurd h101 h)
        refine tv_iconst (v := 0) C dk_X9_isProgram_55 (by decide) ?_
        exact tv_iret C hQ dk_X9_isProgram_56 rfl (by rw [sb_X9_isProgram, if_pos h101] at hs; rw [← tvIter_out hs]) (by rw [sb_X9_isProgram, if_pos h101] at hs; rw [← tvIter_out hs])
      have q2 := hq.2 h101
      refine tv_aload_n C dk_X9_isProgram_19 rfl ?_
      refine tv_bipush (v := 59) C dk_X9_isProgram_20 (by decide) ?_
      have q3 := q2.2
      refine tv_cV1 C dk_X9_isProgram_22 ml_RX9_209 yk_X9_isSign yi_X9_isSign (m_X9_isSign _ M 59 q2.1) (Nat.le_of_ble_eq_true rfl) rfl rfl rfl rfl (Nat.le_of_ble_eq_true rfl) (Nat.le_of_ble_eq_true rfl) (Nat.le_of_ble_eq_true rfl) (Nat.le_of_ble_eq_true rfl) (Nat.le_of_ble_eq_true rfl) ?_
      refine tv_if_eq C dk_X9_isProgram_25 (fun h103 => ?_) (fun h103 => ?_)
      · have q4 := q3.1 h103
        refine tv_iload_n C dk_X9_isProgram_36 rfl ?_
        refine tv_if_eq C dk_X9_isProgram_37 (fun h => absurd h h101) (fun _ => ?_)
        refine tv_aload_n C dk_X9_isProgram_40 rfl ?_
        refine tv_getI C dk_X9_isProgram_41 fl_RX9_199 (Nat.le_of_ble_eq_true rfl) rfl (fun _ _ _ _ => rfl) ?_
        refine tv_aload_n C dk_X9_isProgram_44 rfl ?_
        refine tv_getI C dk_X9_isProgram_45 fl_RX9_196 (Nat.le_of_ble_eq_true rfl) rfl (fun _ _ _ _ => rfl) ?_
        refine tv_icmp_ne C dk_X9_isProgram_48 (fun h105 => ?_) (fun h105 => ?_)
        · have q5 := q4.2 h105
          refine tv_iconst (v := 0) C dk_X9_isProgram_55 (by decide) ?_
          exact tv_iret C hQ dk_X9_isProgram_56 rfl (by rw [sb_X9_isProgram, if_neg h101, if_pos h103, if_neg h105] at hs; rw [← tvIter_out hs]) (by rw [sb_X9_isProgram, if_neg h101, if_pos h103, if_neg h105] at hs; rw [← tvIter_out hs])
        have q6 := q4.1 h105
        refine tv_iconst (v := 1) C dk_X9_isProgram_51 (by decide) ?_
        refine tv_goto C dk_X9_isProgram_52 ?_
        exact tv_iret C hQ dk_X9_isProgram_56 rfl (by rw [sb_X9_isProgram, if_neg h101, if_pos h103, if_pos h105] at hs; rw [← tvIter_out hs]) (by rw [sb_X9_isProgram, if_neg h101, if_pos h103, if_pos h105] at hs; rw [← tvIter_out hs])
      have q7 := q3.2 h103
      refine tv_aload_n C dk_X9_isProgram_28 rfl ?_
      have q8 := q7.2
      refine tv_cV1 C dk_X9_isProgram_29 ml_RX9_256 yk_X9_readsCommand yi_X9_readsCommand (m_X9_readsCommand _ ((f_X9_isSign M 59).2) q7.1) (Nat.le_of_ble_eq_true rfl) rfl rfl rfl rfl (Nat.le_of_ble_eq_true rfl) (Nat.le_of_ble_eq_true rfl) (Nat.le_of_ble_eq_true rfl) (Nat.le_of_ble_eq_true rfl) (Nat.le_of_ble_eq_true rfl) ?_
      refine tv_istore_n (L' := [_, _]) (hn := by decide) (hlt := (Nat.le_of_ble_eq_true rfl)) (hno := rfl) C dk_X9_isProgram_32 rfl ?_
      refine tv_goto C dk_X9_isProgram_33 ?_
      exact (ih ((f_X9_readsCommand ((f_X9_isSign M 59).2)).1) ((f_X9_readsCommand ((f_X9_isSign M 59).2)).2) (by rw [sb_X9_isProgram, if_neg h101, if_neg h103] at hqn; exact hqn) (by rw [sb_X9_isProgram, if_neg h101, if_neg h103] at hs; exact hs))
  refine tv_aload_n C dk_X9_isProgram_0 rfl ?_
  refine tv_iconst (v := 0) C dk_X9_isProgram_1 (by decide) ?_
  refine tv_putI C tvP0_ex dk_X9_isProgram_2 fl_RX9_199 fw_9_16 (Nat.le_of_ble_eq_true rfl) rfl rfl (fun _ _ _ _ _ => rfl) rfl rfl ?_
  refine tv_aload_n C dk_X9_isProgram_5 rfl ?_
  refine tv_iconst (v := 0) C dk_X9_isProgram_6 (by decide) ?_
  refine tv_putI C tvP0_ex dk_X9_isProgram_7 fl_RX9_247 fw_9_17 (Nat.le_of_ble_eq_true rfl) rfl rfl (fun _ _ _ _ _ => rfl) rfl rfl ?_
  refine tv_aload_n C dk_X9_isProgram_10 rfl ?_
  have q1 := hq.2
  refine tv_cV1 C dk_X9_isProgram_11 ml_RX9_256 yk_X9_readsCommand yi_X9_readsCommand (m_X9_readsCommand _ (tpi (tpi M 249 16 0) 249 17 0) hq.1) (Nat.le_of_ble_eq_true rfl) rfl rfl rfl rfl (Nat.le_of_ble_eq_true rfl) (Nat.le_of_ble_eq_true rfl) (Nat.le_of_ble_eq_true rfl) (Nat.le_of_ble_eq_true rfl) (Nat.le_of_ble_eq_true rfl) ?_
  refine tv_istore_n (L' := [_, _]) (hn := by decide) (hlt := (Nat.le_of_ble_eq_true rfl)) (hno := rfl) C dk_X9_isProgram_14 rfl ?_
  exact (K n ((f_X9_readsCommand (tpi (tpi M 249 16 0) 249 17 0)).1) ((f_X9_readsCommand (tpi (tpi M 249 16 0) 249 17 0)).2) (by rw [e_X9_isProgram] at hqn; exact hqn) (by rw [e_X9_isProgram] at hs; exact hs))
def f_X9_isProgram (M : tvM) : (Int32 × tvM) := (tvIter (s_X9_isProgram) 5000 (e_X9_isProgram M)).getD (0, M)
def q_X9_isProgram (M : tvM) : Prop := qe_X9_isProgram M ∧ (∃ r, tvIter (s_X9_isProgram) 5000 (e_X9_isProgram M) = some r) ∧ tvQ (s_X9_isProgram) (qs_X9_isProgram) 5000 (e_X9_isProgram M)
theorem n_X9_isProgram (G : tvG) (M : tvM) (hq : q_X9_isProgram M) : tvRun G yX9_isProgram cX9_isProgram 2 (some .boolean) 9 0 0 tvP0 tvP0 [.ref (G.2.1 + 249)] M (.inl (some (.int (f_X9_isProgram M).1))) ((f_X9_isProgram M).2) := by
  obtain ⟨h1, ⟨r, h2⟩, h3⟩ := hq
  have h4 : f_X9_isProgram M = r := by show (tvIter _ _ _).getD _ = _; rw [h2]; rfl
  rw [h4]
  exact m_X9_isProgram G M _ r h2 h1 h3
/-- TideVaultModel.does(I)I -/
def f_X9_does (M : tvM) (x1 : Int32) : Int32 × tvM := (if (tgi M 256 x1.toNatClampNeg) = 97 then ((f_X9_withdraws M (tgi M 256 (x1 + 1).toNatClampNeg)).1, (f_X9_withdraws M (tgi M 256 (x1 + 1).toNatClampNeg)).2) else (if (tgi M 256 x1.toNatClampNeg) = 98 then ((f_X9_boxed M (tgi M 256 (x1 + 1).toNatClampNeg) (tgi M 256 (x1 + 2).toNatClampNeg) (tgi M 256 (x1 + 3).toNatClampNeg)).1, (f_X9_boxed M (tgi M 256 (x1 + 1).toNatClampNeg) (tgi M 256 (x1 + 2).toNatClampNeg) (tgi M 256 (x1 + 3).toNatClampNeg)).2) else (if (tgi M 256 x1.toNatClampNeg) = 99 then ((f_X9_codes M (tgi M 256 (x1 + 1).toNatClampNeg) (tgi M 256 (x1 + 2).toNatClampNeg) (tgi M 256 (x1 + 3).toNatClampNeg)).1, (f_X9_codes M (tgi M 256 (x1 + 1).toNatClampNeg) (tgi M 256 (x1 + 2).toNatClampNeg) (tgi M 256 (x1 + 3).toNatClampNeg)).2) else (if (tgi M 256 x1.toNatClampNeg) = 100 then ((f_X9_waits M (tgi M 256 (x1 + 1).toNatClampNeg)).1, (f_X9_waits M (tgi M 256 (x1 + 1).toNatClampNeg)).2) else (if (tgi M 256 x1.toNatClampNeg) = 101 then ((f_X9_waits M (tgi M 256 (x1 + 1).toNatClampNeg)).1, (f_X9_waits M (tgi M 256 (x1 + 1).toNatClampNeg)).2) else (if (tgi M 256 x1.toNatClampNeg) = 102 then ((f_X9_waits M (tgi M 256 (x1 + 1).toNatClampNeg)).1, (f_X9_waits M (tgi M 256 (x1 + 1).toNatClampNeg)).2) else (if (tgi M 256 x1.toNatClampNeg) = 103 then ((f_X9_waits M (tgi M 256 (x1 + 1).toNatClampNeg)).1, (f_X9_waits M (tgi M 256 (x1 + 1).toNatClampNeg)).2) else (if (tgi M 256 x1.toNatClampNeg) = 104 then ((f_X9_holds M (tgi M 256 (x1 + 1).toNatClampNeg)).1, (f_X9_holds M (tgi M 256 (x1 + 1).toNatClampNeg)).2) else (if (tgi M 256 x1.toNatClampNeg) = 105 then ((f_X9_tides M (tgi M 256 (x1 + 1).toNatClampNeg) (tgi M 256 (x1 + 2).toNatClampNeg)).1, (f_X9_tides M (tgi M 256 (x1 + 1).toNatClampNeg) (tgi M 256 (x1 + 2).toNatClampNeg)).2) else (if (tgi M 256 x1.toNatClampNeg) = 106 then ((f_X9_waits M (tgi M 256 (x1 + 1).toNatClampNeg)).1, (f_X9_waits M (tgi M 256 (x1 + 1).toNatClampNeg)).2) else (if (tgi M 256 x1.toNatClampNeg) = 107 then ((f_X9_waits M (tgi M 256 (x1 + 1).toNatClampNeg)).1, (f_X9_waits M (tgi M 256 (x1 + 1).toNatClampNeg)).2) else (if (tgi M 256 x1.toNatClampNeg) = 108 then ((f_X9_closes M (tgi M 256 (x1 + 1).toNatClampNeg)).1, (f_X9_closes M (tgi M 256 (x1 + 1).toNatClampNeg)).2) else (if (tgi M 256 x1.toNatClampNeg) = 109 then ((f_X9_waits M (tgi M 256 (x1 + 1).toNatClampNeg)).1, (f_X9_waits M (tgi M 256 (x1 + 1).toNatClampNeg)).2) else (if (tgi M 256 x1.toNatClampNeg) = 110 then ((f_X9_waits M (tgi M 256 (x1 + 1).toNatClampNeg)).1, (f_X9_waits M (tgi M 256 (x1 + 1).toNatClampNeg)).2) else (if (tgi M 256 x1.toNatClampNeg) = 111 then ((f_X9_waits M (tgi M 256 (x1 + 1).toNatClampNeg)).1, (f_X9_waits M (tgi M 256 (x1 + 1).toNatClampNeg)).2) else (if (tgi M 256 x1.toNatClampNeg) = 112 then ((f_X9_deposits M (tgi M 256 (x1 + 1).toNatClampNeg) (tgi M 256 (x1 + 2).toNatClampNeg)).1, (f_X9_deposits M (tgi M 256 (x1 + 1).toNatClampNeg) (tgi M 256 (x1 + 2).toNatClampNeg)).2) else (if (tgi M 256 x1.toNatClampNeg) = 113 then ((f_X9_waits M (tgi M 256 (x1 + 1).toNatClampNeg)).1, (f_X9_waits M (tgi M 256 (x1 + 1).toNatClampNeg)).2) else (if (tgi M 256 x1.toNatClampNeg) = 114 then ((f_X9_waits M (tgi M 256 (x1 + 1).toNatClampNeg)).1, (f_X9_waits M (tgi M 256 (x1 + 1).toNatClampNeg)).2) else (if (tgi M 256 x1.toNatClampNeg) = 115 then ((f_X9_waits M (tgi M 256 (x1 + 1).toNatClampNeg)).1, (f_X9_waits M (tgi M 256 (x1 + 1).toNatClampNeg)).2) else (if (tgi M 256 x1.toNatClampNeg) = 116 then ((f_X9_turns M (tgi M 256 (x1 + 1).toNatClampNeg) (tgi M 256 (x1 + 2).toNatClampNeg) (tgi M 256 (x1 + 3).toNatClampNeg)).1, (f_X9_turns M (tgi M 256 (x1 + 1).toNatClampNeg) (tgi M 256 (x1 + 2).toNatClampNeg) (tgi M 256 (x1 + 3).toNatClampNeg)).2) else ((f_X9_waits M (tgi M 256 (x1 + 1).toNatClampNeg)).1, (f_X9_waits M (tgi M 256 (x1 + 1).toNatClampNeg)).2)))))))))))))))))))))
def q_X9_does (M : tvM) (x1 : Int32) : Prop := (vp_in (x1 + 1) 124 ∧ (vp_in (x1 + 2) 124 ∧ (vp_in (x1 + 3) 124 ∧ (vp_in x1 124 ∧ (((tgi M 256 x1.toNatClampNeg) = 97 → ((q_X9_withdraws M (tgi M 256 (x1 + 1).toNatClampNeg)) ∧ True)) ∧ (¬ (tgi M 256 x1.toNatClampNeg) = 97 → (((tgi M 256 x1.toNatClampNeg) = 98 → ((q_X9_boxed M (tgi M 256 (x1 + 1).toNatClampNeg) (tgi M 256 (x1 + 2).toNatClampNeg) (tgi M 256 (x1 + 3).toNatClampNeg)) ∧ True)) ∧ (¬ (tgi M 256 x1.toNatClampNeg) = 98 → (((tgi M 256 x1.toNatClampNeg) = 99 → ((q_X9_codes M (tgi M 256 (x1 + 1).toNatClampNeg) (tgi M 256 (x1 + 2).toNatClampNeg) (tgi M 256 (x1 + 3).toNatClampNeg)) ∧ True)) ∧ (¬ (tgi M 256 x1.toNatClampNeg) = 99 → (((tgi M 256 x1.toNatClampNeg) = 100 → ((q_X9_waits M (tgi M 256 (x1 + 1).toNatClampNeg)) ∧ True)) ∧ (¬ (tgi M 256 x1.toNatClampNeg) = 100 → (((tgi M 256 x1.toNatClampNeg) = 101 → ((q_X9_waits M (tgi M 256 (x1 + 1).toNatClampNeg)) ∧ True)) ∧ (¬ (tgi M 256 x1.toNatClampNeg) = 101 → (((tgi M 256 x1.toNatClampNeg) = 102 → ((q_X9_waits M (tgi M 256 (x1 + 1).toNatClampNeg)) ∧ True)) ∧ (¬ (tgi M 256 x1.toNatClampNeg) = 102 → (((tgi M 256 x1.toNatClampNeg) = 103 → ((q_X9_waits M (tgi M 256 (x1 + 1).toNatClampNeg)) ∧ True)) ∧ (¬ (tgi M 256 x1.toNatClampNeg) = 103 → (((tgi M 256 x1.toNatClampNeg) = 104 → ((q_X9_holds M (tgi M 256 (x1 + 1).toNatClampNeg)) ∧ True)) ∧ (¬ (tgi M 256 x1.toNatClampNeg) = 104 → (((tgi M 256 x1.toNatClampNeg) = 105 → True) ∧ (¬ (tgi M 256 x1.toNatClampNeg) = 105 → (((tgi M 256 x1.toNatClampNeg) = 106 → ((q_X9_waits M (tgi M 256 (x1 + 1).toNatClampNeg)) ∧ True)) ∧ (¬ (tgi M 256 x1.toNatClampNeg) = 106 → (((tgi M 256 x1.toNatClampNeg) = 107 → ((q_X9_waits M (tgi M 256 (x1 + 1).toNatClampNeg)) ∧ True)) ∧ (¬ (tgi M 256 x1.toNatClampNeg) = 107 → (((tgi M 256 x1.toNatClampNeg) = 108 → ((q_X9_closes M (tgi M 256 (x1 + 1).toNatClampNeg)) ∧ True)) ∧ (¬ (tgi M 256 x1.toNatClampNeg) = 108 → (((tgi M 256 x1.toNatClampNeg) = 109 → ((q_X9_waits M (tgi M 256 (x1 + 1).toNatClampNeg)) ∧ True)) ∧ (¬ (tgi M 256 x1.toNatClampNeg) = 109 → (((tgi M 256 x1.toNatClampNeg) = 110 → ((q_X9_waits M (tgi M 256 (x1 + 1).toNatClampNeg)) ∧ True)) ∧ (¬ (tgi M 256 x1.toNatClampNeg) = 110 → (((tgi M 256 x1.toNatClampNeg) = 111 → ((q_X9_waits M (tgi M 256 (x1 + 1).toNatClampNeg)) ∧ True)) ∧ (¬ (tgi M 256 x1.toNatClampNeg) = 111 → (((tgi M 256 x1.toNatClampNeg) = 112 → ((q_X9_deposits M (tgi M 256 (x1 + 1).toNatClampNeg) (tgi M 256 (x1 + 2).toNatClampNeg)) ∧ True)) ∧ (¬ (tgi M 256 x1.toNatClampNeg) = 112 → (((tgi M 256 x1.toNatClampNeg) = 113 → ((q_X9_waits M (tgi M 256 (x1 + 1).toNatClampNeg)) ∧ True)) ∧ (¬ (tgi M 256 x1.toNatClampNeg) = 113 → (((tgi M 256 x1.toNatClampNeg) = 114 → ((q_X9_waits M (tgi M 256 (x1 + 1).toNatClampNeg)) ∧ True)) ∧ (¬ (tgi M 256 x1.toNatClampNeg) = 114 → (((tgi M 256 x1.toNatClampNeg) = 115 → ((q_X9_waits M (tgi M 256 (x1 + 1).toNatClampNeg)) ∧ True)) ∧ (¬ (tgi M 256 x1.toNatClampNeg) = 115 → (((tgi M 256 x1.toNatClampNeg) = 116 → ((q_X9_turns M (tgi M 256 (x1 + 1).toNatClampNeg) (tgi M 256 (x1 + 2).toNatClampNeg) (tgi M 256 (x1 + 3).toNatClampNeg)) ∧ True)) ∧ (¬ (tgi M 256 x1.toNatClampNeg) = 116 → ((q_X9_waits M (tgi M 256 (x1 + 1).toNatClampNeg)) ∧ True)))))))))))))))))))))))))))))))))))))))))))))
theorem m_X9_does (G : tvG) (M : tvM) (x1 : Int32) (hq : q_X9_does M x1) : tvRun G yX9_does cX9_does 5 (some .int) 7 0 0 tvP0 tvP0 [.ref (G.2.1 + 249), .int x1] M (.inl (some (.int (f_X9_does M x1).1))) ((f_X9_does M x1).2) := by
  refine tvRun.of yk_X9_does rfl [some (.ref (G.2.1 + 249)), some (.int x1), none, none, none] rfl (Nat.le_of_ble_eq_true rfl) ?_
  intro E hG C hQ; subst hG
  refine tv_aload_n C dk_X9_does_0 rfl ?_
  refine tv_getR (r := 256) C dk_X9_does_1 fl_RX9_35 (Nat.le_of_ble_eq_true rfl) rfl rfl (fun _ _ _ _ => rfl) ?_
  refine tv_iload_n C dk_X9_does_4 rfl ?_
  refine tv_iconst (v := 1) C dk_X9_does_5 (by decide) ?_
  refine tv_iadd C dk_X9_does_6 ?_
  have q1 := hq.2
  refine tv_iald (j := (x1 + 1).toNatClampNeg) rfl C dk_X9_does_7 (Nat.le_of_ble_eq_true rfl) rfl hq.1 ?_
  refine tv_istore_n (L' := [_, _, _, _, _]) (hn := by decide) (hlt := (Nat.le_of_ble_eq_true rfl)) (hno := rfl) C dk_X9_does_8 rfl ?_
  refine tv_aload_n C dk_X9_does_9 rfl ?_
  refine tv_getR (r := 256) C dk_X9_does_10 fl_RX9_35 (Nat.le_of_ble_eq_true rfl) rfl rfl (fun _ _ _ _ => rfl) ?_
  refine tv_iload_n C dk_X9_does_13 rfl ?_
  refine tv_iconst (v := 2) C dk_X9_does_14 (by decide) ?_
  refine tv_iadd C dk_X9_does_15 ?_
  have q2 := q1.2
  refine tv_iald (j := (x1 + 2).toNatClampNeg) rfl C dk_X9_does_16 (Nat.le_of_ble_eq_true rfl) rfl q1.1 ?_
  refine tv_istore_n (L' := [_, _, _, _, _]) (hn := by decide) (hlt := (Nat.le_of_ble_eq_true rfl)) (hno := rfl) C dk_X9_does_17 rfl ?_
  refine tv_aload_n C dk_X9_does_18 rfl ?_
  refine tv_getR (r := 256) C dk_X9_does_19 fl_RX9_35 (Nat.le_of_ble_eq_true rfl) rfl rfl (fun _ _ _ _ => rfl) ?_
  refine tv_iload_n C dk_X9_does_22 rfl ?_
  refine tv_iconst (v := 3) C dk_X9_does_23 (by decide) ?_
  refine tv_iadd C dk_X9_does_24 ?_
  have q3 := q2.2
  refine tv_iald (j := (x1 + 3).toNatClampNeg) rfl C dk_X9_does_25 (Nat.le_of_ble_eq_true rfl) rfl q2.1 ?_
  refine tv_istore (L' := [_, _, _, _, _]) (hn := by decide) (hlt := (Nat.le_of_ble_eq_true rfl)) (hno := rfl) C dk_X9_does_26 rfl ?_
  refine tv_aload_n C dk_X9_does_28 rfl ?_
  refine tv_getR (r := 256) C dk_X9_does_29 fl_RX9_35 (Nat.le_of_ble_eq_true rfl) rfl rfl (fun _ _ _ _ => rfl) ?_
  refine tv_iload_n C dk_X9_does_32 rfl ?_
  have q4 := q3.2
  refine tv_iald (j := x1.toNatClampNeg) rfl C dk_X9_does_33 (Nat.le_of_ble_eq_true rfl) rfl q3.1 ?_
  refine tv_case (x := (tgi M 256 x1.toNatClampNeg)) (c := 97) (fun h1 => ?_) (fun h1 => ?_)
  · have q5 := q4.1 h1
    refine tv_sw C dk_X9_does_34_c97 h1 ?_
    refine tv_aload_n C dk_X9_does_175 rfl ?_
    refine tv_iload_n C dk_X9_does_176 rfl ?_
    have q6 := q5.2
    refine tv_cV1 C dk_X9_does_177 ml_RX9_147 yk_X9_withdraws yi_X9_withdraws (n_X9_withdraws _ M (tgi M 256 (x1 + 1).toNatClampNeg) q5.1) (Nat.le_of_ble_eq_true rfl) rfl rfl rfl rfl (Nat.le_of_ble_eq_true rfl) (Nat.le_of_ble_eq_true rfl) (Nat.le_of_ble_eq_true rfl) (Nat.le_of_ble_eq_true rfl) (Nat.le_of_ble_eq_true rfl) ?_
    exact tv_iret C hQ dk_X9_does_180 rfl (by rw [f_X9_does, if_pos h1]) (by rw [f_X9_does, if_pos h1])
  have q7 := q4.2 h1
  refine tv_case (x := (tgi M 256 x1.toNatClampNeg)) (c := 98) (fun h2 => ?_) (fun h2 => ?_)
  · have q8 := q7.1 h2
    refine tv_sw C dk_X9_does_34_c98 h2 ?_
    refine tv_aload_n C dk_X9_does_134 rfl ?_
    refine tv_iload_n C dk_X9_does_135 rfl ?_
    refine tv_iload_n C dk_X9_does_136 rfl ?_
    refine tv_iload C dk_X9_does_137 rfl ?_
    have q9 := q8.2
    refine tv_cV1 C dk_X9_does_139 ml_RX9_87 yk_X9_boxed yi_X9_boxed (m_X9_boxed _ M (tgi M 256 (x1 + 1).toNatClampNeg) (tgi M 256 (x1 + 2).toNatClampNeg) (tgi M 256 (x1 + 3).toNatClampNeg) q8.1) (Nat.le_of_ble_eq_true rfl) rfl rfl rfl rfl (Nat.le_of_ble_eq_true rfl) (Nat.le_of_ble_eq_true rfl) (Nat.le_of_ble_eq_true rfl) (Nat.le_of_ble_eq_true rfl) (Nat.le_of_ble_eq_true rfl) ?_
    exact tv_iret C hQ dk_X9_does_142 rfl (by rw [f_X9_does, if_neg h1, if_pos h2]) (by rw [f_X9_does, if_neg h1, if_pos h2])
  have q10 := q7.2 h2
  refine tv_case (x := (tgi M 256 x1.toNatClampNeg)) (c := 99) (fun h3 => ?_) (fun h3 => ?_)
  · have q11 := q10.1 h3
    refine tv_sw C dk_X9_does_34_c99 h3 ?_
    refine tv_aload_n C dk_X9_does_159 rfl ?_
    refine tv_iload_n C dk_X9_does_160 rfl ?_
    refine tv_iload_n C dk_X9_does_161 rfl ?_
    refine tv_iload C dk_X9_does_162 rfl ?_
    have q12 := q11.2
    refine tv_cV1 C dk_X9_does_164 ml_RX9_141 yk_X9_codes yi_X9_codes (m_X9_codes _ M (tgi M 256 (x1 + 1).toNatClampNeg) (tgi M 256 (x1 + 2).toNatClampNeg) (tgi M 256 (x1 + 3).toNatClampNeg) q11.1) (Nat.le_of_ble_eq_true rfl) rfl rfl rfl rfl (Nat.le_of_ble_eq_true rfl) (Nat.le_of_ble_eq_true rfl) (Nat.le_of_ble_eq_true rfl) (Nat.le_of_ble_eq_true rfl) (Nat.le_of_ble_eq_true rfl) ?_
    exact tv_iret C hQ dk_X9_does_167 rfl (by rw [f_X9_does, if_neg h1, if_neg h2, if_pos h3]) (by rw [f_X9_does, if_neg h1, if_neg h2, if_pos h3])
  have q13 := q10.2 h3
  refine tv_case (x := (tgi M 256 x1.toNatClampNeg)) (c := 100) (fun h4 => ?_) (fun h4 => ?_)
  · have q14 := q13.1 h4
    refine tv_sw C dk_X9_does_34_c100 h4 ?_
    refine tv_aload_n C dk_X9_does_187 rfl ?_
    refine tv_iload_n C dk_X9_does_188 rfl ?_
    have q15 := q14.2
    refine tv_cV1 C dk_X9_does_189 ml_RX9_162 yk_X9_waits yi_X9_waits (n_X9_waits _ M (tgi M 256 (x1 + 1).toNatClampNeg) q14.1) (Nat.le_of_ble_eq_true rfl) rfl rfl rfl rfl (Nat.le_of_ble_eq_true rfl) (Nat.le_of_ble_eq_true rfl) (Nat.le_of_ble_eq_true rfl) (Nat.le_of_ble_eq_true rfl) (Nat.le_of_ble_eq_true rfl) ?_
    exact tv_iret C hQ dk_X9_does_192 rfl (by rw [f_X9_does, if_neg h1, if_neg h2, if_neg h3, if_pos h4]) (by rw [f_X9_does, if_neg h1, if_neg h2, if_neg h3, if_pos h4])
  have q16 := q13.2 h4
  refine tv_case (x := (tgi M 256 x1.toNatClampNeg)) (c := 101) (fun h5 => ?_) (fun h5 => ?_)
  · have q17 := q16.1 h5
    refine tv_sw C dk_X9_does_34_c101 h5 ?_
    refine tv_aload_n C dk_X9_does_187 rfl ?_
    refine tv_iload_n C dk_X9_does_188 rfl ?_
    have q18 := q17.2
    refine tv_cV1 C dk_X9_does_189 ml_RX9_162 yk_X9_waits yi_X9_waits (n_X9_waits _ M (tgi M 256 (x1 + 1).toNatClampNeg) q17.1) (Nat.le_of_ble_eq_true rfl) rfl rfl rfl rfl (Nat.le_of_ble_eq_true rfl) (Nat.le_of_ble_eq_true rfl) (Nat.le_of_ble_eq_true rfl) (Nat.le_of_ble_eq_true rfl) (Nat.le_of_ble_eq_true rfl) ?_
    exact tv_iret C hQ dk_X9_does_192 rfl (by rw [f_X9_does, if_neg h1, if_neg h2, if_neg h3, if_neg h4, if_pos h5]) (by rw [f_X9_does, if_neg h1, if_neg h2, if_neg h3, if_neg h4, if_pos h5])
  have q19 := q16.2 h5
  refine tv_case (x := (tgi M 256 x1.toNatClampNeg)) (c := 102) (fun h6 => ?_) (fun h6 => ?_)
  · have q20 := q19.1 h6
    refine tv_sw C dk_X9_does_34_c102 h6 ?_
    refine tv_aload_n C dk_X9_does_187 rfl ?_
    refine tv_iload_n C dk_X9_does_188 rfl ?_
    have q21 := q20.2
    refine tv_cV1 C dk_X9_does_189 ml_RX9_162 yk_X9_waits yi_X9_waits (n_X9_waits _ M (tgi M 256 (x1 + 1).toNatClampNeg) q20.1) (Nat.le_of_ble_eq_true rfl) rfl rfl rfl rfl (Nat.le_of_ble_eq_true rfl) (Nat.le_of_ble_eq_true rfl) (Nat.le_of_ble_eq_true rfl) (Nat.le_of_ble_eq_true rfl) (Nat.le_of_ble_eq_true rfl) ?_
    exact tv_iret C hQ dk_X9_does_192 rfl (by rw [f_X9_does, if_neg h1, if_neg h2, if_neg h3, if_neg h4, if_neg h5, if_pos h6]) (by rw [f_X9_does, if_neg h1, if_neg h2, if_neg h3, if_neg h4, if_neg h5, if_pos h6])
  have q22 := q19.2 h6
  refine tv_case (x := (tgi M 256 x1.toNatClampNeg)) (c := 103) (fun h7 => ?_) (fun h7 => ?_)
  · have q23 := q22.1 h7
    refine tv_sw C dk_X9_does_34_c103 h7 ?_
    refine tv_aload_n C dk_X9_does_187 rfl ?_
    refine tv_iload_n C dk_X9_does_188 rfl ?_
    have q24 := q23.2
    refine tv_cV1 C dk_X9_does_189 ml_RX9_162 yk_X9_waits yi_X9_waits (n_X9_waits _ M (tgi M 256 (x1 + 1).toNatClampNeg) q23.1) (Nat.le_of_ble_eq_true rfl) rfl rfl rfl rfl (Nat.le_of_ble_eq_true rfl) (Nat.le_of_ble_eq_true rfl) (Nat.le_of_ble_eq_true rfl) (Nat.le_of_ble_eq_true rfl) (Nat.le_of_ble_eq_true rfl) ?_
    exact tv_iret C hQ dk_X9_does_192 rfl (by rw [f_X9_does, if_neg h1, if_neg h2, if_neg h3, if_neg h4, if_neg h5, if_neg h6, if_pos h7]) (by rw [f_X9_does, if_neg h1, if_neg h2, if_neg h3, if_neg h4, if_neg h5, if_neg h6, if_pos h7])
  have q25 := q22.2 h7
  refine tv_case (x := (tgi M 256 x1.toNatClampNeg)) (c := 104) (fun h8 => ?_) (fun h8 => ?_)
  · have q26 := q25.1 h8
    refine tv_sw C dk_X9_does_34_c104 h8 ?_
    refine tv_aload_n C dk_X9_does_128 rfl ?_
    refine tv_iload_n C dk_X9_does_129 rfl ?_
    have q27 := q26.2
    refine tv_cV1 C dk_X9_does_130 ml_RX9_73 yk_X9_holds yi_X9_holds (m_X9_holds _ M (tgi M 256 (x1 + 1).toNatClampNeg) q26.1) (Nat.le_of_ble_eq_true rfl) rfl rfl rfl rfl (Nat.le_of_ble_eq_true rfl) (Nat.le_of_ble_eq_true rfl) (Nat.le_of_ble_eq_true rfl) (Nat.le_of_ble_eq_true rfl) (Nat.le_of_ble_eq_true rfl) ?_
    exact tv_iret C hQ dk_X9_does_133 rfl (by rw [f_X9_does, if_neg h1, if_neg h2, if_neg h3, if_neg h4, if_neg h5, if_neg h6, if_neg h7, if_pos h8]) (by rw [f_X9_does, if_neg h1, if_neg h2, if_neg h3, if_neg h4, if_neg h5, if_neg h6, if_neg h7, if_pos h8])
  have q28 := q25.2 h8
  refine tv_case (x := (tgi M 256 x1.toNatClampNeg)) (c := 105) (fun h9 => ?_) (fun h9 => ?_)
  · have q29 := q28.1 h9
    refine tv_sw C dk_X9_does_34_c105 h9 ?_
    refine tv_aload_n C dk_X9_does_143 rfl ?_
    refine tv_iload_n C dk_X9_does_144 rfl ?_
    refine tv_iload_n C dk_X9_does_145 rfl ?_
    refine tv_cV1 C dk_X9_does_146 ml_RX9_91 yk_X9_tides yi_X9_tides (m_X9_tides _ M (tgi M 256 (x1 + 1).toNatClampNeg) (tgi M 256 (x1 + 2).toNatClampNeg)) (Nat.le_of_ble_eq_true rfl) rfl rfl rfl rfl (Nat.le_of_ble_eq_true rfl) (Nat.le_of_ble_eq_true rfl) (Nat.le_of_ble_eq_true rfl) (Nat.le_of_ble_eq_true rfl) (Nat.le_of_ble_eq_true rfl) ?_
    exact tv_iret C hQ dk_X9_does_149 rfl (by rw [f_X9_does, if_neg h1, if_neg h2, if_neg h3, if_neg h4, if_neg h5, if_neg h6, if_neg h7, if_neg h8, if_pos h9]) (by rw [f_X9_does, if_neg h1, if_neg h2, if_neg h3, if_neg h4, if_neg h5, if_neg h6, if_neg h7, if_neg h8, if_pos h9])
  have q30 := q28.2 h9
  refine tv_case (x := (tgi M 256 x1.toNatClampNeg)) (c := 106) (fun h10 => ?_) (fun h10 => ?_)
  · have q31 := q30.1 h10
    refine tv_sw C dk_X9_does_34_c106 h10 ?_
    refine tv_aload_n C dk_X9_does_187 rfl ?_
    refine tv_iload_n C dk_X9_does_188 rfl ?_
    have q32 := q31.2
    refine tv_cV1 C dk_X9_does_189 ml_RX9_162 yk_X9_waits yi_X9_waits (n_X9_waits _ M (tgi M 256 (x1 + 1).toNatClampNeg) q31.1) (Nat.le_of_ble_eq_true rfl) rfl rfl rfl rfl (Nat.le_of_ble_eq_true rfl) (Nat.le_of_ble_eq_true rfl) (Nat.le_of_ble_eq_true rfl) (Nat.le_of_ble_eq_true rfl) (Nat.le_of_ble_eq_true rfl) ?_
    exact tv_iret C hQ dk_X9_does_192 rfl (by rw [f_X9_does, if_neg h1, if_neg h2, if_neg h3, if_neg h4, if_neg h5, if_neg h6, if_neg h7, if_neg h8, if_neg h9, if_pos h10]) (by rw [f_X9_does, if_neg h1, if_neg h2, if_neg h3, if_neg h4, if_neg h5, if_neg h6, if_neg h7, if_neg h8, if_neg h9, if_pos h10])
  have q33 := q30.2 h10
  refine tv_case (x := (tgi M 256 x1.toNatClampNeg)) (c := 107) (fun h11 => ?_) (fun h11 => ?_)
  · have q34 := q33.1 h11
    refine tv_sw C dk_X9_does_34_c107 h11 ?_
    refine tv_aload_n C dk_X9_does_187 rfl ?_
    refine tv_iload_n C dk_X9_does_188 rfl ?_
    have q35 := q34.2
    refine tv_cV1 C dk_X9_does_189 ml_RX9_162 yk_X9_waits yi_X9_waits (n_X9_waits _ M (tgi M 256 (x1 + 1).toNatClampNeg) q34.1) (Nat.le_of_ble_eq_true rfl) rfl rfl rfl rfl (Nat.le_of_ble_eq_true rfl) (Nat.le_of_ble_eq_true rfl) (Nat.le_of_ble_eq_true rfl) (Nat.le_of_ble_eq_true rfl) (Nat.le_of_ble_eq_true rfl) ?_
    exact tv_iret C hQ dk_X9_does_192 rfl (by rw [f_X9_does, if_neg h1, if_neg h2, if_neg h3, if_neg h4, if_neg h5, if_neg h6, if_neg h7, if_neg h8, if_neg h9, if_neg h10, if_pos h11]) (by rw [f_X9_does, if_neg h1, if_neg h2, if_neg h3, if_neg h4, if_neg h5, if_neg h6, if_neg h7, if_neg h8, if_neg h9, if_neg h10, if_pos h11])
  have q36 := q33.2 h11
  refine tv_case (x := (tgi M 256 x1.toNatClampNeg)) (c := 108) (fun h12 => ?_) (fun h12 => ?_)
  · have q37 := q36.1 h12
    refine tv_sw C dk_X9_does_34_c108 h12 ?_
    refine tv_aload_n C dk_X9_does_181 rfl ?_
    refine tv_iload_n C dk_X9_does_182 rfl ?_
    have q38 := q37.2
    refine tv_cV1 C dk_X9_does_183 ml_RX9_153 yk_X9_closes yi_X9_closes (m_X9_closes _ M (tgi M 256 (x1 + 1).toNatClampNeg) q37.1) (Nat.le_of_ble_eq_true rfl) rfl rfl rfl rfl (Nat.le_of_ble_eq_true rfl) (Nat.le_of_ble_eq_true rfl) (Nat.le_of_ble_eq_true rfl) (Nat.le_of_ble_eq_true rfl) (Nat.le_of_ble_eq_true rfl) ?_
    exact tv_iret C hQ dk_X9_does_186 rfl (by rw [f_X9_does, if_neg h1, if_neg h2, if_neg h3, if_neg h4, if_neg h5, if_neg h6, if_neg h7, if_neg h8, if_neg h9, if_neg h10, if_neg h11, if_pos h12]) (by rw [f_X9_does, if_neg h1, if_neg h2, if_neg h3, if_neg h4, if_neg h5, if_neg h6, if_neg h7, if_neg h8, if_neg h9, if_neg h10, if_neg h11, if_pos h12])
  have q39 := q36.2 h12
  refine tv_case (x := (tgi M 256 x1.toNatClampNeg)) (c := 109) (fun h13 => ?_) (fun h13 => ?_)
  · have q40 := q39.1 h13
    refine tv_sw C dk_X9_does_34_c109 h13 ?_
    refine tv_aload_n C dk_X9_does_187 rfl ?_
    refine tv_iload_n C dk_X9_does_188 rfl ?_
    have q41 := q40.2
    refine tv_cV1 C dk_X9_does_189 ml_RX9_162 yk_X9_waits yi_X9_waits (n_X9_waits _ M (tgi M 256 (x1 + 1).toNatClampNeg) q40.1) (Nat.le_of_ble_eq_true rfl) rfl rfl rfl rfl (Nat.le_of_ble_eq_true rfl) (Nat.le_of_ble_eq_true rfl) (Nat.le_of_ble_eq_true rfl) (Nat.le_of_ble_eq_true rfl) (Nat.le_of_ble_eq_true rfl) ?_
    exact tv_iret C hQ dk_X9_does_192 rfl (by rw [f_X9_does, if_neg h1, if_neg h2, if_neg h3, if_neg h4, if_neg h5, if_neg h6, if_neg h7, if_neg h8, if_neg h9, if_neg h10, if_neg h11, if_neg h12, if_pos h13]) (by rw [f_X9_does, if_neg h1, if_neg h2, if_neg h3, if_neg h4, if_neg h5, if_neg h6, if_neg h7, if_neg h8, if_neg h9, if_neg h10, if_neg h11, if_neg h12, if_pos h13])
  have q42 := q39.2 h13
  refine tv_case (x := (tgi M 256 x1.toNatClampNeg)) (c := 110) (fun h14 => ?_) (fun h14 => ?_)
  · have q43 := q42.1 h14
    refine tv_sw C dk_X9_does_34_c110 h14 ?_
    refine tv_aload_n C dk_X9_does_187 rfl ?_
    refine tv_iload_n C dk_X9_does_188 rfl ?_
    have q44 := q43.2
    refine tv_cV1 C dk_X9_does_189 ml_RX9_162 yk_X9_waits yi_X9_waits (n_X9_waits _ M (tgi M 256 (x1 + 1).toNatClampNeg) q43.1) (Nat.le_of_ble_eq_true rfl) rfl rfl rfl rfl (Nat.le_of_ble_eq_true rfl) (Nat.le_of_ble_eq_true rfl) (Nat.le_of_ble_eq_true rfl) (Nat.le_of_ble_eq_true rfl) (Nat.le_of_ble_eq_true rfl) ?_
    exact tv_iret C hQ dk_X9_does_192 rfl (by rw [f_X9_does, if_neg h1, if_neg h2, if_neg h3, if_neg h4, if_neg h5, if_neg h6, if_neg h7, if_neg h8, if_neg h9, if_neg h10, if_neg h11, if_neg h12, if_neg h13, if_pos h14]) (by rw [f_X9_does, if_neg h1, if_neg h2, if_neg h3, if_neg h4, if_neg h5, if_neg h6, if_neg h7, if_neg h8, if_neg h9, if_neg h10, if_neg h11, if_neg h12, if_neg h13, if_pos h14])
  have q45 := q42.2 h14
  refine tv_case (x := (tgi M 256 x1.toNatClampNeg)) (c := 111) (fun h15 => ?_) (fun h15 => ?_)
  · have q46 := q45.1 h15
    refine tv_sw C dk_X9_does_34_c111 h15 ?_
    refine tv_aload_n C dk_X9_does_187 rfl ?_
    refine tv_iload_n C dk_X9_does_188 rfl ?_
    have q47 := q46.2
    refine tv_cV1 C dk_X9_does_189 ml_RX9_162 yk_X9_waits yi_X9_waits (n_X9_waits _ M (tgi M 256 (x1 + 1).toNatClampNeg) q46.1) (Nat.le_of_ble_eq_true rfl) rfl rfl rfl rfl (Nat.le_of_ble_eq_true rfl) (Nat.le_of_ble_eq_true rfl) (Nat.le_of_ble_eq_true rfl) (Nat.le_of_ble_eq_true rfl) (Nat.le_of_ble_eq_true rfl) ?_
    exact tv_iret C hQ dk_X9_does_192 rfl (by rw [f_X9_does, if_neg h1, if_neg h2, if_neg h3, if_neg h4, if_neg h5, if_neg h6, if_neg h7, if_neg h8, if_neg h9, if_neg h10, if_neg h11, if_neg h12, if_neg h13, if_neg h14, if_pos h15]) (by rw [f_X9_does, if_neg h1, if_neg h2, if_neg h3, if_neg h4, if_neg h5, if_neg h6, if_neg h7, if_neg h8, if_neg h9, if_neg h10, if_neg h11, if_neg h12, if_neg h13, if_neg h14, if_pos h15])
  have q48 := q45.2 h15
  refine tv_case (x := (tgi M 256 x1.toNatClampNeg)) (c := 112) (fun h16 => ?_) (fun h16 => ?_)
  · have q49 := q48.1 h16
    refine tv_sw C dk_X9_does_34_c112 h16 ?_
    refine tv_aload_n C dk_X9_does_168 rfl ?_
    refine tv_iload_n C dk_X9_does_169 rfl ?_
    refine tv_iload_n C dk_X9_does_170 rfl ?_
    have q50 := q49.2
    refine tv_cV1 C dk_X9_does_171 ml_RX9_144 yk_X9_deposits yi_X9_deposits (m_X9_deposits _ M (tgi M 256 (x1 + 1).toNatClampNeg) (tgi M 256 (x1 + 2).toNatClampNeg) q49.1) (Nat.le_of_ble_eq_true rfl) rfl rfl rfl rfl (Nat.le_of_ble_eq_true rfl) (Nat.le_of_ble_eq_true rfl) (Nat.le_of_ble_eq_true rfl) (Nat.le_of_ble_eq_true rfl) (Nat.le_of_ble_eq_true rfl) ?_
    exact tv_iret C hQ dk_X9_does_174 rfl (by rw [f_X9_does, if_neg h1, if_neg h2, if_neg h3, if_neg h4, if_neg h5, if_neg h6, if_neg h7, if_neg h8, if_neg h9, if_neg h10, if_neg h11, if_neg h12, if_neg h13, if_neg h14, if_neg h15, if_pos h16]) (by rw [f_X9_does, if_neg h1, if_neg h2, if_neg h3, if_neg h4, if_neg h5, if_neg h6, if_neg h7, if_neg h8, if_neg h9, if_neg h10, if_neg h11, if_neg h12, if_neg h13, if_neg h14, if_neg h15, if_pos h16])
  have q51 := q48.2 h16
  refine tv_case (x := (tgi M 256 x1.toNatClampNeg)) (c := 113) (fun h17 => ?_) (fun h17 => ?_)
  · have q52 := q51.1 h17
    refine tv_sw C dk_X9_does_34_c113 h17 ?_
    refine tv_aload_n C dk_X9_does_187 rfl ?_
    refine tv_iload_n C dk_X9_does_188 rfl ?_
    have q53 := q52.2
    refine tv_cV1 C dk_X9_does_189 ml_RX9_162 yk_X9_waits yi_X9_waits (n_X9_waits _ M (tgi M 256 (x1 + 1).toNatClampNeg) q52.1) (Nat.le_of_ble_eq_true rfl) rfl rfl rfl rfl (Nat.le_of_ble_eq_true rfl) (Nat.le_of_ble_eq_true rfl) (Nat.le_of_ble_eq_true rfl) (Nat.le_of_ble_eq_true rfl) (Nat.le_of_ble_eq_true rfl) ?_
    exact tv_iret C hQ dk_X9_does_192 rfl (by rw [f_X9_does, if_neg h1, if_neg h2, if_neg h3, if_neg h4, if_neg h5, if_neg h6, if_neg h7, if_neg h8, if_neg h9, if_neg h10, if_neg h11, if_neg h12, if_neg h13, if_neg h14, if_neg h15, if_neg h16, if_pos h17]) (by rw [f_X9_does, if_neg h1, if_neg h2, if_neg h3, if_neg h4, if_neg h5, if_neg h6, if_neg h7, if_neg h8, if_neg h9, if_neg h10, if_neg h11, if_neg h12, if_neg h13, if_neg h14, if_neg h15, if_neg h16, if_pos h17])
  have q54 := q51.2 h17
  refine tv_case (x := (tgi M 256 x1.toNatClampNeg)) (c := 114) (fun h18 => ?_) (fun h18 => ?_)
  · have q55 := q54.1 h18
    refine tv_sw C dk_X9_does_34_c114 h18 ?_
    refine tv_aload_n C dk_X9_does_187 rfl ?_
    refine tv_iload_n C dk_X9_does_188 rfl ?_
    have q56 := q55.2
    refine tv_cV1 C dk_X9_does_189 ml_RX9_162 yk_X9_waits yi_X9_waits (n_X9_waits _ M (tgi M 256 (x1 + 1).toNatClampNeg) q55.1) (Nat.le_of_ble_eq_true rfl) rfl rfl rfl rfl (Nat.le_of_ble_eq_true rfl) (Nat.le_of_ble_eq_true rfl) (Nat.le_of_ble_eq_true rfl) (Nat.le_of_ble_eq_true rfl) (Nat.le_of_ble_eq_true rfl) ?_
    exact tv_iret C hQ dk_X9_does_192 rfl (by rw [f_X9_does, if_neg h1, if_neg h2, if_neg h3, if_neg h4, if_neg h5, if_neg h6, if_neg h7, if_neg h8, if_neg h9, if_neg h10, if_neg h11, if_neg h12, if_neg h13, if_neg h14, if_neg h15, if_neg h16, if_neg h17, if_pos h18]) (by rw [f_X9_does, if_neg h1, if_neg h2, if_neg h3, if_neg h4, if_neg h5, if_neg h6, if_neg h7, if_neg h8, if_neg h9, if_neg h10, if_neg h11, if_neg h12, if_neg h13, if_neg h14, if_neg h15, if_neg h16, if_neg h17, if_pos h18])
  have q57 := q54.2 h18
  refine tv_case (x := (tgi M 256 x1.toNatClampNeg)) (c := 115) (fun h19 => ?_) (fun h19 => ?_)
  · have q58 := q57.1 h19
    refine tv_sw C dk_X9_does_34_c115 h19 ?_
    refine tv_aload_n C dk_X9_does_187 rfl ?_
    refine tv_iload_n C dk_X9_does_188 rfl ?_
    have q59 := q58.2
    refine tv_cV1 C dk_X9_does_189 ml_RX9_162 yk_X9_waits yi_X9_waits (n_X9_waits _ M (tgi M 256 (x1 + 1).toNatClampNeg) q58.1) (Nat.le_of_ble_eq_true rfl) rfl rfl rfl rfl (Nat.le_of_ble_eq_true rfl) (Nat.le_of_ble_eq_true rfl) (Nat.le_of_ble_eq_true rfl) (Nat.le_of_ble_eq_true rfl) (Nat.le_of_ble_eq_true rfl) ?_
    exact tv_iret C hQ dk_X9_does_192 rfl (by rw [f_X9_does, if_neg h1, if_neg h2, if_neg h3, if_neg h4, if_neg h5, if_neg h6, if_neg h7, if_neg h8, if_neg h9, if_neg h10, if_neg h11, if_neg h12, if_neg h13, if_neg h14, if_neg h15, if_neg h16, if_neg h17, if_neg h18, if_pos h19]) (by rw [f_X9_does, if_neg h1, if_neg h2, if_neg h3, if_neg h4, if_neg h5, if_neg h6, if_neg h7, if_neg h8, if_neg h9, if_neg h10, if_neg h11, if_neg h12, if_neg h13, if_neg h14, if_neg h15, if_neg h16, if_neg h17, if_neg h18, if_pos h19])
  have q60 := q57.2 h19
  refine tv_case (x := (tgi M 256 x1.toNatClampNeg)) (c := 116) (fun h20 => ?_) (fun h20 => ?_)
  · have q61 := q60.1 h20
    refine tv_sw C dk_X9_does_34_c116 h20 ?_
    refine tv_aload_n C dk_X9_does_150 rfl ?_
    refine tv_iload_n C dk_X9_does_151 rfl ?_
    refine tv_iload_n C dk_X9_does_152 rfl ?_
    refine tv_iload C dk_X9_does_153 rfl ?_
    have q62 := q61.2
    refine tv_cV1 C dk_X9_does_155 ml_RX9_135 yk_X9_turns yi_X9_turns (m_X9_turns _ M (tgi M 256 (x1 + 1).toNatClampNeg) (tgi M 256 (x1 + 2).toNatClampNeg) (tgi M 256 (x1 + 3).toNatClampNeg) q61.1) (Nat.le_of_ble_eq_true rfl) rfl rfl rfl rfl (Nat.le_of_ble_eq_true rfl) (Nat.le_of_ble_eq_true rfl) (Nat.le_of_ble_eq_true rfl) (Nat.le_of_ble_eq_true rfl) (Nat.le_of_ble_eq_true rfl) ?_
    exact tv_iret C hQ dk_X9_does_158 rfl (by rw [f_X9_does, if_neg h1, if_neg h2, if_neg h3, if_neg h4, if_neg h5, if_neg h6, if_neg h7, if_neg h8, if_neg h9, if_neg h10, if_neg h11, if_neg h12, if_neg h13, if_neg h14, if_neg h15, if_neg h16, if_neg h17, if_neg h18, if_neg h19, if_pos h20]) (by rw [f_X9_does, if_neg h1, if_neg h2, if_neg h3, if_neg h4, if_neg h5, if_neg h6, if_neg h7, if_neg h8, if_neg h9, if_neg h10, if_neg h11, if_neg h12, if_neg h13, if_neg h14, if_neg h15, if_neg h16, if_neg h17, if_neg h18, if_neg h19, if_pos h20])
  have q63 := q60.2 h20
  refine tv_swd C (dk_X9_does_34_d h1 h2 h3 h4 h5 h6 h7 h8 h9 h10 h11 h12 h13 h14 h15 h16 h17 h18 h19 h20) ?_
  refine tv_aload_n C dk_X9_does_187 rfl ?_
  refine tv_iload_n C dk_X9_does_188 rfl ?_
  have q64 := q63.2
  refine tv_cV1 C dk_X9_does_189 ml_RX9_162 yk_X9_waits yi_X9_waits (n_X9_waits _ M (tgi M 256 (x1 + 1).toNatClampNeg) q63.1) (Nat.le_of_ble_eq_true rfl) rfl rfl rfl rfl (Nat.le_of_ble_eq_true rfl) (Nat.le_of_ble_eq_true rfl) (Nat.le_of_ble_eq_true rfl) (Nat.le_of_ble_eq_true rfl) (Nat.le_of_ble_eq_true rfl) ?_
  exact tv_iret C hQ dk_X9_does_192 rfl (by rw [f_X9_does, if_neg h1, if_neg h2, if_neg h3, if_neg h4, if_neg h5, if_neg h6, if_neg h7, if_neg h8, if_neg h9, if_neg h10, if_neg h11, if_neg h12, if_neg h13, if_neg h14, if_neg h15, if_neg h16, if_neg h17, if_neg h18, if_neg h19, if_neg h20]) (by rw [f_X9_does, if_neg h1, if_neg h2, if_neg h3, if_neg h4, if_neg h5, if_neg h6, if_neg h7, if_neg h8, if_neg h9, if_neg h10, if_neg h11, if_neg h12, if_neg h13, if_neg h14, if_neg h15, if_neg h16, if_neg h17, if_neg h18, if_neg h19, if_neg h20])
