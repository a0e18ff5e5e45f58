/-- TideVaultModel.shuts(I)V -/
def f_X9_shuts (M : tvM) (x1 : Int32) : tvM := (if (f_X9_of M x1 3) = 3 then (f_X9_sets (f_X9_sets (f_X9_sets (f_X9_sets (f_X9_happens M 99 x1) x1 3 0) x1 4 0) x1 5 0) x1 6 0) else (f_X9_sets (f_X9_sets (f_X9_sets (f_X9_sets M x1 3 0) x1 4 0) x1 5 0) x1 6 0))
def q_X9_shuts (M : tvM) (x1 : Int32) : Prop := ((q_X9_of M x1 3) ∧ (((f_X9_of M x1 3) = 3 → ((q_X9_happens M 99 x1) ∧ ((q_X9_sets (f_X9_happens M 99 x1) x1 3 0) ∧ ((q_X9_sets (f_X9_sets (f_X9_happens M 99 x1) x1 3 0) x1 4 0) ∧ ((q_X9_sets (f_X9_sets (f_X9_sets (f_X9_happens M 99 x1) x1 3 0) x1 4 0) x1 5 0) ∧ ((q_X9_sets (f_X9_sets (f_X9_sets (f_X9_sets (f_X9_happens M 99 x1) x1 3 0) x1 4 0) x1 5 0) x1 6 0) ∧ True)))))) ∧ (¬ (f_X9_of M x1 3) = 3 → ((q_X9_sets M x1 3 0) ∧ ((q_X9_sets (f_X9_sets M x1 3 0) x1 4 0) ∧ ((q_X9_sets (f_X9_sets (f_X9_sets M x1 3 0) x1 4 0) x1 5 0) ∧ ((q_X9_sets (f_X9_sets (f_X9_sets (f_X9_sets M x1 3 0) x1 4 0) x1 5 0) x1 6 0) ∧ True)))))))
theorem m_X9_shuts (G : tvG) (M : tvM) (x1 : Int32) (hq : q_X9_shuts M x1) : tvRun G yX9_shuts cX9_shuts 2 none 2 0 0 tvP0 tvP0 [.ref (G.2.1 + 249), .int x1] M (.inl none) (f_X9_shuts M x1) := by
  refine tvRun.of yk_X9_shuts rfl [some (.ref (G.2.1 + 249)), some (.int x1)] rfl (Nat.le_of_ble_eq_true rfl) ?_
  intro E hG C hQ; subst hG
  refine tv_aload_n C dk_X9_shuts_0 rfl ?_
  refine tv_iload_n C dk_X9_shuts_1 rfl ?_
  refine tv_iconst (v := 3) C dk_X9_shuts_2 (by decide) ?_
  have q1 := hq.2
  refine tv_cV1 C dk_X9_shuts_3 ml_RX9_55 yk_X9_of yi_X9_of (m_X9_of _ M x1 3 hq.1) (Nat.le_of_ble_eq_true rfl) rfl rfl rfl rfl (Nat.le_of_ble_eq_true rfl) (Nat.le_of_ble_eq_true rfl) (Nat.le_of_ble_eq_true rfl) (Nat.le_of_ble_eq_true rfl) (Nat.le_of_ble_eq_true rfl) ?_
  refine tv_iconst (v := 3) C dk_X9_shuts_6 (by decide) ?_
  refine tv_icmp_ne C dk_X9_shuts_7 (fun h1 => ?_) (fun h1 => ?_)
  · have q2 := q1.2 h1
    refine tv_aload_n C dk_X9_shuts_17 rfl ?_
    refine tv_iload_n C dk_X9_shuts_18 rfl ?_
    refine tv_iconst (v := 3) C dk_X9_shuts_19 (by decide) ?_
    refine tv_iconst (v := 0) C dk_X9_shuts_20 (by decide) ?_
    have q3 := q2.2
    refine tv_cV0 C dk_X9_shuts_21 ml_RX9_84 yk_X9_sets yi_X9_sets (m_X9_sets _ M x1 3 0 q2.1) (Nat.le_of_ble_eq_true rfl) rfl rfl rfl rfl (Nat.le_of_ble_eq_true rfl) (Nat.le_of_ble_eq_true rfl) (Nat.le_of_ble_eq_true rfl) (Nat.le_of_ble_eq_true rfl) (Nat.le_of_ble_eq_true rfl) ?_
    refine tv_aload_n C dk_X9_shuts_24 rfl ?_
    refine tv_iload_n C dk_X9_shuts_25 rfl ?_
    refine tv_iconst (v := 4) C dk_X9_shuts_26 (by decide) ?_
    refine tv_iconst (v := 0) C dk_X9_shuts_27 (by decide) ?_
    have q4 := q3.2
    refine tv_cV0 C dk_X9_shuts_28 ml_RX9_84 yk_X9_sets yi_X9_sets (m_X9_sets _ (f_X9_sets M x1 3 0) x1 4 0 q3.1) (Nat.le_of_ble_eq_true rfl) rfl rfl rfl rfl (Nat.le_of_ble_eq_true rfl) (Nat.le_of_ble_eq_true rfl) (Nat.le_of_ble_eq_true rfl) (Nat.le_of_ble_eq_true rfl) (Nat.le_of_ble_eq_true rfl) ?_
    refine tv_aload_n C dk_X9_shuts_31 rfl ?_
    refine tv_iload_n C dk_X9_shuts_32 rfl ?_
    refine tv_iconst (v := 5) C dk_X9_shuts_33 (by decide) ?_
    refine tv_iconst (v := 0) C dk_X9_shuts_34 (by decide) ?_
    have q5 := q4.2
    refine tv_cV0 C dk_X9_shuts_35 ml_RX9_84 yk_X9_sets yi_X9_sets (m_X9_sets _ (f_X9_sets (f_X9_sets M x1 3 0) x1 4 0) x1 5 0 q4.1) (Nat.le_of_ble_eq_true rfl) rfl rfl rfl rfl (Nat.le_of_ble_eq_true rfl) (Nat.le_of_ble_eq_true rfl) (Nat.le_of_ble_eq_true rfl) (Nat.le_of_ble_eq_true rfl) (Nat.le_of_ble_eq_true rfl) ?_
    refine tv_aload_n C dk_X9_shuts_38 rfl ?_
    refine tv_iload_n C dk_X9_shuts_39 rfl ?_
    refine tv_bipush (v := 6) C dk_X9_shuts_40 (by decide) ?_
    refine tv_iconst (v := 0) C dk_X9_shuts_42 (by decide) ?_
    have q6 := q5.2
    refine tv_cV0 C dk_X9_shuts_43 ml_RX9_84 yk_X9_sets yi_X9_sets (m_X9_sets _ (f_X9_sets (f_X9_sets (f_X9_sets M x1 3 0) x1 4 0) x1 5 0) x1 6 0 q5.1) (Nat.le_of_ble_eq_true rfl) rfl rfl rfl rfl (Nat.le_of_ble_eq_true rfl) (Nat.le_of_ble_eq_true rfl) (Nat.le_of_ble_eq_true rfl) (Nat.le_of_ble_eq_true rfl) (Nat.le_of_ble_eq_true rfl) ?_
    exact tv_vret C hQ dk_X9_shuts_46 rfl (by rw [f_X9_shuts, if_neg h1])
  have q7 := q1.1 h1
  refine tv_aload_n C dk_X9_shuts_10 rfl ?_
  refine tv_bipush (v := 99) C dk_X9_shuts_11 (by decide) ?_
  refine tv_iload_n C dk_X9_shuts_13 rfl ?_
  have q8 := q7.2
  refine tv_cV0 C dk_X9_shuts_14 ml_RX9_98 yk_X9_happens yi_X9_happens (n_X9_happens _ M 99 x1 q7.1) (Nat.le_of_ble_eq_true rfl) rfl rfl rfl rfl (Nat.le_of_ble_eq_true rfl) (Nat.le_of_ble_eq_true rfl) (Nat.le_of_ble_eq_true rfl) (Nat.le_of_ble_eq_true rfl) (Nat.le_of_ble_eq_true rfl) ?_
  refine tv_aload_n C dk_X9_shuts_17 rfl ?_
  refine tv_iload_n C dk_X9_shuts_18 rfl ?_
  refine tv_iconst (v := 3) C dk_X9_shuts_19 (by decide) ?_
  refine tv_iconst (v := 0) C dk_X9_shuts_20 (by decide) ?_
  have q9 := q8.2
  refine tv_cV0 C dk_X9_shuts_21 ml_RX9_84 yk_X9_sets yi_X9_sets (m_X9_sets _ (f_X9_happens M 99 x1) x1 3 0 q8.1) (Nat.le_of_ble_eq_true rfl) rfl rfl rfl rfl (Nat.le_of_ble_eq_true rfl) (Nat.le_of_ble_eq_true rfl) (Nat.le_of_ble_eq_true rfl) (Nat.le_of_ble_eq_true rfl) (Nat.le_of_ble_eq_true rfl) ?_
  refine tv_aload_n C dk_X9_shuts_24 rfl ?_
  refine tv_iload_n C dk_X9_shuts_25 rfl ?_
  refine tv_iconst (v := 4) C dk_X9_shuts_26 (by decide) ?_
  refine tv_iconst (v := 0) C dk_X9_shuts_27 (by decide) ?_
  have q10 := q9.2
  refine tv_cV0 C dk_X9_shuts_28 ml_RX9_84 yk_X9_sets yi_X9_sets (m_X9_sets _ (f_X9_sets (f_X9_happens M 99 x1) x1 3 0) x1 4 0 q9.1) (Nat.le_of_ble_eq_true rfl) rfl rfl rfl rfl (Nat.le_of_ble_eq_true rfl) (Nat.le_of_ble_eq_true rfl) (Nat.le_of_ble_eq_true rfl) (Nat.le_of_ble_eq_true rfl) (Nat.le_of_ble_eq_true rfl) ?_
  refine tv_aload_n C dk_X9_shuts_31 rfl ?_
  refine tv_iload_n C dk_X9_shuts_32 rfl ?_
  refine tv_iconst (v := 5) C dk_X9_shuts_33 (by decide) ?_
  refine tv_iconst (v := 0) C dk_X9_shuts_34 (by decide) ?_
  have q11 := q10.2
  refine tv_cV0 C dk_X9_shuts_35 ml_RX9_84 yk_X9_sets yi_X9_sets (m_X9_sets _ (f_X9_sets (f_X9_sets (f_X9_happens M 99 x1) x1 3 0) x1 4 0) x1 5 0 q10.1) (Nat.le_of_ble_eq_true rfl) rfl rfl rfl rfl (Nat.le_of_ble_eq_true rfl) (Nat.le_of_ble_eq_true rfl) (Nat.le_of_ble_eq_true rfl) (Nat.le_of_ble_eq_true rfl) (Nat.le_of_ble_eq_true rfl) ?_
  refine tv_aload_n C dk_X9_shuts_38 rfl ?_
  refine tv_iload_n C dk_X9_shuts_39 rfl ?_
  refine tv_bipush (v := 6) C dk_X9_shuts_40 (by decide) ?_
  refine tv_iconst (v := 0) C dk_X9_shuts_42 (by decide) ?_
  have q12 := q11.2
  refine tv_cV0 C dk_X9_shuts_43 ml_RX9_84 yk_X9_sets yi_X9_sets (m_X9_sets _ (f_X9_sets (f_X9_sets (f_X9_sets (f_X9_happens M 99 x1) x1 3 0) x1 4 0) x1 5 0) x1 6 0 q11.1) (Nat.le_of_ble_eq_true rfl) rfl rfl rfl rfl (Nat.le_of_ble_eq_true rfl) (Nat.le_of_ble_eq_true rfl) (Nat.le_of_ble_eq_true rfl) (Nat.le_of_ble_eq_true rfl) (Nat.le_of_ble_eq_true rfl) ?_
  exact tv_vret C hQ dk_X9_shuts_46 rfl (by rw [f_X9_shuts, if_pos h1])
/-- TideVaultModel.closes(I)I -/
def f_X9_closes (M : tvM) (x1 : Int32) : Int32 × tvM := (if (f_X9_isBox M x1) = 0 then (0, (f_X9_isThrown M 1 1).2) else (if (f_X9_of ((f_X9_isThrown M 0 1).2) x1 3) = 0 then (0, (f_X9_isThrown ((f_X9_isThrown M 0 1).2) 1 2).2) else ((f_X9_of (f_X9_shuts ((f_X9_isThrown ((f_X9_isThrown M 0 1).2) 0 2).2) x1) x1 7), (f_X9_shuts ((f_X9_isThrown ((f_X9_isThrown M 0 1).2) 0 2).2) x1))))
def q_X9_closes (M : tvM) (x1 : Int32) : Prop := (((f_X9_isBox M x1) = 0 → True) ∧ (¬ (f_X9_isBox M x1) = 0 → ((q_X9_of ((f_X9_isThrown M 0 1).2) x1 3) ∧ (((f_X9_of ((f_X9_isThrown M 0 1).2) x1 3) = 0 → True) ∧ (¬ (f_X9_of ((f_X9_isThrown M 0 1).2) x1 3) = 0 → ((q_X9_shuts ((f_X9_isThrown ((f_X9_isThrown M 0 1).2) 0 2).2) x1) ∧ ((q_X9_of (f_X9_shuts ((f_X9_isThrown ((f_X9_isThrown M 0 1).2) 0 2).2) x1) x1 7) ∧ True)))))))
theorem m_X9_closes (G : tvG) (M : tvM) (x1 : Int32) (hq : q_X9_closes M x1) : tvRun G yX9_closes cX9_closes 2 (some .int) 3 0 0 tvP0 tvP0 [.ref (G.2.1 + 249), .int x1] M (.inl (some (.int (f_X9_closes M x1).1))) ((f_X9_closes M x1).2) := by
  refine tvRun.of yk_X9_closes rfl [some (.ref (G.2.1 + 249)), some (.int x1)] rfl (Nat.le_of_ble_eq_true rfl) ?_
  intro E hG C hQ; subst hG
  refine tv_aload_n C dk_X9_closes_0 rfl ?_
  refine tv_aload_n C dk_X9_closes_1 rfl ?_
  refine tv_iload_n C dk_X9_closes_2 rfl ?_
  refine tv_cV1 C dk_X9_closes_3 ml_RX9_113 yk_X9_isBox yi_X9_isBox (m_X9_isBox _ M x1) (Nat.le_of_ble_eq_true rfl) rfl rfl rfl rfl (Nat.le_of_ble_eq_true rfl) (Nat.le_of_ble_eq_true rfl) (Nat.le_of_ble_eq_true rfl) (Nat.le_of_ble_eq_true rfl) (Nat.le_of_ble_eq_true rfl) ?_
  refine tv_if_ne C dk_X9_closes_6 (fun h1 => ?_) (fun h1 => ?_)
  · have q1 := hq.2 h1
    refine tv_iconst (v := 0) C dk_X9_closes_13 (by decide) ?_
    refine tv_iconst (v := 1) C dk_X9_closes_14 (by decide) ?_
    refine tv_cV1 C dk_X9_closes_15 ml_RX9_62 yk_X9_isThrown yi_X9_isThrown (m_X9_isThrown _ M 0 1 (tv_qt0 _ _)) (Nat.le_of_ble_eq_true rfl) rfl rfl rfl rfl (Nat.le_of_ble_eq_true rfl) (Nat.le_of_ble_eq_true rfl) (Nat.le_of_ble_eq_true rfl) (Nat.le_of_ble_eq_true rfl) (Nat.le_of_ble_eq_true rfl) ?_
    refine tv_ti (v := 0) rfl ?_
    refine tv_if_ne C dk_X9_closes_18 (fun h => absurd h (by decide)) (fun _ => ?_)
    refine tv_aload_n C dk_X9_closes_21 rfl ?_
    refine tv_aload_n C dk_X9_closes_22 rfl ?_
    refine tv_iload_n C dk_X9_closes_23 rfl ?_
    refine tv_iconst (v := 3) C dk_X9_closes_24 (by decide) ?_
    have q2 := q1.2
    refine tv_cV1 C dk_X9_closes_25 ml_RX9_55 yk_X9_of yi_X9_of (m_X9_of _ ((f_X9_isThrown M 0 1).2) x1 3 q1.1) (Nat.le_of_ble_eq_true rfl) rfl rfl rfl rfl (Nat.le_of_ble_eq_true rfl) (Nat.le_of_ble_eq_true rfl) (Nat.le_of_ble_eq_true rfl) (Nat.le_of_ble_eq_true rfl) (Nat.le_of_ble_eq_true rfl) ?_
    refine tv_if_ne C dk_X9_closes_28 (fun h2 => ?_) (fun h2 => ?_)
    · have q3 := q2.2 h2
      refine tv_iconst (v := 0) C dk_X9_closes_35 (by decide) ?_
      refine tv_iconst (v := 2) C dk_X9_closes_36 (by decide) ?_
      refine tv_cV1 C dk_X9_closes_37 ml_RX9_62 yk_X9_isThrown yi_X9_isThrown (m_X9_isThrown _ ((f_X9_isThrown M 0 1).2) 0 2 (tv_qt0 _ _)) (Nat.le_of_ble_eq_true rfl) rfl rfl rfl rfl (Nat.le_of_ble_eq_true rfl) (Nat.le_of_ble_eq_true rfl) (Nat.le_of_ble_eq_true rfl) (Nat.le_of_ble_eq_true rfl) (Nat.le_of_ble_eq_true rfl) ?_
      refine tv_ti (v := 0) rfl ?_
      refine tv_if_eq C dk_X9_closes_40 (fun _ => ?_) (fun h => absurd h (by decide))
      refine tv_aload_n C dk_X9_closes_45 rfl ?_
      refine tv_iload_n C dk_X9_closes_46 rfl ?_
      have q4 := q3.2
      refine tv_cV0 C dk_X9_closes_47 ml_RX9_150 yk_X9_shuts yi_X9_shuts (m_X9_shuts _ ((f_X9_isThrown ((f_X9_isThrown M 0 1).2) 0 2).2) x1 q3.1) (Nat.le_of_ble_eq_true rfl) rfl rfl rfl rfl (Nat.le_of_ble_eq_true rfl) (Nat.le_of_ble_eq_true rfl) (Nat.le_of_ble_eq_true rfl) (Nat.le_of_ble_eq_true rfl) (Nat.le_of_ble_eq_true rfl) ?_
      refine tv_aload_n C dk_X9_closes_50 rfl ?_
      refine tv_iload_n C dk_X9_closes_51 rfl ?_
      refine tv_bipush (v := 7) C dk_X9_closes_52 (by decide) ?_
      have q5 := q4.2
      refine tv_cV1 C dk_X9_closes_54 ml_RX9_55 yk_X9_of yi_X9_of (m_X9_of _ (f_X9_shuts ((f_X9_isThrown ((f_X9_isThrown M 0 1).2) 0 2).2) x1) x1 7 q4.1) (Nat.le_of_ble_eq_true rfl) rfl rfl rfl rfl (Nat.le_of_ble_eq_true rfl) (Nat.le_of_ble_eq_true rfl) (Nat.le_of_ble_eq_true rfl) (Nat.le_of_ble_eq_true rfl) (Nat.le_of_ble_eq_true rfl) ?_
      exact tv_iret C hQ dk_X9_closes_57 rfl (by rw [f_X9_closes, if_neg h1, if_neg h2]) (by rw [f_X9_closes, if_neg h1, if_neg h2])
    have q6 := q2.1 h2
    refine tv_iconst (v := 1) C dk_X9_closes_31 (by decide) ?_
    refine tv_goto C dk_X9_closes_32 ?_
    refine tv_iconst (v := 2) C dk_X9_closes_36 (by decide) ?_
    refine tv_cV1 C dk_X9_closes_37 ml_RX9_62 yk_X9_isThrown yi_X9_isThrown (m_X9_isThrown _ ((f_X9_isThrown M 0 1).2) 1 2 (tv_qt1 _ _)) (Nat.le_of_ble_eq_true rfl) rfl rfl rfl rfl (Nat.le_of_ble_eq_true rfl) (Nat.le_of_ble_eq_true rfl) (Nat.le_of_ble_eq_true rfl) (Nat.le_of_ble_eq_true rfl) (Nat.le_of_ble_eq_true rfl) ?_
    refine tv_ti (v := 1) rfl ?_
    refine tv_if_eq C dk_X9_closes_40 (fun h => absurd h (by decide)) (fun _ => ?_)
    refine tv_iconst (v := 0) C dk_X9_closes_43 (by decide) ?_
    exact tv_iret C hQ dk_X9_closes_44 rfl (by rw [f_X9_closes, if_neg h1, if_pos h2]) (by rw [f_X9_closes, if_neg h1, if_pos h2])
  have q7 := hq.1 h1
  refine tv_iconst (v := 1) C dk_X9_closes_9 (by decide) ?_
  refine tv_goto C dk_X9_closes_10 ?_
  refine tv_iconst (v := 1) C dk_X9_closes_14 (by decide) ?_
  refine tv_cV1 C dk_X9_closes_15 ml_RX9_62 yk_X9_isThrown yi_X9_isThrown (m_X9_isThrown _ M 1 1 (tv_qt1 _ _)) (Nat.le_of_ble_eq_true rfl) rfl rfl rfl rfl (Nat.le_of_ble_eq_true rfl) (Nat.le_of_ble_eq_true rfl) (Nat.le_of_ble_eq_true rfl) (Nat.le_of_ble_eq_true rfl) (Nat.le_of_ble_eq_true rfl) ?_
  refine tv_ti (v := 1) rfl ?_
  refine tv_if_ne C dk_X9_closes_18 (fun _ => ?_) (fun h => absurd h (by decide))
  refine tv_iconst (v := 0) C dk_X9_closes_43 (by decide) ?_
  exact tv_iret C hQ dk_X9_closes_44 rfl (by rw [f_X9_closes, if_pos h1]) (by rw [f_X9_closes, if_pos h1])
/-- TideVaultModel.minutePasses()V -/
def sb_X9_minutePasses (j : Nat) (y1 : Int32) (y2 : Int32) (M : tvM) : (Nat × Int32 × Int32 × tvM) ⊕ tvM := (if j = 0 then (if (tgi M 250 10) ≤ y1 then (if ((tgi (tpi M 250 0 ((tgi M 250 0) + 1)) 250 0) - (tgi (tpi M 250 0 ((tgi M 250 0) + 1)) 250 0) / 5 * 5) = 0 then (if (tgi (tpi M 250 0 ((tgi M 250 0) + 1)) 250 3) ≤ 0 then .inl (1, 0, 0, (tpi M 250 0 ((tgi M 250 0) + 1))) else .inl (1, 0, 0, (tpi (tpi M 250 0 ((tgi M 250 0) + 1)) 250 3 ((tgi (tpi M 250 0 ((tgi M 250 0) + 1)) 250 3) - 1)))) else .inl (1, 0, 0, (tpi M 250 0 ((tgi M 250 0) + 1)))) else (if (f_X9_low M (tgi M 250 0)) = 0 then .inl (0, (y1 + 1), 0, (f_X9_sets M y1 6 ((f_X9_of M y1 6) - 0))) else (if (f_X9_of M y1 3) = 2 then (if (f_X9_of M y1 6) ≤ 0 then .inl (0, (y1 + 1), 0, (f_X9_sets M y1 6 ((f_X9_of M y1 6) - 0))) else .inl (0, (y1 + 1), 0, (f_X9_sets M y1 6 ((f_X9_of M y1 6) - 1)))) else .inl (0, (y1 + 1), 0, (f_X9_sets M y1 6 ((f_X9_of M y1 6) - 0)))))) else (if j = 1 then (if (tgi M 250 10) ≤ y1 then .inl (2, 0, 0, M) else (if (f_X9_low M (tgi M 250 0)) = 0 then .inl (1, (y1 + 1), 0, M) else (if (f_X9_of M y1 3) = 2 then (if (f_X9_of M y1 6) = 0 then .inl (1, (y1 + 1), 0, (f_X9_opens M y1)) else .inl (1, (y1 + 1), 0, M)) else .inl (1, (y1 + 1), 0, M)))) else (if (tgi M 250 10) ≤ y1 then .inr M else (if (f_X9_isOver M y1) = 0 then .inl (2, (y1 + 1), 0, M) else .inl (2, (y1 + 1), 0, (f_X9_shuts M y1))))))
def s_X9_minutePasses : (Nat × Int32 × Int32 × tvM) → (Nat × Int32 × Int32 × tvM) ⊕ tvM := fun q => sb_X9_minutePasses q.1 q.2.1 q.2.2.1 q.2.2.2
def e_X9_minutePasses (M : tvM) : (Nat × Int32 × Int32 × tvM) ⊕ tvM := .inl (0, 0, 0, M)
def qb_X9_minutePasses (j : Nat) (y1 : Int32) (y2 : Int32) (M : tvM) : Prop := (j = 0 → (((tgi M 250 10) ≤ y1 → ((((tgi (tpi M 250 0 ((tgi M 250 0) + 1)) 250 0) - (tgi (tpi M 250 0 ((tgi M 250 0) + 1)) 250 0) / 5 * 5) = 0 → (((tgi (tpi M 250 0 ((tgi M 250 0) + 1)) 250 3) ≤ 0 → True) ∧ (¬ (tgi (tpi M 250 0 ((tgi M 250 0) + 1)) 250 3) ≤ 0 → True))) ∧ (¬ ((tgi (tpi M 250 0 ((tgi M 250 0) + 1)) 250 0) - (tgi (tpi M 250 0 ((tgi M 250 0) + 1)) 250 0) / 5 * 5) = 0 → True))) ∧ (¬ (tgi M 250 10) ≤ y1 → ((q_X9_low M (tgi M 250 0)) ∧ (((f_X9_low M (tgi M 250 0)) = 0 → ((q_X9_of M y1 6) ∧ ((q_X9_sets M y1 6 ((f_X9_of M y1 6) - 0)) ∧ True))) ∧ (¬ (f_X9_low M (tgi M 250 0)) = 0 → ((q_X9_of M y1 3) ∧ (((f_X9_of M y1 3) = 2 → ((q_X9_of M y1 6) ∧ (((f_X9_of M y1 6) ≤ 0 → ((q_X9_of M y1 6) ∧ ((q_X9_sets M y1 6 ((f_X9_of M y1 6) - 0)) ∧ True))) ∧ (¬ (f_X9_of M y1 6) ≤ 0 → ((q_X9_of M y1 6) ∧ ((q_X9_sets M y1 6 ((f_X9_of M y1 6) - 1)) ∧ True)))))) ∧ (¬ (f_X9_of M y1 3) = 2 → ((q_X9_of M y1 6) ∧ ((q_X9_sets M y1 6 ((f_X9_of M y1 6) - 0)) ∧ True))))))))))) ∧ (j = 1 → (((tgi M 250 10) ≤ y1 → True) ∧ (¬ (tgi M 250 10) ≤ y1 → ((q_X9_low M (tgi M 250 0)) ∧ (((f_X9_low M (tgi M 250 0)) = 0 → True) ∧ (¬ (f_X9_low M (tgi M 250 0)) = 0 → ((q_X9_of M y1 3) ∧ (((f_X9_of M y1 3) = 2 → ((q_X9_of M y1 6) ∧ (((f_X9_of M y1 6) = 0 → ((q_X9_opens M y1) ∧ True)) ∧ (¬ (f_X9_of M y1 6) = 0 → True)))) ∧ (¬ (f_X9_of M y1 3) = 2 → True))))))))) ∧ (j = 2 → (((tgi M 250 10) ≤ y1 → True) ∧ (¬ (tgi M 250 10) ≤ y1 → ((q_X9_isOver M y1) ∧ (((f_X9_isOver M y1) = 0 → True) ∧ (¬ (f_X9_isOver M y1) = 0 → ((q_X9_shuts M y1) ∧ True)))))))
def qs_X9_minutePasses : (Nat × Int32 × Int32 × tvM) → Prop := fun q => qb_X9_minutePasses q.1 q.2.1 q.2.2.1 q.2.2.2
def qe_X9_minutePasses (M : tvM) : Prop := True
theorem m_X9_minutePasses (G : tvG) (M : tvM) (n : Nat) (r : tvM) (hs : tvIter (s_X9_minutePasses) n (e_X9_minutePasses M) = some r) (hq : qe_X9_minutePasses M) (hqn : tvQ (s_X9_minutePasses) (qs_X9_minutePasses) n (e_X9_minutePasses M)) : tvRun G yX9_minutePasses cX9_minutePasses 3 none 3 0 0 tvP0 tvP0 [.ref (G.2.1 + 249)] M (.inl none) r := by
  refine tvRun.of yk_X9_minutePasses rfl [some (.ref (G.2.1 + 249)), none, none] rfl (Nat.le_of_ble_eq_true rfl) ?_
  intro E hG C hQ; subst hG
  have K : ∀ (n : Nat) (j : Nat) (y1 : Int32) (y2 : Int32) (M : tvM), tvQ (s_X9_minutePasses) (qs_X9_minutePasses) n (.inl (j, y1, y2, M)) → tvIter (s_X9_minutePasses) n (.inl (j, y1, y2, M)) = some r → (j = 0 → tv_W E tvP0 0 0 M 2 [some (.ref (E.G.2.1 + 249)), some (.int y1), none] []) ∧ (j = 1 → tv_W E tvP0 0 0 M 124 [some (.ref (E.G.2.1 + 249)), some (.int y1), none] []) ∧ (j = 2 → tv_W E tvP0 0 0 M 181 [some (.ref (E.G.2.1 + 249)), some (.int y1), none] []) := by
    intro n
    induction n with
    | zero => intro j y1 y2 M hqq hz; exact (tvIter_0 hz).elim
    | succ n ih =>
      intro j y1 y2 M hqq hz
      refine ⟨fun hj => ?_, fun hj => ?_, fun hj => ?_⟩
      · have hj : j = 0 := hj; subst hj
        have hs : tvIter (s_X9_minutePasses) n (sb_X9_minutePasses (0 : Nat) y1 y2 M) = some r := by have h9 := tvIter_go hz; exact h9
        have hqn : tvQ (s_X9_minutePasses) (qs_X9_minutePasses) n (sb_X9_minutePasses (0 : Nat) y1 y2 M) := by have h9 := (tvQ_go hqq).2; exact h9
        have hq : qb_X9_minutePasses (0 : Nat) y1 y2 M := by have h9 := (tvQ_go hqq).1; exact h9
        have hq := hq.1 rfl
        refine tv_iload_n C dk_X9_minutePasses_2 rfl ?_
        refine tv_aload_n C dk_X9_minutePasses_3 rfl ?_
        refine tv_getR (r := 250) C dk_X9_minutePasses_4 fl_RX9_9 (Nat.le_of_ble_eq_true rfl) rfl rfl (fun _ _ _ _ => rfl) ?_
        refine tv_bipush (v := 10) C dk_X9_minutePasses_7 (by decide) ?_
        refine tv_iald (j := 10) rfl C dk_X9_minutePasses_9 (Nat.le_of_ble_eq_true rfl) rfl (vp_in_nI (n := 10) (by decide) (by decide)) ?_
        refine tv_icmp_ge C dk_X9_minutePasses_10 (fun h101 => ?_) (fun h101 => ?_)
        · have q1 := hq.1 h101
          refine tv_aload_n C dk_X9_minutePasses_82 rfl ?_
          refine tv_getR (r := 250) C dk_X9_minutePasses_83 fl_RX9_9 (Nat.le_of_ble_eq_true rfl) rfl rfl (fun _ _ _ _ => rfl) ?_
          refine tv_iconst (v := 0) C dk_X9_minutePasses_86 (by decide) ?_
          refine tv_dup2 C dk_X9_minutePasses_87 rfl rfl ?_
          refine tv_iald (j := 0) rfl C dk_X9_minutePasses_88 (Nat.le_of_ble_eq_true rfl) rfl (vp_in_nI (n := 0) (by decide) (by decide)) ?_
          refine tv_iconst (v := 1) C dk_X9_minutePasses_89 (by decide) ?_
          refine tv_iadd C dk_X9_minutePasses_90 ?_
          refine tv_iast (j := 0) rfl C tvP0_ex dk_X9_minutePasses_91 (Nat.le_of_ble_eq_true rfl) rfl (vp_in_nI (n := 0) (by decide) (by decide)) ?_
          refine tv_aload_n C dk_X9_minutePasses_92 rfl ?_
          refine tv_getR (r := 250) C dk_X9_minutePasses_93 fl_RX9_9 (Nat.le_of_ble_eq_true rfl) rfl rfl (fun _ _ _ _ => rfl) ?_
          refine tv_iconst (v := 0) C dk_X9_minutePasses_96 (by decide) ?_
          refine tv_iald (j := 0) rfl C dk_X9_minutePasses_97 (Nat.le_of_ble_eq_true rfl) rfl (vp_in_nI (n := 0) (by decide) (by decide)) ?_
          refine tv_iconst (v := 5) C dk_X9_minutePasses_98 (by decide) ?_
          refine tv_irem C dk_X9_minutePasses_99 (by decide) ?_
          refine tv_if_ne C dk_X9_minutePasses_100 (fun h102 => ?_) (fun h102 => ?_)
          · have q2 := q1.2 h102
            refine tv_iconst (v := 0) C dk_X9_minutePasses_122 (by decide) ?_
            refine tv_istore_n (L' := [_, _, _]) (hn := by decide) (hlt := (Nat.le_of_ble_eq_true rfl)) (hno := rfl) C dk_X9_minutePasses_123 rfl ?_
            exact (ih 1 0 0 (tpi M 250 0 ((tgi M 250 0) + 1)) (by rw [sb_X9_minutePasses, if_pos rfl, if_pos h101, if_neg h102] at hqn; exact hqn) (by rw [sb_X9_minutePasses, if_pos rfl, if_pos h101, if_neg h102] at hs; exact hs)).2.1 rfl
          have q3 := q1.1 h102
          refine tv_aload_n C dk_X9_minutePasses_103 rfl ?_
          refine tv_getR (r := 250) C dk_X9_minutePasses_104 fl_RX9_9 (Nat.le_of_ble_eq_true rfl) rfl rfl (fun _ _ _ _ => rfl) ?_
          refine tv_iconst (v := 3) C dk_X9_minutePasses_107 (by decide) ?_
          refine tv_iald (j := 3) rfl C dk_X9_minutePasses_108 (Nat.le_of_ble_eq_true rfl) rfl (vp_in_nI (n := 3) (by decide) (by decide)) ?_
          refine tv_if_le C dk_X9_minutePasses_109 (fun h103 => ?_) (fun h103 => ?_)
          · have q4 := q3.1 h103
            refine tv_iconst (v := 0) C dk_X9_minutePasses_122 (by decide) ?_
            refine tv_istore_n (L' := [_, _, _]) (hn := by decide) (hlt := (Nat.le_of_ble_eq_true rfl)) (hno := rfl) C dk_X9_minutePasses_123 rfl ?_
            exact (ih 1 0 0 (tpi M 250 0 ((tgi M 250 0) + 1)) (by rw [sb_X9_minutePasses, if_pos rfl, if_pos h101, if_pos h102, if_pos h103] at hqn; exact hqn) (by rw [sb_X9_minutePasses, if_pos rfl, if_pos h101, if_pos h102, if_pos h103] at hs; exact hs)).2.1 rfl
          have q5 := q3.2 h103
          refine tv_aload_n C dk_X9_minutePasses_112 rfl ?_
          refine tv_getR (r := 250) C dk_X9_minutePasses_113 fl_RX9_9 (Nat.le_of_ble_eq_true rfl) rfl rfl (fun _ _ _ _ => rfl) ?_
          refine tv_iconst (v := 3) C dk_X9_minutePasses_116 (by decide) ?_
          refine tv_dup2 C dk_X9_minutePasses_117 rfl rfl ?_
          refine tv_iald (j := 3) rfl C dk_X9_minutePasses_118 (Nat.le_of_ble_eq_true rfl) rfl (vp_in_nI (n := 3) (by decide) (by decide)) ?_
          refine tv_iconst (v := 1) C dk_X9_minutePasses_119 (by decide) ?_
          refine tv_isub C dk_X9_minutePasses_120 ?_
          refine tv_iast (j := 3) rfl C tvP0_ex dk_X9_minutePasses_121 (Nat.le_of_ble_eq_true rfl) rfl (vp_in_nI (n := 3) (by decide) (by decide)) ?_
          refine tv_iconst (v := 0) C dk_X9_minutePasses_122 (by decide) ?_
          refine tv_istore_n (L' := [_, _, _]) (hn := by decide) (hlt := (Nat.le_of_ble_eq_true rfl)) (hno := rfl) C dk_X9_minutePasses_123 rfl ?_
          exact (ih 1 0 0 (tpi (tpi M 250 0 ((tgi M 250 0) + 1)) 250 3 ((tgi (tpi M 250 0 ((tgi M 250 0) + 1)) 250 3) - 1)) (by rw [sb_X9_minutePasses, if_pos rfl, if_pos h101, if_pos h102, if_neg h103] at hqn; exact hqn) (by rw [sb_X9_minutePasses, if_pos rfl, if_pos h101, if_pos h102, if_neg h103] at hs; exact hs)).2.1 rfl
        have q6 := hq.2 h101
        refine tv_aload_n C dk_X9_minutePasses_13 rfl ?_
        refine tv_aload_n C dk_X9_minutePasses_14 rfl ?_
        refine tv_getR (r := 250) C dk_X9_minutePasses_15 fl_RX9_9 (Nat.le_of_ble_eq_true rfl) rfl rfl (fun _ _ _ _ => rfl) ?_
        refine tv_iconst (v := 0) C dk_X9_minutePasses_18 (by decide) ?_
        refine tv_iald (j := 0) rfl C dk_X9_minutePasses_19 (Nat.le_of_ble_eq_true rfl) rfl (vp_in_nI (n := 0) (by decide) (by decide)) ?_
        have q7 := q6.2
        refine tv_cV1 C dk_X9_minutePasses_20 ml_RX9_126 yk_X9_low yi_X9_low (m_X9_low _ M (tgi M 250 0) q6.1) (Nat.le_of_ble_eq_true rfl) rfl rfl rfl rfl (Nat.le_of_ble_eq_true rfl) (Nat.le_of_ble_eq_true rfl) (Nat.le_of_ble_eq_true rfl) (Nat.le_of_ble_eq_true rfl) (Nat.le_of_ble_eq_true rfl) ?_
        refine tv_if_eq C dk_X9_minutePasses_23 (fun h104 => ?_) (fun h104 => ?_)
        · have q8 := q7.1 h104
          refine tv_iconst (v := 0) C dk_X9_minutePasses_50 (by decide) ?_
          refine tv_istore_n (L' := [_, _, _]) (hn := by decide) (hlt := (Nat.le_of_ble_eq_true rfl)) (hno := rfl) C dk_X9_minutePasses_51 rfl ?_
          refine tv_aload_n C dk_X9_minutePasses_52 rfl ?_
          refine tv_iload_n C dk_X9_minutePasses_53 rfl ?_
          refine tv_bipush (v := 6) C dk_X9_minutePasses_54 (by decide) ?_
          refine tv_aload_n C dk_X9_minutePasses_56 rfl ?_
          refine tv_iload_n C dk_X9_minutePasses_57 rfl ?_
          refine tv_bipush (v := 6) C dk_X9_minutePasses_58 (by decide) ?_
          have q9 := q8.2
          refine tv_cV1 C dk_X9_minutePasses_60 ml_RX9_55 yk_X9_of yi_X9_of (m_X9_of _ M y1 6 q8.1) (Nat.le_of_ble_eq_true rfl) rfl rfl rfl rfl (Nat.le_of_ble_eq_true rfl) (Nat.le_of_ble_eq_true rfl) (Nat.le_of_ble_eq_true rfl) (Nat.le_of_ble_eq_true rfl) (Nat.le_of_ble_eq_true rfl) ?_
          refine tv_iload_n C dk_X9_minutePasses_63 rfl ?_
          refine tv_if_eq C dk_X9_minutePasses_64 (fun _ => ?_) (fun h => absurd h (by decide))
          refine tv_iconst (v := 0) C dk_X9_minutePasses_71 (by decide) ?_
          refine tv_isub C dk_X9_minutePasses_72 ?_
          have q10 := q9.2
          refine tv_cV0 C dk_X9_minutePasses_73 ml_RX9_84 yk_X9_sets yi_X9_sets (m_X9_sets _ M y1 6 ((f_X9_of M y1 6) - 0) q9.1) (Nat.le_of_ble_eq_true rfl) rfl rfl rfl rfl (Nat.le_of_ble_eq_true rfl) (Nat.le_of_ble_eq_true rfl) (Nat.le_of_ble_eq_true rfl) (Nat.le_of_ble_eq_true rfl) (Nat.le_of_ble_eq_true rfl) ?_
          refine tv_iinc (v := (y1 + 1)) (L' := [_, _, _]) (hn := by decide) (hlt := (Nat.le_of_ble_eq_true rfl)) (hno := rfl) C dk_X9_minutePasses_76 rfl rfl rfl ?_
          refine tv_goto C dk_X9_minutePasses_79 ?_
          refine tv_drop (L2 := [some (.ref (E.G.2.1 + 249)), some (.int (y1 + 1)), none]) (by simp [tvSubL]) ?_
          exact (ih 0 (y1 + 1) 0 (f_X9_sets M y1 6 ((f_X9_of M y1 6) - 0)) (by rw [sb_X9_minutePasses, if_pos rfl, if_neg h101, if_pos h104] at hqn; exact hqn) (by rw [sb_X9_minutePasses, if_pos rfl, if_neg h101, if_pos h104] at hs; exact hs)).1 rfl
        have q11 := q7.2 h104
        refine tv_aload_n C dk_X9_minutePasses_26 rfl ?_
        refine tv_iload_n C dk_X9_minutePasses_27 rfl ?_
        refine tv_iconst (v := 3) C dk_X9_minutePasses_28 (by decide) ?_
        have q12 := q11.2
        refine tv_cV1 C dk_X9_minutePasses_29 ml_RX9_55 yk_X9_of yi_X9_of (m_X9_of _ M y1 3 q11.1) (Nat.le_of_ble_eq_true rfl) rfl rfl rfl rfl (Nat.le_of_ble_eq_true rfl) (Nat.le_of_ble_eq_true rfl) (Nat.le_of_ble_eq_true rfl) (Nat.le_of_ble_eq_true rfl) (Nat.le_of_ble_eq_true rfl) ?_
        refine tv_iconst (v := 2) C dk_X9_minutePasses_32 (by decide) ?_
        refine tv_icmp_ne C dk_X9_minutePasses_33 (fun h105 => ?_) (fun h105 => ?_)
        · have q13 := q12.2 h105
          refine tv_iconst (v := 0) C dk_X9_minutePasses_50 (by decide) ?_
          refine tv_istore_n (L' := [_, _, _]) (hn := by decide) (hlt := (Nat.le_of_ble_eq_true rfl)) (hno := rfl) C dk_X9_minutePasses_51 rfl ?_
          refine tv_aload_n C dk_X9_minutePasses_52 rfl ?_
          refine tv_iload_n C dk_X9_minutePasses_53 rfl ?_
          refine tv_bipush (v := 6) C dk_X9_minutePasses_54 (by decide) ?_
          refine tv_aload_n C dk_X9_minutePasses_56 rfl ?_
          refine tv_iload_n C dk_X9_minutePasses_57 rfl ?_
          refine tv_bipush (v := 6) C dk_X9_minutePasses_58 (by decide) ?_
          have q14 := q13.2
          refine tv_cV1 C dk_X9_minutePasses_60 ml_RX9_55 yk_X9_of yi_X9_of (m_X9_of _ M y1 6 q13.1) (Nat.le_of_ble_eq_true rfl) rfl rfl rfl rfl (Nat.le_of_ble_eq_true rfl) (Nat.le_of_ble_eq_true rfl) (Nat.le_of_ble_eq_true rfl) (Nat.le_of_ble_eq_true rfl) (Nat.le_of_ble_eq_true rfl) ?_
          refine tv_iload_n C dk_X9_minutePasses_63 rfl ?_
          refine tv_if_eq C dk_X9_minutePasses_64 (fun _ => ?_) (fun h => absurd h (by decide))
          refine tv_iconst (v := 0) C dk_X9_minutePasses_71 (by decide) ?_
          refine tv_isub C dk_X9_minutePasses_72 ?_
          have q15 := q14.2
          refine tv_cV0 C dk_X9_minutePasses_73 ml_RX9_84 yk_X9_sets yi_X9_sets (m_X9_sets _ M y1 6 ((f_X9_of M y1 6) - 0) q14.1) (Nat.le_of_ble_eq_true rfl) rfl rfl rfl rfl (Nat.le_of_ble_eq_true rfl) (Nat.le_of_ble_eq_true rfl) (Nat.le_of_ble_eq_true rfl) (Nat.le_of_ble_eq_true rfl) (Nat.le_of_ble_eq_true rfl) ?_
          refine tv_iinc (v := (y1 + 1)) (L' := [_, _, _]) (hn := by decide) (hlt := (Nat.le_of_ble_eq_true rfl)) (hno := rfl) C dk_X9_minutePasses_76 rfl rfl rfl ?_
          refine tv_goto C dk_X9_minutePasses_79 ?_
          refine tv_drop (L2 := [some (.ref (E.G.2.1 + 249)), some (.int (y1 + 1)), none]) (by simp [tvSubL]) ?_
          exact (ih 0 (y1 + 1) 0 (f_X9_sets M y1 6 ((f_X9_of M y1 6) - 0)) (by rw [sb_X9_minutePasses, if_pos rfl, if_neg h101, if_neg h104, if_neg h105] at hqn; exact hqn) (by rw [sb_X9_minutePasses, if_pos rfl, if_neg h101, if_neg h104, if_neg h105] at hs; exact hs)).1 rfl
        have q16 := q12.1 h105
        refine tv_aload_n C dk_X9_minutePasses_36 rfl ?_
        refine tv_iload_n C dk_X9_minutePasses_37 rfl ?_
        refine tv_bipush (v := 6) C dk_X9_minutePasses_38 (by decide) ?_
        have q17 := q16.2
        refine tv_cV1 C dk_X9_minutePasses_40 ml_RX9_55 yk_X9_of yi_X9_of (m_X9_of _ M y1 6 q16.1) (Nat.le_of_ble_eq_true rfl) rfl rfl rfl rfl (Nat.le_of_ble_eq_true rfl) (Nat.le_of_ble_eq_true rfl) (Nat.le_of_ble_eq_true rfl) (Nat.le_of_ble_eq_true rfl) (Nat.le_of_ble_eq_true rfl) ?_
        refine tv_if_le C dk_X9_minutePasses_43 (fun h106 => ?_) (fun h106 => ?_)
        · have q18 := q17.1 h106
          refine tv_iconst (v := 0) C dk_X9_minutePasses_50 (by decide) ?_
          refine tv_istore_n (L' := [_, _, _]) (hn := by decide) (hlt := (Nat.le_of_ble_eq_true rfl)) (hno := rfl) C dk_X9_minutePasses_51 rfl ?_
          refine tv_aload_n C dk_X9_minutePasses_52 rfl ?_
          refine tv_iload_n C dk_X9_minutePasses_53 rfl ?_
          refine tv_bipush (v := 6) C dk_X9_minutePasses_54 (by decide) ?_
          refine tv_aload_n C dk_X9_minutePasses_56 rfl ?_
          refine tv_iload_n C dk_X9_minutePasses_57 rfl ?_
          refine tv_bipush (v := 6) C dk_X9_minutePasses_58 (by decide) ?_
          have q19 := q18.2
          refine tv_cV1 C dk_X9_minutePasses_60 ml_RX9_55 yk_X9_of yi_X9_of (m_X9_of _ M y1 6 q18.1) (Nat.le_of_ble_eq_true rfl) rfl rfl rfl rfl (Nat.le_of_ble_eq_true rfl) (Nat.le_of_ble_eq_true rfl) (Nat.le_of_ble_eq_true rfl) (Nat.le_of_ble_eq_true rfl) (Nat.le_of_ble_eq_true rfl) ?_
          refine tv_iload_n C dk_X9_minutePasses_63 rfl ?_
          refine tv_if_eq C dk_X9_minutePasses_64 (fun _ => ?_) (fun h => absurd h (by decide))
          refine tv_iconst (v := 0) C dk_X9_minutePasses_71 (by decide) ?_
          refine tv_isub C dk_X9_minutePasses_72 ?_
          have q20 := q19.2
          refine tv_cV0 C dk_X9_minutePasses_73 ml_RX9_84 yk_X9_sets yi_X9_sets (m_X9_sets _ M y1 6 ((f_X9_of M y1 6) - 0) q19.1) (Nat.le_of_ble_eq_true rfl) rfl rfl rfl rfl (Nat.le_of_ble_eq_true rfl) (Nat.le_of_ble_eq_true rfl) (Nat.le_of_ble_eq_true rfl) (Nat.le_of_ble_eq_true rfl) (Nat.le_of_ble_eq_true rfl) ?_
          refine tv_iinc (v := (y1 + 1)) (L' := [_, _, _]) (hn := by decide) (hlt := (Nat.le_of_ble_eq_true rfl)) (hno := rfl) C dk_X9_minutePasses_76 rfl rfl rfl ?_
          refine tv_goto C dk_X9_minutePasses_79 ?_
          refine tv_drop (L2 := [some (.ref (E.G.2.1 + 249)), some (.int (y1 + 1)), none]) (by simp [tvSubL]) ?_
          exact (ih 0 (y1 + 1) 0 (f_X9_sets M y1 6 ((f_X9_of M y1 6) - 0)) (by rw [sb_X9_minutePasses, if_pos rfl, if_neg h101, if_neg h104, if_pos h105, if_pos h106] at hqn; exact hqn) (by rw [sb_X9_minutePasses, if_pos rfl, if_neg h101, if_neg h104, if_pos h105, if_pos h106] at hs; exact hs)).1 rfl
        have q21 := q17.2 h106
        refine tv_iconst (v := 1) C dk_X9_minutePasses_46 (by decide) ?_
        refine tv_goto C dk_X9_minutePasses_47 ?_
        refine tv_istore_n (L' := [_, _, _]) (hn := by decide) (hlt := (Nat.le_of_ble_eq_true rfl)) (hno := rfl) C dk_X9_minutePasses_51 rfl ?_
        refine tv_aload_n C dk_X9_minutePasses_52 rfl ?_
        refine tv_iload_n C dk_X9_minutePasses_53 rfl ?_
        refine tv_bipush (v := 6) C dk_X9_minutePasses_54 (by decide) ?_
        refine tv_aload_n C dk_X9_minutePasses_56 rfl ?_
        refine tv_iload_n C dk_X9_minutePasses_57 rfl ?_
        refine tv_bipush (v := 6) C dk_X9_minutePasses_58 (by decide) ?_
        have q22 := q21.2
        refine tv_cV1 C dk_X9_minutePasses_60 ml_RX9_55 yk_X9_of yi_X9_of (m_X9_of _ M y1 6 q21.1) (Nat.le_of_ble_eq_true rfl) rfl rfl rfl rfl (Nat.le_of_ble_eq_true rfl) (Nat.le_of_ble_eq_true rfl) (Nat.le_of_ble_eq_true rfl) (Nat.le_of_ble_eq_true rfl) (Nat.le_of_ble_eq_true rfl) ?_
        refine tv_iload_n C dk_X9_minutePasses_63 rfl ?_
        refine tv_if_eq C dk_X9_minutePasses_64 (fun h => absurd h (by decide)) (fun _ => ?_)
        refine tv_iconst (v := 1) C dk_X9_minutePasses_67 (by decide) ?_
        refine tv_goto C dk_X9_minutePasses_68 ?_
        refine tv_isub C dk_X9_minutePasses_72 ?_
        have q23 := q22.2
        refine tv_cV0 C dk_X9_minutePasses_73 ml_RX9_84 yk_X9_sets yi_X9_sets (m_X9_sets _ M y1 6 ((f_X9_of M y1 6) - 1) q22.1) (Nat.le_of_ble_eq_true rfl) rfl rfl rfl rfl (Nat.le_of_ble_eq_true rfl) (Nat.le_of_ble_eq_true rfl) (Nat.le_of_ble_eq_true rfl) (Nat.le_of_ble_eq_true rfl) (Nat.le_of_ble_eq_true rfl) ?_
        refine tv_iinc (v := (y1 + 1)) (L' := [_, _, _]) (hn := by decide) (hlt := (Nat.le_of_ble_eq_true rfl)) (hno := rfl) C dk_X9_minutePasses_76 rfl rfl rfl ?_
        refine tv_goto C dk_X9_minutePasses_79 ?_
        refine tv_drop (L2 := [some (.ref (E.G.2.1 + 249)), some (.int (y1 + 1)), none]) (by simp [tvSubL]) ?_
        exact (ih 0 (y1 + 1) 0 (f_X9_sets M y1 6 ((f_X9_of M y1 6) - 1)) (by rw [sb_X9_minutePasses, if_pos rfl, if_neg h101, if_neg h104, if_pos h105, if_neg h106] at hqn; exact hqn) (by rw [sb_X9_minutePasses, if_pos rfl, if_neg h101, if_neg h104, if_pos h105, if_neg h106] at hs; exact hs)).1 rfl
      · have hj : j = 1 := hj; subst hj
        have hs : tvIter (s_X9_minutePasses) n (sb_X9_minutePasses (1 : Nat) y1 y2 M) = some r := by have h9 := tvIter_go hz; exact h9
        have hqn : tvQ (s_X9_minutePasses) (qs_X9_minutePasses) n (sb_X9_minutePasses (1 : Nat) y1 y2 M) := by have h9 := (tvQ_go hqq).2; exact h9
        have hq : qb_X9_minutePasses (1 : Nat) y1 y2 M := by have h9 := (tvQ_go hqq).1; exact h9
        have hq := hq.2.1 rfl
        refine tv_iload_n C dk_X9_minutePasses_124 rfl ?_
        refine tv_aload_n C dk_X9_minutePasses_125 rfl ?_
        refine tv_getR (r := 250) C dk_X9_minutePasses_126 fl_RX9_9 (Nat.le_of_ble_eq_true rfl) rfl rfl (fun _ _ _ _ => rfl) ?_
        refine tv_bipush (v := 10) C dk_X9_minutePasses_129 (by decide) ?_
        refine tv_iald (j := 10) rfl C dk_X9_minutePasses_131 (Nat.le_of_ble_eq_true rfl) rfl (vp_in_nI (n := 10) (by decide) (by decide)) ?_
        refine tv_icmp_ge C dk_X9_minutePasses_132 (fun h201 => ?_) (fun h201 => ?_)
        · have q1 := hq.1 h201
          refine tv_iconst (v := 0) C dk_X9_minutePasses_179 (by decide) ?_
          refine tv_istore_n (L' := [_, _, _]) (hn := by decide) (hlt := (Nat.le_of_ble_eq_true rfl)) (hno := rfl) C dk_X9_minutePasses_180 rfl ?_
          exact (ih 2 0 0 M (by rw [sb_X9_minutePasses, if_neg (by decide), if_pos rfl, if_pos h201] at hqn; exact hqn) (by rw [sb_X9_minutePasses, if_neg (by decide), if_pos rfl, if_pos h201] at hs; exact hs)).2.2 rfl
        have q2 := hq.2 h201
        refine tv_aload_n C dk_X9_minutePasses_135 rfl ?_
        refine tv_aload_n C dk_X9_minutePasses_136 rfl ?_
        refine tv_getR (r := 250) C dk_X9_minutePasses_137 fl_RX9_9 (Nat.le_of_ble_eq_true rfl) rfl rfl (fun _ _ _ _ => rfl) ?_
        refine tv_iconst (v := 0) C dk_X9_minutePasses_140 (by decide) ?_
        refine tv_iald (j := 0) rfl C dk_X9_minutePasses_141 (Nat.le_of_ble_eq_true rfl) rfl (vp_in_nI (n := 0) (by decide) (by decide)) ?_
        have q3 := q2.2
        refine tv_cV1 C dk_X9_minutePasses_142 ml_RX9_126 yk_X9_low yi_X9_low (m_X9_low _ M (tgi M 250 0) q2.1) (Nat.le_of_ble_eq_true rfl) rfl rfl rfl rfl (Nat.le_of_ble_eq_true rfl) (Nat.le_of_ble_eq_true rfl) (Nat.le_of_ble_eq_true rfl) (Nat.le_of_ble_eq_true rfl) (Nat.le_of_ble_eq_true rfl) ?_
        refine tv_if_eq C dk_X9_minutePasses_145 (fun h202 => ?_) (fun h202 => ?_)
        · have q4 := q3.1 h202
          refine tv_iinc (v := (y1 + 1)) (L' := [_, _, _]) (hn := by decide) (hlt := (Nat.le_of_ble_eq_true rfl)) (hno := rfl) C dk_X9_minutePasses_173 rfl rfl rfl ?_
          refine tv_goto C dk_X9_minutePasses_176 ?_
          exact (ih 1 (y1 + 1) 0 M (by rw [sb_X9_minutePasses, if_neg (by decide), if_pos rfl, if_neg h201, if_pos h202] at hqn; exact hqn) (by rw [sb_X9_minutePasses, if_neg (by decide), if_pos rfl, if_neg h201, if_pos h202] at hs; exact hs)).2.1 rfl
        have q5 := q3.2 h202
        refine tv_aload_n C dk_X9_minutePasses_148 rfl ?_
        refine tv_iload_n C dk_X9_minutePasses_149 rfl ?_
        refine tv_iconst (v := 3) C dk_X9_minutePasses_150 (by decide) ?_
        have q6 := q5.2
        refine tv_cV1 C dk_X9_minutePasses_151 ml_RX9_55 yk_X9_of yi_X9_of (m_X9_of _ M y1 3 q5.1) (Nat.le_of_ble_eq_true rfl) rfl rfl rfl rfl (Nat.le_of_ble_eq_true rfl) (Nat.le_of_ble_eq_true rfl) (Nat.le_of_ble_eq_true rfl) (Nat.le_of_ble_eq_true rfl) (Nat.le_of_ble_eq_true rfl) ?_
        refine tv_iconst (v := 2) C dk_X9_minutePasses_154 (by decide) ?_
        refine tv_icmp_ne C dk_X9_minutePasses_155 (fun h203 => ?_) (fun h203 => ?_)
        · have q7 := q6.2 h203
          refine tv_iinc (v := (y1 + 1)) (L' := [_, _, _]) (hn := by decide) (hlt := (Nat.le_of_ble_eq_true rfl)) (hno := rfl) C dk_X9_minutePasses_173 rfl rfl rfl ?_
          refine tv_goto C dk_X9_minutePasses_176 ?_
          exact (ih 1 (y1 + 1) 0 M (by rw [sb_X9_minutePasses, if_neg (by decide), if_pos rfl, if_neg h201, if_neg h202, if_neg h203] at hqn; exact hqn) (by rw [sb_X9_minutePasses, if_neg (by decide), if_pos rfl, if_neg h201, if_neg h202, if_neg h203] at hs; exact hs)).2.1 rfl
        have q8 := q6.1 h203
        refine tv_aload_n C dk_X9_minutePasses_158 rfl ?_
        refine tv_iload_n C dk_X9_minutePasses_159 rfl ?_
        refine tv_bipush (v := 6) C dk_X9_minutePasses_160 (by decide) ?_
        have q9 := q8.2
        refine tv_cV1 C dk_X9_minutePasses_162 ml_RX9_55 yk_X9_of yi_X9_of (m_X9_of _ M y1 6 q8.1) (Nat.le_of_ble_eq_true rfl) rfl rfl rfl rfl (Nat.le_of_ble_eq_true rfl) (Nat.le_of_ble_eq_true rfl) (Nat.le_of_ble_eq_true rfl) (Nat.le_of_ble_eq_true rfl) (Nat.le_of_ble_eq_true rfl) ?_
        refine tv_if_ne C dk_X9_minutePasses_165 (fun h204 => ?_) (fun h204 => ?_)
        · have q10 := q9.2 h204
          refine tv_iinc (v := (y1 + 1)) (L' := [_, _, _]) (hn := by decide) (hlt := (Nat.le_of_ble_eq_true rfl)) (hno := rfl) C dk_X9_minutePasses_173 rfl rfl rfl ?_
          refine tv_goto C dk_X9_minutePasses_176 ?_
          exact (ih 1 (y1 + 1) 0 M (by rw [sb_X9_minutePasses, if_neg (by decide), if_pos rfl, if_neg h201, if_neg h202, if_pos h203, if_neg h204] at hqn; exact hqn) (by rw [sb_X9_minutePasses, if_neg (by decide), if_pos rfl, if_neg h201, if_neg h202, if_pos h203, if_neg h204] at hs; exact hs)).2.1 rfl
        have q11 := q9.1 h204
        refine tv_aload_n C dk_X9_minutePasses_168 rfl ?_
        refine tv_iload_n C dk_X9_minutePasses_169 rfl ?_
        have q12 := q11.2
        refine tv_cV0 C dk_X9_minutePasses_170 ml_RX9_129 yk_X9_opens yi_X9_opens (m_X9_opens _ M y1 q11.1) (Nat.le_of_ble_eq_true rfl) rfl rfl rfl rfl (Nat.le_of_ble_eq_true rfl) (Nat.le_of_ble_eq_true rfl) (Nat.le_of_ble_eq_true rfl) (Nat.le_of_ble_eq_true rfl) (Nat.le_of_ble_eq_true rfl) ?_
        refine tv_iinc (v := (y1 + 1)) (L' := [_, _, _]) (hn := by decide) (hlt := (Nat.le_of_ble_eq_true rfl)) (hno := rfl) C dk_X9_minutePasses_173 rfl rfl rfl ?_
        refine tv_goto C dk_X9_minutePasses_176 ?_
        exact (ih 1 (y1 + 1) 0 (f_X9_opens M y1) (by rw [sb_X9_minutePasses, if_neg (by decide), if_pos rfl, if_neg h201, if_neg h202, if_pos h203, if_pos h204] at hqn; exact hqn) (by rw [sb_X9_minutePasses, if_neg (by decide), if_pos rfl, if_neg h201, if_neg h202, if_pos h203, if_pos h204] at hs; exact hs)).2.1 rfl
      · have hj : j = 2 := hj; subst hj
        have hs : tvIter (s_X9_minutePasses) n (sb_X9_minutePasses (2 : Nat) y1 y2 M) = some r := by have h9 := tvIter_go hz; exact h9
        have hqn : tvQ (s_X9_minutePasses) (qs_X9_minutePasses) n (sb_X9_minutePasses (2 : Nat) y1 y2 M) := by have h9 := (tvQ_go hqq).2; exact h9
        have hq : qb_X9_minutePasses (2 : Nat) y1 y2 M := by have h9 := (tvQ_go hqq).1; exact h9
        have hq := hq.2.2 rfl
        refine tv_iload_n C dk_X9_minutePasses_181 rfl ?_
        refine tv_aload_n C dk_X9_minutePasses_182 rfl ?_
        refine tv_getR (r := 250) C dk_X9_minutePasses_183 fl_RX9_9 (Nat.le_of_ble_eq_true rfl) rfl rfl (fun _ _ _ _ => rfl) ?_
        refine tv_bipush (v := 10) C dk_X9_minutePasses_186 (by decide) ?_
        refine tv_iald (j := 10) rfl C dk_X9_minutePasses_188 (Nat.le_of_ble_eq_true rfl) rfl (vp_in_nI (n := 10) (by decide) (by decide)) ?_
        refine tv_icmp_ge C dk_X9_minutePasses_189 (fun h301 => ?_) (fun h301 => ?_)
        · have q1 := hq.1 h301
          exact tv_vret C hQ dk_X9_minutePasses_211 rfl (by rw [sb_X9_minutePasses, if_neg (by decide), if_neg (by decide), if_pos h301] at hs; rw [← tvIter_out hs])
        have q2 := hq.2 h301
        refine tv_aload_n C dk_X9_minutePasses_192 rfl ?_
        refine tv_iload_n C dk_X9_minutePasses_193 rfl ?_
        have q3 := q2.2
        refine tv_cV1 C dk_X9_minutePasses_194 ml_RX9_156 yk_X9_isOver yi_X9_isOver (m_X9_isOver _ M y1 q2.1) (Nat.le_of_ble_eq_true rfl) rfl rfl rfl rfl (Nat.le_of_ble_eq_true rfl) (Nat.le_of_ble_eq_true rfl) (Nat.le_of_ble_eq_true rfl) (Nat.le_of_ble_eq_true rfl) (Nat.le_of_ble_eq_true rfl) ?_
        refine tv_if_eq C dk_X9_minutePasses_197 (fun h302 => ?_) (fun h302 => ?_)
        · have q4 := q3.1 h302
          refine tv_iinc (v := (y1 + 1)) (L' := [_, _, _]) (hn := by decide) (hlt := (Nat.le_of_ble_eq_true rfl)) (hno := rfl) C dk_X9_minutePasses_205 rfl rfl rfl ?_
          refine tv_goto C dk_X9_minutePasses_208 ?_
          exact (ih 2 (y1 + 1) 0 M (by rw [sb_X9_minutePasses, if_neg (by decide), if_neg (by decide), if_neg h301, if_pos h302] at hqn; exact hqn) (by rw [sb_X9_minutePasses, if_neg (by decide), if_neg (by decide), if_neg h301, if_pos h302] at hs; exact hs)).2.2 rfl
        have q5 := q3.2 h302
        refine tv_aload_n C dk_X9_minutePasses_200 rfl ?_
        refine tv_iload_n C dk_X9_minutePasses_201 rfl ?_
        have q6 := q5.2
        refine tv_cV0 C dk_X9_minutePasses_202 ml_RX9_150 yk_X9_shuts yi_X9_shuts (m_X9_shuts _ M y1 q5.1) (Nat.le_of_ble_eq_true rfl) rfl rfl rfl rfl (Nat.le_of_ble_eq_true rfl) (Nat.le_of_ble_eq_true rfl) (Nat.le_of_ble_eq_true rfl) (Nat.le_of_ble_eq_true rfl) (Nat.le_of_ble_eq_true rfl) ?_
        refine tv_iinc (v := (y1 + 1)) (L' := [_, _, _]) (hn := by decide) (hlt := (Nat.le_of_ble_eq_true rfl)) (hno := rfl) C dk_X9_minutePasses_205 rfl rfl rfl ?_
        refine tv_goto C dk_X9_minutePasses_208 ?_
        exact (ih 2 (y1 + 1) 0 (f_X9_shuts M y1) (by rw [sb_X9_minutePasses, if_neg (by decide), if_neg (by decide), if_neg h301, if_neg h302] at hqn; exact hqn) (by rw [sb_X9_minutePasses, if_neg (by decide), if_neg (by decide), if_neg h301, if_neg h302] at hs; exact hs)).2.2 rfl
  refine tv_iconst (v := 0) C dk_X9_minutePasses_0 (by decide) ?_
  refine tv_istore_n (L' := [_, _, _]) (hn := by decide) (hlt := (Nat.le_of_ble_eq_true rfl)) (hno := rfl) C dk_X9_minutePasses_1 rfl ?_
  exact (K n 0 0 0 M (by rw [e_X9_minutePasses] at hqn; exact hqn) (by rw [e_X9_minutePasses] at hs; exact hs)).1 rfl
def f_X9_minutePasses (M : tvM) : tvM := (tvIter (s_X9_minutePasses) 5000 (e_X9_minutePasses M)).getD M
def q_X9_minutePasses (M : tvM) : Prop := qe_X9_minutePasses M ∧ (∃ r, tvIter (s_X9_minutePasses) 5000 (e_X9_minutePasses M) = some r) ∧ tvQ (s_X9_minutePasses) (qs_X9_minutePasses) 5000 (e_X9_minutePasses M)
theorem n_X9_minutePasses (G : tvG) (M : tvM) (hq : q_X9_minutePasses M) : tvRun G yX9_minutePasses cX9_minutePasses 3 none 3 0 0 tvP0 tvP0 [.ref (G.2.1 + 249)] M (.inl none) (f_X9_minutePasses M) := by
  obtain ⟨h1, ⟨r, h2⟩, h3⟩ := hq
  have h4 : f_X9_minutePasses M = r := by show (tvIter _ _ _).getD _ = _; rw [h2]; rfl
  rw [h4]
  exact m_X9_minutePasses G M _ r h2 h1 h3
/-- TideVaultModel.waits(I)I -/
def sb_X9_waits (x1 : Int32) (y2 : Int32) (y3 : Int32) (M : tvM) : (Int32 × Int32 × tvM) ⊕ (Int32 × tvM) := (if x1 ≤ y3 then .inr (((tgi M 250 8) - y2), M) else .inl (y2, (y3 + 1), (f_X9_minutePasses M)))
def s_X9_waits (x1 : Int32) : (Int32 × Int32 × tvM) → (Int32 × Int32 × tvM) ⊕ (Int32 × tvM) := fun q => sb_X9_waits x1 q.1 q.2.1 q.2.2
def e_X9_waits (M : tvM) (x1 : Int32) : (Int32 × Int32 × tvM) ⊕ (Int32 × tvM) := (if (f_X9_isIn M x1 1 240) = 0 then .inr (0, (f_X9_isThrown M 1 1).2) else .inl ((tgi ((f_X9_isThrown M 0 1).2) 250 8), 0, (f_X9_isThrown M 0 1).2))
def qb_X9_waits (x1 : Int32) (y2 : Int32) (y3 : Int32) (M : tvM) : Prop := ((x1 ≤ y3 → True) ∧ (¬ x1 ≤ y3 → ((q_X9_minutePasses M) ∧ True)))
def qs_X9_waits (x1 : Int32) : (Int32 × Int32 × tvM) → Prop := fun q => qb_X9_waits x1 q.1 q.2.1 q.2.2
def qe_X9_waits (M : tvM) (x1 : Int32) : Prop := (((f_X9_isIn M x1 1 240) = 0 → True) ∧ (¬ (f_X9_isIn M x1 1 240) = 0 → True))
theorem m_X9_waits (G : tvG) (M : tvM) (x1 : Int32) (n : Nat) (r : (Int32 × tvM)) (hs : tvIter (s_X9_waits x1) n (e_X9_waits M x1) = some r) (hq : qe_X9_waits M x1) (hqn : tvQ (s_X9_waits x1) (qs_X9_waits x1) n (e_X9_waits M x1)) : tvRun G yX9_waits cX9_waits 4 (some .int) 4 0 0 tvP0 tvP0 [.ref (G.2.1 + 249), .int x1] M (.inl (some (.int r.1))) r.2 := by
  refine tvRun.of yk_X9_waits rfl [some (.ref (G.2.1 + 249)), some (.int x1), none, none] rfl (Nat.le_of_ble_eq_true rfl) ?_
  intro E hG C hQ; subst hG
  have K : ∀ (n : Nat) (y2 : Int32) (y3 : Int32) (M : tvM), tvQ (s_X9_waits x1) (qs_X9_waits x1) n (.inl (y2, y3, M)) → tvIter (s_X9_waits x1) n (.inl (y2, y3, M)) = some r → tv_W E tvP0 0 0 M 36 [some (.ref (E.G.2.1 + 249)), some (.int x1), some (.int y2), some (.int y3)] [] := by
    intro n
    induction n with
    | zero => intro y2 y3 M hqq hz; exact (tvIter_0 hz).elim
    | succ n ih =>
      intro y2 y3 M hqq hz
      have hs : tvIter (s_X9_waits x1) n (sb_X9_waits x1 y2 y3 M) = some r := by have h9 := tvIter_go hz; exact h9
      have hqn : tvQ (s_X9_waits x1) (qs_X9_waits x1) n (sb_X9_waits x1 y2 y3 M) := by have h9 := (tvQ_go hqq).2; exact h9
      have hq : qb_X9_waits x1 y2 y3 M := by have h9 := (tvQ_go hqq).1; exact h9
      refine tv_iload_n C dk_X9_waits_36 rfl ?_
      refine tv_iload_n C dk_X9_waits_37 rfl ?_
      refine tv_icmp_ge C dk_X9_waits_38 (fun h101 => ?_) (fun h101 => ?_)
      · have q1 := hq.1 h101
        refine tv_aload_n C dk_X9_waits_51 rfl ?_
        refine tv_getR (r := 250) C dk_X9_waits_52 fl_RX9_9 (Nat.le_of_ble_eq_true rfl) rfl rfl (fun _ _ _ _ => rfl) ?_
        refine tv_bipush (v := 8) C dk_X9_waits_55 (by decide) ?_
        refine tv_iald (j := 8) rfl C dk_X9_waits_57 (Nat.le_of_ble_eq_true rfl) rfl (vp_in_nI (n := 8) (by decide) (by decide)) ?_
        refine tv_iload_n C dk_X9_waits_58 rfl ?_
        refine tv_isub C dk_X9_waits_59 ?_
        exact tv_iret C hQ dk_X9_waits_60 rfl (by rw [sb_X9_waits, if_pos h101] at hs; rw [← tvIter_out hs]) (by rw [sb_X9_waits, if_pos h101] at hs; rw [← tvIter_out hs])
      have q2 := hq.2 h101
      refine tv_aload_n C dk_X9_waits_41 rfl ?_
      have q3 := q2.2
      refine tv_cV0 C dk_X9_waits_42 ml_RX9_159 yk_X9_minutePasses yi_X9_minutePasses (n_X9_minutePasses _ M q2.1) (Nat.le_of_ble_eq_true rfl) rfl rfl rfl rfl (Nat.le_of_ble_eq_true rfl) (Nat.le_of_ble_eq_true rfl) (Nat.le_of_ble_eq_true rfl) (Nat.le_of_ble_eq_true rfl) (Nat.le_of_ble_eq_true rfl) ?_
      refine tv_iinc (v := (y3 + 1)) (L' := [_, _, _, _]) (hn := by decide) (hlt := (Nat.le_of_ble_eq_true rfl)) (hno := rfl) C dk_X9_waits_45 rfl rfl rfl ?_
      refine tv_goto C dk_X9_waits_48 ?_
      exact (ih y2 (y3 + 1) (f_X9_minutePasses M) (by rw [sb_X9_waits, if_neg h101] at hqn; exact hqn) (by rw [sb_X9_waits, if_neg h101] at hs; exact hs))
  refine tv_aload_n C dk_X9_waits_0 rfl ?_
  refine tv_iload_n C dk_X9_waits_1 rfl ?_
  refine tv_iconst (v := 1) C dk_X9_waits_2 (by decide) ?_
  refine tv_sipush (v := 240) C dk_X9_waits_3 (by decide) ?_
  refine tv_cS1 C dk_X9_waits_6 ml_RX9_51 yk_X9_isIn yi_X9_isIn (m_X9_isIn _ M x1 1 240) rfl rfl (Nat.le_of_ble_eq_true rfl) (Nat.le_of_ble_eq_true rfl) (Nat.le_of_ble_eq_true rfl) (Nat.le_of_ble_eq_true rfl) (Nat.le_of_ble_eq_true rfl) ?_
  refine tv_if_ne C dk_X9_waits_9 (fun h1 => ?_) (fun h1 => ?_)
  · have q1 := hq.2 h1
    refine tv_iconst (v := 0) C dk_X9_waits_16 (by decide) ?_
    refine tv_iconst (v := 1) C dk_X9_waits_17 (by decide) ?_
    refine tv_cV1 C dk_X9_waits_18 ml_RX9_62 yk_X9_isThrown yi_X9_isThrown (m_X9_isThrown _ M 0 1 (tv_qt0 _ _)) (Nat.le_of_ble_eq_true rfl) rfl rfl rfl rfl (Nat.le_of_ble_eq_true rfl) (Nat.le_of_ble_eq_true rfl) (Nat.le_of_ble_eq_true rfl) (Nat.le_of_ble_eq_true rfl) (Nat.le_of_ble_eq_true rfl) ?_
    refine tv_ti (v := 0) rfl ?_
    refine tv_if_eq C dk_X9_waits_21 (fun _ => ?_) (fun h => absurd h (by decide))
    refine tv_aload_n C dk_X9_waits_26 rfl ?_
    refine tv_getR (r := 250) C dk_X9_waits_27 fl_RX9_9 (Nat.le_of_ble_eq_true rfl) rfl rfl (fun _ _ _ _ => rfl) ?_
    refine tv_bipush (v := 8) C dk_X9_waits_30 (by decide) ?_
    refine tv_iald (j := 8) rfl C dk_X9_waits_32 (Nat.le_of_ble_eq_true rfl) rfl (vp_in_nI (n := 8) (by decide) (by decide)) ?_
    refine tv_istore_n (L' := [_, _, _, _]) (hn := by decide) (hlt := (Nat.le_of_ble_eq_true rfl)) (hno := rfl) C dk_X9_waits_33 rfl ?_
    refine tv_iconst (v := 0) C dk_X9_waits_34 (by decide) ?_
    refine tv_istore_n (L' := [_, _, _, _]) (hn := by decide) (hlt := (Nat.le_of_ble_eq_true rfl)) (hno := rfl) C dk_X9_waits_35 rfl ?_
    exact (K n (tgi ((f_X9_isThrown M 0 1).2) 250 8) 0 ((f_X9_isThrown M 0 1).2) (by rw [e_X9_waits, if_neg h1] at hqn; exact hqn) (by rw [e_X9_waits, if_neg h1] at hs; exact hs))
  have q2 := hq.1 h1
  refine tv_iconst (v := 1) C dk_X9_waits_12 (by decide) ?_
  refine tv_goto C dk_X9_waits_13 ?_
  refine tv_iconst (v := 1) C dk_X9_waits_17 (by decide) ?_
  refine tv_cV1 C dk_X9_waits_18 ml_RX9_62 yk_X9_isThrown yi_X9_isThrown (m_X9_isThrown _ M 1 1 (tv_qt1 _ _)) (Nat.le_of_ble_eq_true rfl) rfl rfl rfl rfl (Nat.le_of_ble_eq_true rfl) (Nat.le_of_ble_eq_true rfl) (Nat.le_of_ble_eq_true rfl) (Nat.le_of_ble_eq_true rfl) (Nat.le_of_ble_eq_true rfl) ?_
  refine tv_ti (v := 1) rfl ?_
  refine tv_if_eq C dk_X9_waits_21 (fun h => absurd h (by decide)) (fun _ => ?_)
  refine tv_iconst (v := 0) C dk_X9_waits_24 (by decide) ?_
  exact tv_iret C hQ dk_X9_waits_25 rfl (by rw [e_X9_waits, if_pos h1] at hs; rw [← tvIter_out hs]) (by rw [e_X9_waits, if_pos h1] at hs; rw [← tvIter_out hs])
def f_X9_waits (M : tvM) (x1 : Int32) : (Int32 × tvM) := (tvIter (s_X9_waits x1) 5000 (e_X9_waits M x1)).getD (0, M)
def q_X9_waits (M : tvM) (x1 : Int32) : Prop := qe_X9_waits M x1 ∧ (∃ r, tvIter (s_X9_waits x1) 5000 (e_X9_waits M x1) = some r) ∧ tvQ (s_X9_waits x1) (qs_X9_waits x1) 5000 (e_X9_waits M x1)
theorem n_X9_waits (G : tvG) (M : tvM) (x1 : Int32) (hq : q_X9_waits M x1) : tvRun G yX9_waits cX9_waits 4 (some .int) 4 0 0 tvP0 tvP0 [.ref (G.2.1 + 249), .int x1] M (.inl (some (.int (f_X9_waits M x1).1))) ((f_X9_waits M x1).2) := by
  obtain ⟨h1, ⟨r, h2⟩, h3⟩ := hq
  have h4 : f_X9_waits M x1 = r := by show (tvIter _ _ _).getD _ = _; rw [h2]; rfl
  rw [h4]
  exact m_X9_waits G M x1 _ r h2 h1 h3
