/-- TideVaultModel.writeBox(I)I -/
def sb_X9_writeBox (x1 : Int32) (y2 : Int32) (M : tvM) : (Int32 × tvM) ⊕ (Int32 × tvM) := (if (f_X9_of M x1 7) ≤ y2 then .inr ((tgi M 249 12), M) else (if y2 ≤ 0 then .inl ((y2 + 1), (f_X9_number M (f_X9_of M x1 (8 + y2)))) else .inl ((y2 + 1), (f_X9_number (f_X9_puts M 44) (f_X9_of (f_X9_puts M 44) x1 (8 + y2))))))
def s_X9_writeBox (x1 : Int32) : (Int32 × tvM) → (Int32 × tvM) ⊕ (Int32 × tvM) := fun q => sb_X9_writeBox x1 q.1 q.2
def e_X9_writeBox (M : tvM) (x1 : Int32) : (Int32 × tvM) ⊕ (Int32 × tvM) := (if (f_X9_isBox M x1) = 0 then .inr (0, (f_X9_isThrown M 1 1).2) else .inl (0, (f_X9_puts (f_X9_puts (f_X9_number (tpi ((f_X9_isThrown M 0 1).2) 249 12 0) x1) (f_X9_sign (f_X9_number (tpi ((f_X9_isThrown M 0 1).2) 249 12 0) x1) (f_X9_of (f_X9_number (tpi ((f_X9_isThrown M 0 1).2) 249 12 0) x1) x1 3))) 58)))
def qb_X9_writeBox (x1 : Int32) (y2 : Int32) (M : tvM) : Prop := ((q_X9_of M x1 7) ∧ (((f_X9_of M x1 7) ≤ y2 → True) ∧ (¬ (f_X9_of M x1 7) ≤ y2 → ((y2 ≤ 0 → ((q_X9_of M x1 (8 + y2)) ∧ ((q_X9_number M (f_X9_of M x1 (8 + y2))) ∧ True))) ∧ (¬ y2 ≤ 0 → ((q_X9_puts M 44) ∧ ((q_X9_of (f_X9_puts M 44) x1 (8 + y2)) ∧ ((q_X9_number (f_X9_puts M 44) (f_X9_of (f_X9_puts M 44) x1 (8 + y2))) ∧ True))))))))
def qs_X9_writeBox (x1 : Int32) : (Int32 × tvM) → Prop := fun q => qb_X9_writeBox x1 q.1 q.2
def qe_X9_writeBox (M : tvM) (x1 : Int32) : Prop := (((f_X9_isBox M x1) = 0 → True) ∧ (¬ (f_X9_isBox M x1) = 0 → ((q_X9_number (tpi ((f_X9_isThrown M 0 1).2) 249 12 0) x1) ∧ ((q_X9_of (f_X9_number (tpi ((f_X9_isThrown M 0 1).2) 249 12 0) x1) x1 3) ∧ ((q_X9_sign (f_X9_number (tpi ((f_X9_isThrown M 0 1).2) 249 12 0) x1) (f_X9_of (f_X9_number (tpi ((f_X9_isThrown M 0 1).2) 249 12 0) x1) x1 3)) ∧ ((q_X9_puts (f_X9_number (tpi ((f_X9_isThrown M 0 1).2) 249 12 0) x1) (f_X9_sign (f_X9_number (tpi ((f_X9_isThrown M 0 1).2) 249 12 0) x1) (f_X9_of (f_X9_number (tpi ((f_X9_isThrown M 0 1).2) 249 12 0) x1) x1 3))) ∧ ((q_X9_puts (f_X9_puts (f_X9_number (tpi ((f_X9_isThrown M 0 1).2) 249 12 0) x1) (f_X9_sign (f_X9_number (tpi ((f_X9_isThrown M 0 1).2) 249 12 0) x1) (f_X9_of (f_X9_number (tpi ((f_X9_isThrown M 0 1).2) 249 12 0) x1) x1 3))) 58) ∧ True)))))))
theorem m_X9_writeBox (G : tvG) (M : tvM) (x1 : Int32) (n : Nat) (r : (Int32 × tvM)) (hs : tvIter (s_X9_writeBox x1) n (e_X9_writeBox M x1) = some r) (hq : qe_X9_writeBox M x1) (hqn : tvQ (s_X9_writeBox x1) (qs_X9_writeBox x1) n (e_X9_writeBox M x1)) : tvRun G yX9_writeBox cX9_writeBox 3 (some .int) 6 0 0 tvP0 tvP0 [.ref (G.2.1 + 249), .int x1] M (.inl (some (.int r.1))) r.2 := by
  refine tvRun.of yk_X9_writeBox rfl [some (.ref (G.2.1 + 249)), some (.int x1), none] rfl (Nat.le_of_ble_eq_true rfl) ?_
  intro E hG C hQ; subst hG
  have K : ∀ (n : Nat) (y2 : Int32) (M : tvM), tvQ (s_X9_writeBox x1) (qs_X9_writeBox x1) n (.inl (y2, M)) → tvIter (s_X9_writeBox x1) n (.inl (y2, M)) = some r → tv_W E tvP0 0 0 M 54 [some (.ref (E.G.2.1 + 249)), some (.int x1), some (.int y2)] [] := by
    intro n
    induction n with
    | zero => intro y2 M hqq hz; exact (tvIter_0 hz).elim
    | succ n ih =>
      intro y2 M hqq hz
      have hs : tvIter (s_X9_writeBox x1) n (sb_X9_writeBox x1 y2 M) = some r := by have h9 := tvIter_go hz; exact h9
      have hqn : tvQ (s_X9_writeBox x1) (qs_X9_writeBox x1) n (sb_X9_writeBox x1 y2 M) := by have h9 := (tvQ_go hqq).2; exact h9
      have hq : qb_X9_writeBox x1 y2 M := by have h9 := (tvQ_go hqq).1; exact h9
      refine tv_iload_n C dk_X9_writeBox_54 rfl ?_
      refine tv_aload_n C dk_X9_writeBox_55 rfl ?_
      refine tv_iload_n C dk_X9_writeBox_56 rfl ?_
      refine tv_bipush (v := 7) C dk_X9_writeBox_57 (by decide) ?_
      have q1 := hq.2
      refine tv_cV1 C dk_X9_writeBox_59 ml_RX9_55 yk_X9_of yi_X9_of (m_X9_of _ M x1 7 hq.1) (Nat.le_of_ble_eq_true rfl) rfl rfl rfl rfl (Nat.le_of_ble_eq_true rfl) (Nat.le_of_ble_eq_true rfl) (Nat.le_of_ble_eq_true rfl) (Nat.le_of_ble_eq_true rfl) (Nat.le_of_ble_eq_true rfl) ?_
      refine tv_icmp_ge C dk_X9_writeBox_62 (fun h101 => ?_) (fun h101 => ?_)
      · have q2 := q1.1 h101
        refine tv_aload_n C dk_X9_writeBox_94 rfl ?_
        refine tv_getI C dk_X9_writeBox_95 fl_RX9_187 (Nat.le_of_ble_eq_true rfl) rfl (fun _ _ _ _ => rfl) ?_
        exact tv_iret C hQ dk_X9_writeBox_98 rfl (by rw [sb_X9_writeBox, if_pos h101] at hs; rw [← tvIter_out hs]) (by rw [sb_X9_writeBox, if_pos h101] at hs; rw [← tvIter_out hs])
      have q3 := q1.2 h101
      refine tv_iload_n C dk_X9_writeBox_65 rfl ?_
      refine tv_if_le C dk_X9_writeBox_66 (fun h102 => ?_) (fun h102 => ?_)
      · have q4 := q3.1 h102
        refine tv_aload_n C dk_X9_writeBox_75 rfl ?_
        refine tv_aload_n C dk_X9_writeBox_76 rfl ?_
        refine tv_iload_n C dk_X9_writeBox_77 rfl ?_
        refine tv_bipush (v := 8) C dk_X9_writeBox_78 (by decide) ?_
        refine tv_iload_n C dk_X9_writeBox_80 rfl ?_
        refine tv_iadd C dk_X9_writeBox_81 ?_
        have q5 := q4.2
        refine tv_cV1 C dk_X9_writeBox_82 ml_RX9_55 yk_X9_of yi_X9_of (m_X9_of _ M x1 (8 + y2) q4.1) (Nat.le_of_ble_eq_true rfl) rfl rfl rfl rfl (Nat.le_of_ble_eq_true rfl) (Nat.le_of_ble_eq_true rfl) (Nat.le_of_ble_eq_true rfl) (Nat.le_of_ble_eq_true rfl) (Nat.le_of_ble_eq_true rfl) ?_
        have q6 := q5.2
        refine tv_cV0 C dk_X9_writeBox_85 ml_RX9_190 yk_X9_number yi_X9_number (m_X9_number _ M (f_X9_of M x1 (8 + y2)) q5.1) (Nat.le_of_ble_eq_true rfl) rfl rfl rfl rfl (Nat.le_of_ble_eq_true rfl) (Nat.le_of_ble_eq_true rfl) (Nat.le_of_ble_eq_true rfl) (Nat.le_of_ble_eq_true rfl) (Nat.le_of_ble_eq_true rfl) ?_
        refine tv_iinc (v := (y2 + 1)) (L' := [_, _, _]) (hn := by decide) (hlt := (Nat.le_of_ble_eq_true rfl)) (hno := rfl) C dk_X9_writeBox_88 rfl rfl rfl ?_
        refine tv_goto C dk_X9_writeBox_91 ?_
        exact (ih (y2 + 1) (f_X9_number M (f_X9_of M x1 (8 + y2))) (by rw [sb_X9_writeBox, if_neg h101, if_pos h102] at hqn; exact hqn) (by rw [sb_X9_writeBox, if_neg h101, if_pos h102] at hs; exact hs))
      have q7 := q3.2 h102
      refine tv_aload_n C dk_X9_writeBox_69 rfl ?_
      refine tv_bipush (v := 44) C dk_X9_writeBox_70 (by decide) ?_
      have q8 := q7.2
      refine tv_cV0 C dk_X9_writeBox_72 ml_RX9_193 yk_X9_puts yi_X9_puts (m_X9_puts _ M 44 q7.1) (Nat.le_of_ble_eq_true rfl) rfl rfl rfl rfl (Nat.le_of_ble_eq_true rfl) (Nat.le_of_ble_eq_true rfl) (Nat.le_of_ble_eq_true rfl) (Nat.le_of_ble_eq_true rfl) (Nat.le_of_ble_eq_true rfl) ?_
      refine tv_aload_n C dk_X9_writeBox_75 rfl ?_
      refine tv_aload_n C dk_X9_writeBox_76 rfl ?_
      refine tv_iload_n C dk_X9_writeBox_77 rfl ?_
      refine tv_bipush (v := 8) C dk_X9_writeBox_78 (by decide) ?_
      refine tv_iload_n C dk_X9_writeBox_80 rfl ?_
      refine tv_iadd C dk_X9_writeBox_81 ?_
      have q9 := q8.2
      refine tv_cV1 C dk_X9_writeBox_82 ml_RX9_55 yk_X9_of yi_X9_of (m_X9_of _ (f_X9_puts M 44) x1 (8 + y2) q8.1) (Nat.le_of_ble_eq_true rfl) rfl rfl rfl rfl (Nat.le_of_ble_eq_true rfl) (Nat.le_of_ble_eq_true rfl) (Nat.le_of_ble_eq_true rfl) (Nat.le_of_ble_eq_true rfl) (Nat.le_of_ble_eq_true rfl) ?_
      have q10 := q9.2
      refine tv_cV0 C dk_X9_writeBox_85 ml_RX9_190 yk_X9_number yi_X9_number (m_X9_number _ (f_X9_puts M 44) (f_X9_of (f_X9_puts M 44) x1 (8 + y2)) q9.1) (Nat.le_of_ble_eq_true rfl) rfl rfl rfl rfl (Nat.le_of_ble_eq_true rfl) (Nat.le_of_ble_eq_true rfl) (Nat.le_of_ble_eq_true rfl) (Nat.le_of_ble_eq_true rfl) (Nat.le_of_ble_eq_true rfl) ?_
      refine tv_iinc (v := (y2 + 1)) (L' := [_, _, _]) (hn := by decide) (hlt := (Nat.le_of_ble_eq_true rfl)) (hno := rfl) C dk_X9_writeBox_88 rfl rfl rfl ?_
      refine tv_goto C dk_X9_writeBox_91 ?_
      exact (ih (y2 + 1) (f_X9_number (f_X9_puts M 44) (f_X9_of (f_X9_puts M 44) x1 (8 + y2))) (by rw [sb_X9_writeBox, if_neg h101, if_neg h102] at hqn; exact hqn) (by rw [sb_X9_writeBox, if_neg h101, if_neg h102] at hs; exact hs))
  refine tv_aload_n C dk_X9_writeBox_0 rfl ?_
  refine tv_aload_n C dk_X9_writeBox_1 rfl ?_
  refine tv_iload_n C dk_X9_writeBox_2 rfl ?_
  refine tv_cV1 C dk_X9_writeBox_3 ml_RX9_113 yk_X9_isBox yi_X9_isBox (m_X9_isBox _ M x1) (Nat.le_of_ble_eq_true rfl) rfl rfl rfl rfl (Nat.le_of_ble_eq_true rfl) (Nat.le_of_ble_eq_true rfl) (Nat.le_of_ble_eq_true rfl) (Nat.le_of_ble_eq_true rfl) (Nat.le_of_ble_eq_true rfl) ?_
  refine tv_if_ne C dk_X9_writeBox_6 (fun h1 => ?_) (fun h1 => ?_)
  · have q1 := hq.2 h1
    refine tv_iconst (v := 0) C dk_X9_writeBox_13 (by decide) ?_
    refine tv_iconst (v := 1) C dk_X9_writeBox_14 (by decide) ?_
    refine tv_cV1 C dk_X9_writeBox_15 ml_RX9_62 yk_X9_isThrown yi_X9_isThrown (m_X9_isThrown _ M 0 1 (tv_qt0 _ _)) (Nat.le_of_ble_eq_true rfl) rfl rfl rfl rfl (Nat.le_of_ble_eq_true rfl) (Nat.le_of_ble_eq_true rfl) (Nat.le_of_ble_eq_true rfl) (Nat.le_of_ble_eq_true rfl) (Nat.le_of_ble_eq_true rfl) ?_
    refine tv_ti (v := 0) rfl ?_
    refine tv_if_eq C dk_X9_writeBox_18 (fun _ => ?_) (fun h => absurd h (by decide))
    refine tv_aload_n C dk_X9_writeBox_23 rfl ?_
    refine tv_iconst (v := 0) C dk_X9_writeBox_24 (by decide) ?_
    refine tv_putI C tvP0_ex dk_X9_writeBox_25 fl_RX9_187 fw_9_12 (Nat.le_of_ble_eq_true rfl) rfl rfl (fun _ _ _ _ _ => rfl) rfl rfl ?_
    refine tv_aload_n C dk_X9_writeBox_28 rfl ?_
    refine tv_iload_n C dk_X9_writeBox_29 rfl ?_
    have q2 := q1.2
    refine tv_cV0 C dk_X9_writeBox_30 ml_RX9_190 yk_X9_number yi_X9_number (m_X9_number _ (tpi ((f_X9_isThrown M 0 1).2) 249 12 0) x1 q1.1) (Nat.le_of_ble_eq_true rfl) rfl rfl rfl rfl (Nat.le_of_ble_eq_true rfl) (Nat.le_of_ble_eq_true rfl) (Nat.le_of_ble_eq_true rfl) (Nat.le_of_ble_eq_true rfl) (Nat.le_of_ble_eq_true rfl) ?_
    refine tv_aload_n C dk_X9_writeBox_33 rfl ?_
    refine tv_aload_n C dk_X9_writeBox_34 rfl ?_
    refine tv_iload_n C dk_X9_writeBox_35 rfl ?_
    refine tv_iconst (v := 3) C dk_X9_writeBox_36 (by decide) ?_
    have q3 := q2.2
    refine tv_cV1 C dk_X9_writeBox_37 ml_RX9_55 yk_X9_of yi_X9_of (m_X9_of _ (f_X9_number (tpi ((f_X9_isThrown M 0 1).2) 249 12 0) x1) x1 3 q2.1) (Nat.le_of_ble_eq_true rfl) rfl rfl rfl rfl (Nat.le_of_ble_eq_true rfl) (Nat.le_of_ble_eq_true rfl) (Nat.le_of_ble_eq_true rfl) (Nat.le_of_ble_eq_true rfl) (Nat.le_of_ble_eq_true rfl) ?_
    have q4 := q3.2
    refine tv_cS1 C dk_X9_writeBox_40 ml_RX9_132 yk_X9_sign yi_X9_sign (m_X9_sign _ (f_X9_number (tpi ((f_X9_isThrown M 0 1).2) 249 12 0) x1) (f_X9_of (f_X9_number (tpi ((f_X9_isThrown M 0 1).2) 249 12 0) x1) x1 3) q3.1) rfl rfl (Nat.le_of_ble_eq_true rfl) (Nat.le_of_ble_eq_true rfl) (Nat.le_of_ble_eq_true rfl) (Nat.le_of_ble_eq_true rfl) (Nat.le_of_ble_eq_true rfl) ?_
    have q5 := q4.2
    refine tv_cV0 C dk_X9_writeBox_43 ml_RX9_193 yk_X9_puts yi_X9_puts (m_X9_puts _ (f_X9_number (tpi ((f_X9_isThrown M 0 1).2) 249 12 0) x1) (f_X9_sign (f_X9_number (tpi ((f_X9_isThrown M 0 1).2) 249 12 0) x1) (f_X9_of (f_X9_number (tpi ((f_X9_isThrown M 0 1).2) 249 12 0) x1) x1 3)) q4.1) (Nat.le_of_ble_eq_true rfl) rfl rfl rfl rfl (Nat.le_of_ble_eq_true rfl) (Nat.le_of_ble_eq_true rfl) (Nat.le_of_ble_eq_true rfl) (Nat.le_of_ble_eq_true rfl) (Nat.le_of_ble_eq_true rfl) ?_
    refine tv_aload_n C dk_X9_writeBox_46 rfl ?_
    refine tv_bipush (v := 58) C dk_X9_writeBox_47 (by decide) ?_
    have q6 := q5.2
    refine tv_cV0 C dk_X9_writeBox_49 ml_RX9_193 yk_X9_puts yi_X9_puts (m_X9_puts _ (f_X9_puts (f_X9_number (tpi ((f_X9_isThrown M 0 1).2) 249 12 0) x1) (f_X9_sign (f_X9_number (tpi ((f_X9_isThrown M 0 1).2) 249 12 0) x1) (f_X9_of (f_X9_number (tpi ((f_X9_isThrown M 0 1).2) 249 12 0) x1) x1 3))) 58 q5.1) (Nat.le_of_ble_eq_true rfl) rfl rfl rfl rfl (Nat.le_of_ble_eq_true rfl) (Nat.le_of_ble_eq_true rfl) (Nat.le_of_ble_eq_true rfl) (Nat.le_of_ble_eq_true rfl) (Nat.le_of_ble_eq_true rfl) ?_
    refine tv_iconst (v := 0) C dk_X9_writeBox_52 (by decide) ?_
    refine tv_istore_n (L' := [_, _, _]) (hn := by decide) (hlt := (Nat.le_of_ble_eq_true rfl)) (hno := rfl) C dk_X9_writeBox_53 rfl ?_
    exact (K n 0 (f_X9_puts (f_X9_puts (f_X9_number (tpi ((f_X9_isThrown M 0 1).2) 249 12 0) x1) (f_X9_sign (f_X9_number (tpi ((f_X9_isThrown M 0 1).2) 249 12 0) x1) (f_X9_of (f_X9_number (tpi ((f_X9_isThrown M 0 1).2) 249 12 0) x1) x1 3))) 58) (by rw [e_X9_writeBox, if_neg h1] at hqn; exact hqn) (by rw [e_X9_writeBox, if_neg h1] at hs; exact hs))
  have q7 := hq.1 h1
  refine tv_iconst (v := 1) C dk_X9_writeBox_9 (by decide) ?_
  refine tv_goto C dk_X9_writeBox_10 ?_
  refine tv_iconst (v := 1) C dk_X9_writeBox_14 (by decide) ?_
  refine tv_cV1 C dk_X9_writeBox_15 ml_RX9_62 yk_X9_isThrown yi_X9_isThrown (m_X9_isThrown _ M 1 1 (tv_qt1 _ _)) (Nat.le_of_ble_eq_true rfl) rfl rfl rfl rfl (Nat.le_of_ble_eq_true rfl) (Nat.le_of_ble_eq_true rfl) (Nat.le_of_ble_eq_true rfl) (Nat.le_of_ble_eq_true rfl) (Nat.le_of_ble_eq_true rfl) ?_
  refine tv_ti (v := 1) rfl ?_
  refine tv_if_eq C dk_X9_writeBox_18 (fun h => absurd h (by decide)) (fun _ => ?_)
  refine tv_iconst (v := 0) C dk_X9_writeBox_21 (by decide) ?_
  exact tv_iret C hQ dk_X9_writeBox_22 rfl (by rw [e_X9_writeBox, if_pos h1] at hs; rw [← tvIter_out hs]) (by rw [e_X9_writeBox, if_pos h1] at hs; rw [← tvIter_out hs])
def f_X9_writeBox (M : tvM) (x1 : Int32) : (Int32 × tvM) := (tvIter (s_X9_writeBox x1) 5000 (e_X9_writeBox M x1)).getD (0, M)
def q_X9_writeBox (M : tvM) (x1 : Int32) : Prop := qe_X9_writeBox M x1 ∧ (∃ r, tvIter (s_X9_writeBox x1) 5000 (e_X9_writeBox M x1) = some r) ∧ tvQ (s_X9_writeBox x1) (qs_X9_writeBox x1) 5000 (e_X9_writeBox M x1)
theorem n_X9_writeBox (G : tvG) (M : tvM) (x1 : Int32) (hq : q_X9_writeBox M x1) : tvRun G yX9_writeBox cX9_writeBox 3 (some .int) 6 0 0 tvP0 tvP0 [.ref (G.2.1 + 249), .int x1] M (.inl (some (.int (f_X9_writeBox M x1).1))) ((f_X9_writeBox M x1).2) := by
  obtain ⟨h1, ⟨r, h2⟩, h3⟩ := hq
  have h4 : f_X9_writeBox M x1 = r := by show (tvIter _ _ _).getD _ = _; rw [h2]; rfl
  rw [h4]
  exact m_X9_writeBox G M x1 _ r h2 h1 h3
/-- TideVaultModel.writeEvents()I -/
def sb_X9_writeEvents (y1 : Int32) (M : tvM) : (Int32 × tvM) ⊕ (Int32 × tvM) := (if (tgi M 250 11) ≤ y1 then .inr ((tgi M 249 12), M) else (if y1 ≤ 0 then .inl ((y1 + 1), (f_X9_number (f_X9_puts M (tgi M 250 (166 + (3 * y1)).toNatClampNeg)) (tgi (f_X9_puts M (tgi M 250 (166 + (3 * y1)).toNatClampNeg)) 250 ((166 + (3 * y1)) + 2).toNatClampNeg))) else .inl ((y1 + 1), (f_X9_number (f_X9_puts (f_X9_puts M 32) (tgi (f_X9_puts M 32) 250 (166 + (3 * y1)).toNatClampNeg)) (tgi (f_X9_puts (f_X9_puts M 32) (tgi (f_X9_puts M 32) 250 (166 + (3 * y1)).toNatClampNeg)) 250 ((166 + (3 * y1)) + 2).toNatClampNeg)))))
def s_X9_writeEvents : (Int32 × tvM) → (Int32 × tvM) ⊕ (Int32 × tvM) := fun q => sb_X9_writeEvents q.1 q.2
def e_X9_writeEvents (M : tvM) : (Int32 × tvM) ⊕ (Int32 × tvM) := .inl (0, (tpi (tpi M 249 5 0) 249 12 0))
def qb_X9_writeEvents (y1 : Int32) (M : tvM) : Prop := (((tgi M 250 11) ≤ y1 → True) ∧ (¬ (tgi M 250 11) ≤ y1 → ((y1 ≤ 0 → (vp_in (166 + (3 * y1)) 202 ∧ ((q_X9_puts M (tgi M 250 (166 + (3 * y1)).toNatClampNeg)) ∧ (vp_in ((166 + (3 * y1)) + 2) 202 ∧ ((q_X9_number (f_X9_puts M (tgi M 250 (166 + (3 * y1)).toNatClampNeg)) (tgi (f_X9_puts M (tgi M 250 (166 + (3 * y1)).toNatClampNeg)) 250 ((166 + (3 * y1)) + 2).toNatClampNeg)) ∧ True))))) ∧ (¬ y1 ≤ 0 → ((q_X9_puts M 32) ∧ (vp_in (166 + (3 * y1)) 202 ∧ ((q_X9_puts (f_X9_puts M 32) (tgi (f_X9_puts M 32) 250 (166 + (3 * y1)).toNatClampNeg)) ∧ (vp_in ((166 + (3 * y1)) + 2) 202 ∧ ((q_X9_number (f_X9_puts (f_X9_puts M 32) (tgi (f_X9_puts M 32) 250 (166 + (3 * y1)).toNatClampNeg)) (tgi (f_X9_puts (f_X9_puts M 32) (tgi (f_X9_puts M 32) 250 (166 + (3 * y1)).toNatClampNeg)) 250 ((166 + (3 * y1)) + 2).toNatClampNeg)) ∧ True)))))))))
def qs_X9_writeEvents : (Int32 × tvM) → Prop := fun q => qb_X9_writeEvents q.1 q.2
def qe_X9_writeEvents (M : tvM) : Prop := True
theorem m_X9_writeEvents (G : tvG) (M : tvM) (n : Nat) (r : (Int32 × tvM)) (hs : tvIter (s_X9_writeEvents) n (e_X9_writeEvents M) = some r) (hq : qe_X9_writeEvents M) (hqn : tvQ (s_X9_writeEvents) (qs_X9_writeEvents) n (e_X9_writeEvents M)) : tvRun G yX9_writeEvents cX9_writeEvents 2 (some .int) 4 0 0 tvP0 tvP0 [.ref (G.2.1 + 249)] M (.inl (some (.int r.1))) r.2 := by
  refine tvRun.of yk_X9_writeEvents rfl [some (.ref (G.2.1 + 249)), none] rfl (Nat.le_of_ble_eq_true rfl) ?_
  intro E hG C hQ; subst hG
  have K : ∀ (n : Nat) (y1 : Int32) (M : tvM), tvQ (s_X9_writeEvents) (qs_X9_writeEvents) n (.inl (y1, M)) → tvIter (s_X9_writeEvents) n (.inl (y1, M)) = some r → tv_W E tvP0 0 0 M 12 [some (.ref (E.G.2.1 + 249)), some (.int y1)] [] := by
    intro n
    induction n with
    | zero => intro y1 M hqq hz; exact (tvIter_0 hz).elim
    | succ n ih =>
      intro y1 M hqq hz
      have hs : tvIter (s_X9_writeEvents) n (sb_X9_writeEvents y1 M) = some r := by have h9 := tvIter_go hz; exact h9
      have hqn : tvQ (s_X9_writeEvents) (qs_X9_writeEvents) n (sb_X9_writeEvents y1 M) := by have h9 := (tvQ_go hqq).2; exact h9
      have hq : qb_X9_writeEvents y1 M := by have h9 := (tvQ_go hqq).1; exact h9
      refine tv_iload_n C dk_X9_writeEvents_12 rfl ?_
      refine tv_aload_n C dk_X9_writeEvents_13 rfl ?_
      refine tv_getR (r := 250) C dk_X9_writeEvents_14 fl_RX9_9 (Nat.le_of_ble_eq_true rfl) rfl rfl (fun _ _ _ _ => rfl) ?_
      refine tv_bipush (v := 11) C dk_X9_writeEvents_17 (by decide) ?_
      refine tv_iald (j := 11) rfl C dk_X9_writeEvents_19 (Nat.le_of_ble_eq_true rfl) rfl (vp_in_nI (n := 11) (by decide) (by decide)) ?_
      refine tv_icmp_ge C dk_X9_writeEvents_20 (fun h101 => ?_) (fun h101 => ?_)
      · have q1 := hq.1 h101
        refine tv_aload_n C dk_X9_writeEvents_73 rfl ?_
        refine tv_getI C dk_X9_writeEvents_74 fl_RX9_187 (Nat.le_of_ble_eq_true rfl) rfl (fun _ _ _ _ => rfl) ?_
        exact tv_iret C hQ dk_X9_writeEvents_77 rfl (by rw [sb_X9_writeEvents, if_pos h101] at hs; rw [← tvIter_out hs]) (by rw [sb_X9_writeEvents, if_pos h101] at hs; rw [← tvIter_out hs])
      have q2 := hq.2 h101
      refine tv_iload_n C dk_X9_writeEvents_23 rfl ?_
      refine tv_if_le C dk_X9_writeEvents_24 (fun h102 => ?_) (fun h102 => ?_)
      · have q3 := q2.1 h102
        refine tv_aload_n C dk_X9_writeEvents_33 rfl ?_
        refine tv_aload_n C dk_X9_writeEvents_34 rfl ?_
        refine tv_getR (r := 250) C dk_X9_writeEvents_35 fl_RX9_9 (Nat.le_of_ble_eq_true rfl) rfl rfl (fun _ _ _ _ => rfl) ?_
        refine tv_sipush (v := 166) C dk_X9_writeEvents_38 (by decide) ?_
        refine tv_iconst (v := 3) C dk_X9_writeEvents_41 (by decide) ?_
        refine tv_iload_n C dk_X9_writeEvents_42 rfl ?_
        refine tv_imul C dk_X9_writeEvents_43 ?_
        refine tv_iadd C dk_X9_writeEvents_44 ?_
        have q4 := q3.2
        refine tv_iald (j := (166 + (3 * y1)).toNatClampNeg) rfl C dk_X9_writeEvents_45 (Nat.le_of_ble_eq_true rfl) rfl q3.1 ?_
        have q5 := q4.2
        refine tv_cV0 C dk_X9_writeEvents_46 ml_RX9_193 yk_X9_puts yi_X9_puts (m_X9_puts _ M (tgi M 250 (166 + (3 * y1)).toNatClampNeg) q4.1) (Nat.le_of_ble_eq_true rfl) rfl rfl rfl rfl (Nat.le_of_ble_eq_true rfl) (Nat.le_of_ble_eq_true rfl) (Nat.le_of_ble_eq_true rfl) (Nat.le_of_ble_eq_true rfl) (Nat.le_of_ble_eq_true rfl) ?_
        refine tv_aload_n C dk_X9_writeEvents_49 rfl ?_
        refine tv_aload_n C dk_X9_writeEvents_50 rfl ?_
        refine tv_getR (r := 250) C dk_X9_writeEvents_51 fl_RX9_9 (Nat.le_of_ble_eq_true rfl) rfl rfl (fun _ _ _ _ => rfl) ?_
        refine tv_sipush (v := 166) C dk_X9_writeEvents_54 (by decide) ?_
        refine tv_iconst (v := 3) C dk_X9_writeEvents_57 (by decide) ?_
        refine tv_iload_n C dk_X9_writeEvents_58 rfl ?_
        refine tv_imul C dk_X9_writeEvents_59 ?_
        refine tv_iadd C dk_X9_writeEvents_60 ?_
        refine tv_iconst (v := 2) C dk_X9_writeEvents_61 (by decide) ?_
        refine tv_iadd C dk_X9_writeEvents_62 ?_
        have q6 := q5.2
        refine tv_iald (j := ((166 + (3 * y1)) + 2).toNatClampNeg) rfl C dk_X9_writeEvents_63 (Nat.le_of_ble_eq_true rfl) rfl q5.1 ?_
        have q7 := q6.2
        refine tv_cV0 C dk_X9_writeEvents_64 ml_RX9_190 yk_X9_number yi_X9_number (m_X9_number _ (f_X9_puts M (tgi M 250 (166 + (3 * y1)).toNatClampNeg)) (tgi (f_X9_puts M (tgi M 250 (166 + (3 * y1)).toNatClampNeg)) 250 ((166 + (3 * y1)) + 2).toNatClampNeg) q6.1) (Nat.le_of_ble_eq_true rfl) rfl rfl rfl rfl (Nat.le_of_ble_eq_true rfl) (Nat.le_of_ble_eq_true rfl) (Nat.le_of_ble_eq_true rfl) (Nat.le_of_ble_eq_true rfl) (Nat.le_of_ble_eq_true rfl) ?_
        refine tv_iinc (v := (y1 + 1)) (L' := [_, _]) (hn := by decide) (hlt := (Nat.le_of_ble_eq_true rfl)) (hno := rfl) C dk_X9_writeEvents_67 rfl rfl rfl ?_
        refine tv_goto C dk_X9_writeEvents_70 ?_
        exact (ih (y1 + 1) (f_X9_number (f_X9_puts M (tgi M 250 (166 + (3 * y1)).toNatClampNeg)) (tgi (f_X9_puts M (tgi M 250 (166 + (3 * y1)).toNatClampNeg)) 250 ((166 + (3 * y1)) + 2).toNatClampNeg)) (by rw [sb_X9_writeEvents, if_neg h101, if_pos h102] at hqn; exact hqn) (by rw [sb_X9_writeEvents, if_neg h101, if_pos h102] at hs; exact hs))
      have q8 := q2.2 h102
      refine tv_aload_n C dk_X9_writeEvents_27 rfl ?_
      refine tv_bipush (v := 32) C dk_X9_writeEvents_28 (by decide) ?_
      have q9 := q8.2
      refine tv_cV0 C dk_X9_writeEvents_30 ml_RX9_193 yk_X9_puts yi_X9_puts (m_X9_puts _ M 32 q8.1) (Nat.le_of_ble_eq_true rfl) rfl rfl rfl rfl (Nat.le_of_ble_eq_true rfl) (Nat.le_of_ble_eq_true rfl) (Nat.le_of_ble_eq_true rfl) (Nat.le_of_ble_eq_true rfl) (Nat.le_of_ble_eq_true rfl) ?_
      refine tv_aload_n C dk_X9_writeEvents_33 rfl ?_
      refine tv_aload_n C dk_X9_writeEvents_34 rfl ?_
      refine tv_getR (r := 250) C dk_X9_writeEvents_35 fl_RX9_9 (Nat.le_of_ble_eq_true rfl) rfl rfl (fun _ _ _ _ => rfl) ?_
      refine tv_sipush (v := 166) C dk_X9_writeEvents_38 (by decide) ?_
      refine tv_iconst (v := 3) C dk_X9_writeEvents_41 (by decide) ?_
      refine tv_iload_n C dk_X9_writeEvents_42 rfl ?_
      refine tv_imul C dk_X9_writeEvents_43 ?_
      refine tv_iadd C dk_X9_writeEvents_44 ?_
      have q10 := q9.2
      refine tv_iald (j := (166 + (3 * y1)).toNatClampNeg) rfl C dk_X9_writeEvents_45 (Nat.le_of_ble_eq_true rfl) rfl q9.1 ?_
      have q11 := q10.2
      refine tv_cV0 C dk_X9_writeEvents_46 ml_RX9_193 yk_X9_puts yi_X9_puts (m_X9_puts _ (f_X9_puts M 32) (tgi (f_X9_puts M 32) 250 (166 + (3 * y1)).toNatClampNeg) q10.1) (Nat.le_of_ble_eq_true rfl) rfl rfl rfl rfl (Nat.le_of_ble_eq_true rfl) (Nat.le_of_ble_eq_true rfl) (Nat.le_of_ble_eq_true rfl) (Nat.le_of_ble_eq_true rfl) (Nat.le_of_ble_eq_true rfl) ?_
      refine tv_aload_n C dk_X9_writeEvents_49 rfl ?_
      refine tv_aload_n C dk_X9_writeEvents_50 rfl ?_
      refine tv_getR (r := 250) C dk_X9_writeEvents_51 fl_RX9_9 (Nat.le_of_ble_eq_true rfl) rfl rfl (fun _ _ _ _ => rfl) ?_
      refine tv_sipush (v := 166) C dk_X9_writeEvents_54 (by decide) ?_
      refine tv_iconst (v := 3) C dk_X9_writeEvents_57 (by decide) ?_
      refine tv_iload_n C dk_X9_writeEvents_58 rfl ?_
      refine tv_imul C dk_X9_writeEvents_59 ?_
      refine tv_iadd C dk_X9_writeEvents_60 ?_
      refine tv_iconst (v := 2) C dk_X9_writeEvents_61 (by decide) ?_
      refine tv_iadd C dk_X9_writeEvents_62 ?_
      have q12 := q11.2
      refine tv_iald (j := ((166 + (3 * y1)) + 2).toNatClampNeg) rfl C dk_X9_writeEvents_63 (Nat.le_of_ble_eq_true rfl) rfl q11.1 ?_
      have q13 := q12.2
      refine tv_cV0 C dk_X9_writeEvents_64 ml_RX9_190 yk_X9_number yi_X9_number (m_X9_number _ (f_X9_puts (f_X9_puts M 32) (tgi (f_X9_puts M 32) 250 (166 + (3 * y1)).toNatClampNeg)) (tgi (f_X9_puts (f_X9_puts M 32) (tgi (f_X9_puts M 32) 250 (166 + (3 * y1)).toNatClampNeg)) 250 ((166 + (3 * y1)) + 2).toNatClampNeg) q12.1) (Nat.le_of_ble_eq_true rfl) rfl rfl rfl rfl (Nat.le_of_ble_eq_true rfl) (Nat.le_of_ble_eq_true rfl) (Nat.le_of_ble_eq_true rfl) (Nat.le_of_ble_eq_true rfl) (Nat.le_of_ble_eq_true rfl) ?_
      refine tv_iinc (v := (y1 + 1)) (L' := [_, _]) (hn := by decide) (hlt := (Nat.le_of_ble_eq_true rfl)) (hno := rfl) C dk_X9_writeEvents_67 rfl rfl rfl ?_
      refine tv_goto C dk_X9_writeEvents_70 ?_
      exact (ih (y1 + 1) (f_X9_number (f_X9_puts (f_X9_puts M 32) (tgi (f_X9_puts M 32) 250 (166 + (3 * y1)).toNatClampNeg)) (tgi (f_X9_puts (f_X9_puts M 32) (tgi (f_X9_puts M 32) 250 (166 + (3 * y1)).toNatClampNeg)) 250 ((166 + (3 * y1)) + 2).toNatClampNeg)) (by rw [sb_X9_writeEvents, if_neg h101, if_neg h102] at hqn; exact hqn) (by rw [sb_X9_writeEvents, if_neg h101, if_neg h102] at hs; exact hs))
  refine tv_aload_n C dk_X9_writeEvents_0 rfl ?_
  refine tv_iconst (v := 0) C dk_X9_writeEvents_1 (by decide) ?_
  refine tv_putI C tvP0_ex dk_X9_writeEvents_2 fl_RX9_38 fw_9_5 (Nat.le_of_ble_eq_true rfl) rfl rfl (fun _ _ _ _ _ => rfl) rfl rfl ?_
  refine tv_aload_n C dk_X9_writeEvents_5 rfl ?_
  refine tv_iconst (v := 0) C dk_X9_writeEvents_6 (by decide) ?_
  refine tv_putI C tvP0_ex dk_X9_writeEvents_7 fl_RX9_187 fw_9_12 (Nat.le_of_ble_eq_true rfl) rfl rfl (fun _ _ _ _ _ => rfl) rfl rfl ?_
  refine tv_iconst (v := 0) C dk_X9_writeEvents_10 (by decide) ?_
  refine tv_istore_n (L' := [_, _]) (hn := by decide) (hlt := (Nat.le_of_ble_eq_true rfl)) (hno := rfl) C dk_X9_writeEvents_11 rfl ?_
  exact (K n 0 (tpi (tpi M 249 5 0) 249 12 0) (by rw [e_X9_writeEvents] at hqn; exact hqn) (by rw [e_X9_writeEvents] at hs; exact hs))
def f_X9_writeEvents (M : tvM) : (Int32 × tvM) := (tvIter (s_X9_writeEvents) 5000 (e_X9_writeEvents M)).getD (0, M)
def q_X9_writeEvents (M : tvM) : Prop := qe_X9_writeEvents M ∧ (∃ r, tvIter (s_X9_writeEvents) 5000 (e_X9_writeEvents M) = some r) ∧ tvQ (s_X9_writeEvents) (qs_X9_writeEvents) 5000 (e_X9_writeEvents M)
theorem n_X9_writeEvents (G : tvG) (M : tvM) (hq : q_X9_writeEvents M) : tvRun G yX9_writeEvents cX9_writeEvents 2 (some .int) 4 0 0 tvP0 tvP0 [.ref (G.2.1 + 249)] M (.inl (some (.int (f_X9_writeEvents M).1))) ((f_X9_writeEvents M).2) := by
  obtain ⟨h1, ⟨r, h2⟩, h3⟩ := hq
  have h4 : f_X9_writeEvents M = r := by show (tvIter _ _ _).getD _ = _; rw [h2]; rfl
  rw [h4]
  exact m_X9_writeEvents G M _ r h2 h1 h3
theorem tvN_go {A B C R : Prop} (k : A → C → R) (h : A ∧ B ∧ C) : R := k h.1 h.2.2
theorem tvN_mid {A B C : Prop} (h : A ∧ B ∧ C) : B := h.2.1
theorem tvN_of {σ ρ : Type} {step : σ → σ ⊕ ρ} {n : Nat} {e : σ ⊕ ρ} {d : ρ} (h : ∃ r, tvIter step n e = some r) : tvIter step n e = some ((tvIter step n e).getD d) := by
  obtain ⟨r, h⟩ := h
  rw [h]; rfl
/-- TideVaultModel.run()I -/
def sb_X9_run (y1 : Int32) (y2 : Int32) (M : tvM) : (Int32 × Int32 × tvM) ⊕ (Int32 × tvM) := (if (tgi M 249 17) ≤ y2 then .inr ((f_X9_ends M (tgi M 249 17)).1, (f_X9_ends M (tgi M 249 17)).2) else (if (tgi (tpi ((f_X9_does (tpi M 249 5 0) (4 * y2)).2) 249 8 ((f_X9_does (tpi M 249 5 0) (4 * y2)).1)) 249 5) = 0 then .inl (y1, (y2 + 1), (tpi ((f_X9_does (tpi M 249 5 0) (4 * y2)).2) 249 8 ((f_X9_does (tpi M 249 5 0) (4 * y2)).1))) else (if (tgi (tpi (f_X9_copies (tpi ((f_X9_does (tpi M 249 5 0) (4 * y2)).2) 249 8 ((f_X9_does (tpi M 249 5 0) (4 * y2)).1)) 251 0 250 0) 249 7 y2) 249 5) = 4 then .inr (0, (tpi (tpi (tpi (f_X9_copies (tpi ((f_X9_does (tpi M 249 5 0) (4 * y2)).2) 249 8 ((f_X9_does (tpi M 249 5 0) (4 * y2)).1)) 251 0 250 0) 249 7 y2) 249 10 1) 249 5 2)) else .inr (0, (tpi (tpi (tpi (f_X9_copies (tpi ((f_X9_does (tpi M 249 5 0) (4 * y2)).2) 249 8 ((f_X9_does (tpi M 249 5 0) (4 * y2)).1)) 251 0 250 0) 249 7 y2) 249 10 0) 249 5 2)))))
def s_X9_run : (Int32 × Int32 × tvM) → (Int32 × Int32 × tvM) ⊕ (Int32 × tvM) := fun q => sb_X9_run q.1 q.2.1 q.2.2
def e_X9_run (M : tvM) : (Int32 × Int32 × tvM) ⊕ (Int32 × tvM) := (if (f_X9_isProgram M).1 = 0 then .inr (0, (tpi ((f_X9_isThrown (tpi ((f_X9_isProgram M).2) 249 15 0) 1 1).2) 249 6 (tgi ((f_X9_isThrown (tpi ((f_X9_isProgram M).2) 249 15 0) 1 1).2) 249 16))) else .inl ((f_X9_isProgram M).1, 0, (f_X9_keeps ((f_X9_isThrown (tpi ((f_X9_isProgram M).2) 249 15 0) 0 1).2))))
def qb_X9_run (y1 : Int32) (y2 : Int32) (M : tvM) : Prop := (((tgi M 249 17) ≤ y2 → ((q_X9_ends M (tgi M 249 17)) ∧ True)) ∧ (¬ (tgi M 249 17) ≤ y2 → ((q_X9_does (tpi M 249 5 0) (4 * y2)) ∧ (((tgi (tpi ((f_X9_does (tpi M 249 5 0) (4 * y2)).2) 249 8 ((f_X9_does (tpi M 249 5 0) (4 * y2)).1)) 249 5) = 0 → True) ∧ (¬ (tgi (tpi ((f_X9_does (tpi M 249 5 0) (4 * y2)).2) 249 8 ((f_X9_does (tpi M 249 5 0) (4 * y2)).1)) 249 5) = 0 → (((tgi (tpi (f_X9_copies (tpi ((f_X9_does (tpi M 249 5 0) (4 * y2)).2) 249 8 ((f_X9_does (tpi M 249 5 0) (4 * y2)).1)) 251 0 250 0) 249 7 y2) 249 5) = 4 → True) ∧ (¬ (tgi (tpi (f_X9_copies (tpi ((f_X9_does (tpi M 249 5 0) (4 * y2)).2) 249 8 ((f_X9_does (tpi M 249 5 0) (4 * y2)).1)) 251 0 250 0) 249 7 y2) 249 5) = 4 → True)))))))
def qs_X9_run : (Int32 × Int32 × tvM) → Prop := fun q => qb_X9_run q.1 q.2.1 q.2.2
def qe_X9_run (M : tvM) : Prop := ((q_X9_isProgram M) ∧ (((f_X9_isProgram M).1 = 0 → True) ∧ (¬ (f_X9_isProgram M).1 = 0 → True)))
theorem m_X9_run (G : tvG) (M : tvM) (n : Nat) (r : (Int32 × tvM)) (hs : tvIter (s_X9_run) n (e_X9_run M) = some r) (hq : qe_X9_run M) (hqn : tvQ (s_X9_run) (qs_X9_run) n (e_X9_run M)) : tvRun G yX9_run cX9_run 3 (some .int) 10 0 0 tvP0 tvP0 [.ref (G.2.1 + 249)] M (.inl (some (.int r.1))) r.2 := by
  refine tvRun.of yk_X9_run rfl [some (.ref (G.2.1 + 249)), none, none] rfl (Nat.le_of_ble_eq_true rfl) ?_
  intro E hG C hQ; subst hG
  have K : ∀ (n : Nat) (y1 : Int32) (y2 : Int32) (M : tvM), tvQ (s_X9_run) (qs_X9_run) n (.inl (y1, y2, M)) → tvIter (s_X9_run) n (.inl (y1, y2, M)) = some r → tv_W E tvP0 0 0 M 43 [some (.ref (E.G.2.1 + 249)), some (.int y1), some (.int y2)] [] := by
    intro n
    induction n with
    | zero => intro y1 y2 M hqq hz; exact (tvIter_0 hz).elim
    | succ n ih =>
      intro y1 y2 M hqq hz
      have hs : tvIter (s_X9_run) n (sb_X9_run y1 y2 M) = some r := by have h9 := tvIter_go hz; exact h9
      have hqn : tvQ (s_X9_run) (qs_X9_run) n (sb_X9_run y1 y2 M) := by have h9 := (tvQ_go hqq).2; exact h9
      have hq : qb_X9_run y1 y2 M := by have h9 := (tvQ_go hqq).1; exact h9
      refine tv_iload_n C dk_X9_run_43 rfl ?_
      refine tv_aload_n C dk_X9_run_44 rfl ?_
      refine tv_getI C dk_X9_run_45 fl_RX9_247 (Nat.le_of_ble_eq_true rfl) rfl (fun _ _ _ _ => rfl) ?_
      refine tv_icmp_ge C dk_X9_run_48 (fun h101 => ?_) (fun h101 => ?_)
      · have q1 := hq.1 h101
        refine tv_aload_n C dk_X9_run_122 rfl ?_
        refine tv_aload_n C dk_X9_run_123 rfl ?_
        refine tv_getI C dk_X9_run_124 fl_RX9_247 (Nat.le_of_ble_eq_true rfl) rfl (fun _ _ _ _ => rfl) ?_
        have q2 := q1.2
        refine tv_cV1 C dk_X9_run_127 ml_RX9_77 yk_X9_ends yi_X9_ends (m_X9_ends _ M (tgi M 249 17) q1.1) (Nat.le_of_ble_eq_true rfl) rfl rfl rfl rfl (Nat.le_of_ble_eq_true rfl) (Nat.le_of_ble_eq_true rfl) (Nat.le_of_ble_eq_true rfl) (Nat.le_of_ble_eq_true rfl) (Nat.le_of_ble_eq_true rfl) ?_
        exact tv_iret C hQ dk_X9_run_130 rfl (by rw [sb_X9_run, if_pos h101] at hs; rw [← tvIter_out hs]) (by rw [sb_X9_run, if_pos h101] at hs; rw [← tvIter_out hs])
      have q3 := hq.2 h101
      refine tv_aload_n C dk_X9_run_51 rfl ?_
      refine tv_iconst (v := 0) C dk_X9_run_52 (by decide) ?_
      refine tv_putI C tvP0_ex dk_X9_run_53 fl_RX9_38 fw_9_5 (Nat.le_of_ble_eq_true rfl) rfl rfl (fun _ _ _ _ _ => rfl) rfl rfl ?_
      refine tv_aload_n C dk_X9_run_56 rfl ?_
      refine tv_aload_n C dk_X9_run_57 rfl ?_
      refine tv_iconst (v := 4) C dk_X9_run_58 (by decide) ?_
      refine tv_iload_n C dk_X9_run_59 rfl ?_
      refine tv_imul C dk_X9_run_60 ?_
      have q4 := q3.2
      refine tv_cV1 C dk_X9_run_61 ml_RX9_263 yk_X9_does yi_X9_does (m_X9_does _ (tpi M 249 5 0) (4 * y2) q3.1) (Nat.le_of_ble_eq_true rfl) rfl rfl rfl rfl (Nat.le_of_ble_eq_true rfl) (Nat.le_of_ble_eq_true rfl) (Nat.le_of_ble_eq_true rfl) (Nat.le_of_ble_eq_true rfl) (Nat.le_of_ble_eq_true rfl) ?_
      refine tv_putI C tvP0_ex dk_X9_run_64 fl_RX9_266 fw_9_8 (Nat.le_of_ble_eq_true rfl) rfl rfl (fun _ _ _ _ _ => rfl) rfl rfl ?_
      refine tv_aload_n C dk_X9_run_67 rfl ?_
      refine tv_getI C dk_X9_run_68 fl_RX9_38 (Nat.le_of_ble_eq_true rfl) rfl (fun _ _ _ _ => rfl) ?_
      refine tv_if_eq C dk_X9_run_71 (fun h102 => ?_) (fun h102 => ?_)
      · have q5 := q4.1 h102
        refine tv_iinc (v := (y2 + 1)) (L' := [_, _, _]) (hn := by decide) (hlt := (Nat.le_of_ble_eq_true rfl)) (hno := rfl) C dk_X9_run_116 rfl rfl rfl ?_
        refine tv_goto C dk_X9_run_119 ?_
        exact (ih y1 (y2 + 1) (tpi ((f_X9_does (tpi M 249 5 0) (4 * y2)).2) 249 8 ((f_X9_does (tpi M 249 5 0) (4 * y2)).1)) (by rw [sb_X9_run, if_neg h101, if_pos h102] at hqn; exact hqn) (by rw [sb_X9_run, if_neg h101, if_pos h102] at hs; exact hs))
      have q6 := q4.2 h102
      refine tv_aload_n C dk_X9_run_74 rfl ?_
      refine tv_getR (r := 251) C dk_X9_run_75 fl_RX9_13 (Nat.le_of_ble_eq_true rfl) rfl rfl (fun _ _ _ _ => rfl) ?_
      refine tv_iconst (v := 0) C dk_X9_run_78 (by decide) ?_
      refine tv_aload_n C dk_X9_run_79 rfl ?_
      refine tv_getR (r := 250) C dk_X9_run_80 fl_RX9_9 (Nat.le_of_ble_eq_true rfl) rfl rfl (fun _ _ _ _ => rfl) ?_
      refine tv_iconst (v := 0) C dk_X9_run_83 (by decide) ?_
      refine tv_cS0 C dk_X9_run_84 ml_RX9_41 yk_X9_copies yi_X9_copies (m_X9_copies _ (tpi ((f_X9_does (tpi M 249 5 0) (4 * y2)).2) 249 8 ((f_X9_does (tpi M 249 5 0) (4 * y2)).1)) (a0 := 251) (a := 250) (n0 := 202) (n := 202) (Nat.le_of_ble_eq_true rfl) rfl (Nat.le_of_ble_eq_true rfl) rfl 0 0 ⟨0, 0, rfl, rfl, (Nat.le_of_ble_eq_true rfl), (Nat.le_of_ble_eq_true rfl), (Nat.le_of_ble_eq_true rfl), (Nat.le_of_ble_eq_true rfl)⟩) rfl rfl (Nat.le_of_ble_eq_true rfl) (Nat.le_of_ble_eq_true rfl) (Nat.le_of_ble_eq_true rfl) (Nat.le_of_ble_eq_true rfl) (Nat.le_of_ble_eq_true rfl) ?_
      refine tv_aload_n C dk_X9_run_87 rfl ?_
      refine tv_iload_n C dk_X9_run_88 rfl ?_
      refine tv_putI C tvP0_ex dk_X9_run_89 fl_RX9_26 fw_9_7 (Nat.le_of_ble_eq_true rfl) rfl rfl (fun _ _ _ _ _ => rfl) rfl rfl ?_
      refine tv_aload_n C dk_X9_run_92 rfl ?_
      refine tv_aload_n C dk_X9_run_93 rfl ?_
      refine tv_getI C dk_X9_run_94 fl_RX9_38 (Nat.le_of_ble_eq_true rfl) rfl (fun _ _ _ _ => rfl) ?_
      refine tv_iconst (v := 4) C dk_X9_run_97 (by decide) ?_
      refine tv_icmp_ne C dk_X9_run_98 (fun h103 => ?_) (fun h103 => ?_)
      · have q7 := q6.2 h103
        refine tv_iconst (v := 0) C dk_X9_run_105 (by decide) ?_
        refine tv_putI C tvP0_ex dk_X9_run_106 fl_RX9_269 fw_9_10 (Nat.le_of_ble_eq_true rfl) rfl rfl (fun _ _ _ _ _ => rfl) rfl rfl ?_
        refine tv_aload_n C dk_X9_run_109 rfl ?_
        refine tv_iconst (v := 2) C dk_X9_run_110 (by decide) ?_
        refine tv_putI C tvP0_ex dk_X9_run_111 fl_RX9_38 fw_9_5 (Nat.le_of_ble_eq_true rfl) rfl rfl (fun _ _ _ _ _ => rfl) rfl rfl ?_
        refine tv_iconst (v := 0) C dk_X9_run_114 (by decide) ?_
        exact tv_iret C hQ dk_X9_run_115 rfl (by rw [sb_X9_run, if_neg h101, if_neg h102, if_neg h103] at hs; rw [← tvIter_out hs]) (by rw [sb_X9_run, if_neg h101, if_neg h102, if_neg h103] at hs; rw [← tvIter_out hs])
      have q8 := q6.1 h103
      refine tv_iconst (v := 1) C dk_X9_run_101 (by decide) ?_
      refine tv_goto C dk_X9_run_102 ?_
      refine tv_putI C tvP0_ex dk_X9_run_106 fl_RX9_269 fw_9_10 (Nat.le_of_ble_eq_true rfl) rfl rfl (fun _ _ _ _ _ => rfl) rfl rfl ?_
      refine tv_aload_n C dk_X9_run_109 rfl ?_
      refine tv_iconst (v := 2) C dk_X9_run_110 (by decide) ?_
      refine tv_putI C tvP0_ex dk_X9_run_111 fl_RX9_38 fw_9_5 (Nat.le_of_ble_eq_true rfl) rfl rfl (fun _ _ _ _ _ => rfl) rfl rfl ?_
      refine tv_iconst (v := 0) C dk_X9_run_114 (by decide) ?_
      exact tv_iret C hQ dk_X9_run_115 rfl (by rw [sb_X9_run, if_neg h101, if_neg h102, if_pos h103] at hs; rw [← tvIter_out hs]) (by rw [sb_X9_run, if_neg h101, if_neg h102, if_pos h103] at hs; rw [← tvIter_out hs])
  refine tv_aload_n C dk_X9_run_0 rfl ?_
  have q1 := hq.2
  refine tv_cV1 C dk_X9_run_1 ml_RX9_260 yk_X9_isProgram yi_X9_isProgram (n_X9_isProgram _ M hq.1) (Nat.le_of_ble_eq_true rfl) rfl rfl rfl rfl (Nat.le_of_ble_eq_true rfl) (Nat.le_of_ble_eq_true rfl) (Nat.le_of_ble_eq_true rfl) (Nat.le_of_ble_eq_true rfl) (Nat.le_of_ble_eq_true rfl) ?_
  refine tv_istore_n (L' := [_, _, _]) (hn := by decide) (hlt := (Nat.le_of_ble_eq_true rfl)) (hno := rfl) C dk_X9_run_4 rfl ?_
  refine tv_aload_n C dk_X9_run_5 rfl ?_
  refine tv_iconst (v := 0) C dk_X9_run_6 (by decide) ?_
  refine tv_putI C tvP0_ex dk_X9_run_7 fl_RX9_196 fw_9_15 (Nat.le_of_ble_eq_true rfl) rfl rfl (fun _ _ _ _ _ => rfl) rfl rfl ?_
  refine tv_aload_n C dk_X9_run_10 rfl ?_
  refine tv_iload_n C dk_X9_run_11 rfl ?_
  refine tv_if_ne C dk_X9_run_12 (fun h1 => ?_) (fun h1 => ?_)
  · have q2 := q1.2 h1
    refine tv_iconst (v := 0) C dk_X9_run_19 (by decide) ?_
    refine tv_iconst (v := 1) C dk_X9_run_20 (by decide) ?_
    refine tv_cV1 C dk_X9_run_21 ml_RX9_62 yk_X9_isThrown yi_X9_isThrown (m_X9_isThrown _ (tpi ((f_X9_isProgram M).2) 249 15 0) 0 1 (tv_qt0 _ _)) (Nat.le_of_ble_eq_true rfl) rfl rfl rfl rfl (Nat.le_of_ble_eq_true rfl) (Nat.le_of_ble_eq_true rfl) (Nat.le_of_ble_eq_true rfl) (Nat.le_of_ble_eq_true rfl) (Nat.le_of_ble_eq_true rfl) ?_
    refine tv_ti (v := 0) rfl ?_
    refine tv_if_eq C dk_X9_run_24 (fun _ => ?_) (fun h => absurd h (by decide))
    refine tv_aload_n C dk_X9_run_37 rfl ?_
    refine tv_cV0 C dk_X9_run_38 ml_RX9_70 yk_X9_keeps yi_X9_keeps (m_X9_keeps _ ((f_X9_isThrown (tpi ((f_X9_isProgram M).2) 249 15 0) 0 1).2)) (Nat.le_of_ble_eq_true rfl) rfl rfl rfl rfl (Nat.le_of_ble_eq_true rfl) (Nat.le_of_ble_eq_true rfl) (Nat.le_of_ble_eq_true rfl) (Nat.le_of_ble_eq_true rfl) (Nat.le_of_ble_eq_true rfl) ?_
    refine tv_iconst (v := 0) C dk_X9_run_41 (by decide) ?_
    refine tv_istore_n (L' := [_, _, _]) (hn := by decide) (hlt := (Nat.le_of_ble_eq_true rfl)) (hno := rfl) C dk_X9_run_42 rfl ?_
    exact (K n ((f_X9_isProgram M).1) 0 (f_X9_keeps ((f_X9_isThrown (tpi ((f_X9_isProgram M).2) 249 15 0) 0 1).2)) (by rw [e_X9_run, if_neg h1] at hqn; exact hqn) (by rw [e_X9_run, if_neg h1] at hs; exact hs))
  have q3 := q1.1 h1
  refine tv_iconst (v := 1) C dk_X9_run_15 (by decide) ?_
  refine tv_goto C dk_X9_run_16 ?_
  refine tv_iconst (v := 1) C dk_X9_run_20 (by decide) ?_
  refine tv_cV1 C dk_X9_run_21 ml_RX9_62 yk_X9_isThrown yi_X9_isThrown (m_X9_isThrown _ (tpi ((f_X9_isProgram M).2) 249 15 0) 1 1 (tv_qt1 _ _)) (Nat.le_of_ble_eq_true rfl) rfl rfl rfl rfl (Nat.le_of_ble_eq_true rfl) (Nat.le_of_ble_eq_true rfl) (Nat.le_of_ble_eq_true rfl) (Nat.le_of_ble_eq_true rfl) (Nat.le_of_ble_eq_true rfl) ?_
  refine tv_ti (v := 1) rfl ?_
  refine tv_if_eq C dk_X9_run_24 (fun h => absurd h (by decide)) (fun _ => ?_)
  refine tv_aload_n C dk_X9_run_27 rfl ?_
  refine tv_aload_n C dk_X9_run_28 rfl ?_
  refine tv_getI C dk_X9_run_29 fl_RX9_199 (Nat.le_of_ble_eq_true rfl) rfl (fun _ _ _ _ => rfl) ?_
  refine tv_putI C tvP0_ex dk_X9_run_32 fl_RX9_22 fw_9_6 (Nat.le_of_ble_eq_true rfl) rfl rfl (fun _ _ _ _ _ => rfl) rfl rfl ?_
  refine tv_iconst (v := 0) C dk_X9_run_35 (by decide) ?_
  exact tv_iret C hQ dk_X9_run_36 rfl (by rw [e_X9_run, if_pos h1] at hs; rw [← tvIter_out hs]) (by rw [e_X9_run, if_pos h1] at hs; rw [← tvIter_out hs])
def f_X9_run (M : tvM) : (Int32 × tvM) := (tvIter (s_X9_run) 5000 (e_X9_run M)).getD (0, M)
def q_X9_run (M : tvM) : Prop := qe_X9_run M ∧ (∃ r, tvIter (s_X9_run) 5000 (e_X9_run M) = some r) ∧ tvQ (s_X9_run) (qs_X9_run) 5000 (e_X9_run M)
theorem n_X9_run (G : tvG) (M : tvM) (hq : q_X9_run M) : tvRun G yX9_run cX9_run 3 (some .int) 10 0 0 tvP0 tvP0 [.ref (G.2.1 + 249)] M (.inl (some (.int (f_X9_run M).1))) ((f_X9_run M).2) := by
  unfold q_X9_run at hq
  have h4 : tvIter (s_X9_run) 5000 (e_X9_run M) = some (f_X9_run M) := by
    unfold f_X9_run
    exact tvN_of (tvN_mid hq)
  exact tvN_go (m_X9_run G M _ _ h4) hq
/-- TideVaultModel.undo()I -/
def f_X9_undo (M : tvM) : Int32 × tvM := (if (tgi M 249 4) = 0 then (0, (f_X9_isThrown M 1 1).2) else ((tgi (f_X9_copies (tpi ((f_X9_isThrown M 0 1).2) 249 4 ((tgi ((f_X9_isThrown M 0 1).2) 249 4) - 1)) 253 (202 * (tgi (tpi ((f_X9_isThrown M 0 1).2) 249 4 ((tgi ((f_X9_isThrown M 0 1).2) 249 4) - 1)) 249 4)) 250 0) 249 4), (f_X9_copies (tpi ((f_X9_isThrown M 0 1).2) 249 4 ((tgi ((f_X9_isThrown M 0 1).2) 249 4) - 1)) 253 (202 * (tgi (tpi ((f_X9_isThrown M 0 1).2) 249 4 ((tgi ((f_X9_isThrown M 0 1).2) 249 4) - 1)) 249 4)) 250 0)))
def q_X9_undo (M : tvM) : Prop := (((tgi M 249 4) = 0 → True) ∧ (¬ (tgi M 249 4) = 0 → (q_X9_copies 1616 202 (202 * (tgi (tpi ((f_X9_isThrown M 0 1).2) 249 4 ((tgi ((f_X9_isThrown M 0 1).2) 249 4) - 1)) 249 4)) 0 ∧ True)))
theorem m_X9_undo (G : tvG) (M : tvM) (hq : q_X9_undo M) : tvRun G yX9_undo cX9_undo 1 (some .int) 2 0 0 tvP0 tvP0 [.ref (G.2.1 + 249)] M (.inl (some (.int (f_X9_undo M).1))) ((f_X9_undo M).2) := by
  refine tvRun.of yk_X9_undo rfl [some (.ref (G.2.1 + 249))] rfl (Nat.le_of_ble_eq_true rfl) ?_
  intro E hG C hQ; subst hG
  refine tv_aload_n C dk_X9_undo_0 rfl ?_
  refine tv_aload_n C dk_X9_undo_1 rfl ?_
  refine tv_getI C dk_X9_undo_2 fl_RX9_45 (Nat.le_of_ble_eq_true rfl) rfl (fun _ _ _ _ => rfl) ?_
  refine tv_if_ne C dk_X9_undo_5 (fun h1 => ?_) (fun h1 => ?_)
  · have q1 := hq.2 h1
    refine tv_iconst (v := 0) C dk_X9_undo_12 (by decide) ?_
    refine tv_iconst (v := 1) C dk_X9_undo_13 (by decide) ?_
    refine tv_cV1 C dk_X9_undo_14 ml_RX9_62 yk_X9_isThrown yi_X9_isThrown (m_X9_isThrown _ M 0 1 (tv_qt0 _ _)) (Nat.le_of_ble_eq_true rfl) rfl rfl rfl rfl (Nat.le_of_ble_eq_true rfl) (Nat.le_of_ble_eq_true rfl) (Nat.le_of_ble_eq_true rfl) (Nat.le_of_ble_eq_true rfl) (Nat.le_of_ble_eq_true rfl) ?_
    refine tv_ti (v := 0) rfl ?_
    refine tv_if_eq C dk_X9_undo_17 (fun _ => ?_) (fun h => absurd h (by decide))
    refine tv_aload_n C dk_X9_undo_22 rfl ?_
    refine tv_dup C dk_X9_undo_23 rfl ?_
    refine tv_getI C dk_X9_undo_24 fl_RX9_45 (Nat.le_of_ble_eq_true rfl) rfl (fun _ _ _ _ => rfl) ?_
    refine tv_iconst (v := 1) C dk_X9_undo_27 (by decide) ?_
    refine tv_isub C dk_X9_undo_28 ?_
    refine tv_putI C tvP0_ex dk_X9_undo_29 fl_RX9_45 fw_9_4 (Nat.le_of_ble_eq_true rfl) rfl rfl (fun _ _ _ _ _ => rfl) rfl rfl ?_
    refine tv_aload_n C dk_X9_undo_32 rfl ?_
    refine tv_getR (r := 253) C dk_X9_undo_33 fl_RX9_19 (Nat.le_of_ble_eq_true rfl) rfl rfl (fun _ _ _ _ => rfl) ?_
    refine tv_sipush (v := 202) C dk_X9_undo_36 (by decide) ?_
    refine tv_aload_n C dk_X9_undo_39 rfl ?_
    refine tv_getI C dk_X9_undo_40 fl_RX9_45 (Nat.le_of_ble_eq_true rfl) rfl (fun _ _ _ _ => rfl) ?_
    refine tv_imul C dk_X9_undo_43 ?_
    refine tv_aload_n C dk_X9_undo_44 rfl ?_
    refine tv_getR (r := 250) C dk_X9_undo_45 fl_RX9_9 (Nat.le_of_ble_eq_true rfl) rfl rfl (fun _ _ _ _ => rfl) ?_
    refine tv_iconst (v := 0) C dk_X9_undo_48 (by decide) ?_
    have q2 := q1.2
    refine tv_cS0 C dk_X9_undo_49 ml_RX9_41 yk_X9_copies yi_X9_copies (m_X9_copies _ (tpi ((f_X9_isThrown M 0 1).2) 249 4 ((tgi ((f_X9_isThrown M 0 1).2) 249 4) - 1)) (a0 := 253) (a := 250) (n0 := 1616) (n := 202) (Nat.le_of_ble_eq_true rfl) rfl (Nat.le_of_ble_eq_true rfl) rfl (202 * (tgi (tpi ((f_X9_isThrown M 0 1).2) 249 4 ((tgi ((f_X9_isThrown M 0 1).2) 249 4) - 1)) 249 4)) 0 q1.1) rfl rfl (Nat.le_of_ble_eq_true rfl) (Nat.le_of_ble_eq_true rfl) (Nat.le_of_ble_eq_true rfl) (Nat.le_of_ble_eq_true rfl) (Nat.le_of_ble_eq_true rfl) ?_
    refine tv_aload_n C dk_X9_undo_52 rfl ?_
    refine tv_getI C dk_X9_undo_53 fl_RX9_45 (Nat.le_of_ble_eq_true rfl) rfl (fun _ _ _ _ => rfl) ?_
    exact tv_iret C hQ dk_X9_undo_56 rfl (by rw [f_X9_undo, if_neg h1]) (by rw [f_X9_undo, if_neg h1])
  have q3 := hq.1 h1
  refine tv_iconst (v := 1) C dk_X9_undo_8 (by decide) ?_
  refine tv_goto C dk_X9_undo_9 ?_
  refine tv_iconst (v := 1) C dk_X9_undo_13 (by decide) ?_
  refine tv_cV1 C dk_X9_undo_14 ml_RX9_62 yk_X9_isThrown yi_X9_isThrown (m_X9_isThrown _ M 1 1 (tv_qt1 _ _)) (Nat.le_of_ble_eq_true rfl) rfl rfl rfl rfl (Nat.le_of_ble_eq_true rfl) (Nat.le_of_ble_eq_true rfl) (Nat.le_of_ble_eq_true rfl) (Nat.le_of_ble_eq_true rfl) (Nat.le_of_ble_eq_true rfl) ?_
  refine tv_ti (v := 1) rfl ?_
  refine tv_if_eq C dk_X9_undo_17 (fun h => absurd h (by decide)) (fun _ => ?_)
  refine tv_iconst (v := 0) C dk_X9_undo_20 (by decide) ?_
  exact tv_iret C hQ dk_X9_undo_21 rfl (by rw [f_X9_undo, if_pos h1]) (by rw [f_X9_undo, if_pos h1])
