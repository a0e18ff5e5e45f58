/-- TideVaultModel.lowMinutes(I)I -/
def sb_X9_lowMinutes (x1 : Int32) (y2 : Int32) (y3 : Int32) (M : tvM) : (Int32 × Int32 × tvM) ⊕ (Int32 × tvM) := (if x1 ≤ y3 then .inr (y2, M) else (if (f_X9_low M ((tgi M 250 0) + y3)) = 0 then .inl ((y2 + 0), (y3 + 1), M) else .inl ((y2 + 1), (y3 + 1), M)))
def s_X9_lowMinutes (x1 : Int32) : (Int32 × Int32 × tvM) → (Int32 × Int32 × tvM) ⊕ (Int32 × tvM) := fun q => sb_X9_lowMinutes x1 q.1 q.2.1 q.2.2
def e_X9_lowMinutes (M : tvM) (x1 : Int32) : (Int32 × Int32 × tvM) ⊕ (Int32 × tvM) := (if (f_X9_isIn M x1 0 1000) = 0 then .inr (0, (f_X9_isThrown M 1 1).2) else .inl (0, 0, (f_X9_isThrown M 0 1).2))
def qb_X9_lowMinutes (x1 : Int32) (y2 : Int32) (y3 : Int32) (M : tvM) : Prop := ((x1 ≤ y3 → True) ∧ (¬ x1 ≤ y3 → ((q_X9_low M ((tgi M 250 0) + y3)) ∧ (((f_X9_low M ((tgi M 250 0) + y3)) = 0 → True) ∧ (¬ (f_X9_low M ((tgi M 250 0) + y3)) = 0 → True)))))
def qs_X9_lowMinutes (x1 : Int32) : (Int32 × Int32 × tvM) → Prop := fun q => qb_X9_lowMinutes x1 q.1 q.2.1 q.2.2
def qe_X9_lowMinutes (M : tvM) (x1 : Int32) : Prop := (((f_X9_isIn M x1 0 1000) = 0 → True) ∧ (¬ (f_X9_isIn M x1 0 1000) = 0 → True))
theorem m_X9_lowMinutes (G : tvG) (M : tvM) (x1 : Int32) (n : Nat) (r : (Int32 × tvM)) (hs : tvIter (s_X9_lowMinutes x1) n (e_X9_lowMinutes M x1) = some r) (hq : qe_X9_lowMinutes M x1) (hqn : tvQ (s_X9_lowMinutes x1) (qs_X9_lowMinutes x1) n (e_X9_lowMinutes M x1)) : tvRun G yX9_lowMinutes cX9_lowMinutes 4 (some .int) 2 0 0 tvP0 tvP0 [.ref (G.2.1 + 249), .int x1] M (.inl (some (.int r.1))) r.2 := by
  refine tvRun.of yk_X9_lowMinutes rfl [some (.ref (G.2.1 + 249)), some (.int x1), none, none] rfl (Nat.le_of_ble_eq_true rfl) ?_
  intro E hG C hQ; subst hG
  have K : ∀ (n : Nat) (y2 : Int32) (y3 : Int32) (M : tvM), tvQ (s_X9_lowMinutes x1) (qs_X9_lowMinutes x1) n (.inl (y2, y3, M)) → tvIter (s_X9_lowMinutes x1) n (.inl (y2, y3, M)) = some r → tv_W E tvP0 0 0 M 30 [some (.ref (E.G.2.1 + 249)), some (.int x1), some (.int y2), some (.int y3)] [] := by
    intro n
    induction n with
    | zero => intro y2 y3 M hqq hz; exact (tvIter_0 hz).elim
    | succ n ih =>
      intro y2 y3 M hqq hz
      have hs : tvIter (s_X9_lowMinutes x1) n (sb_X9_lowMinutes x1 y2 y3 M) = some r := by have h9 := tvIter_go hz; exact h9
      have hqn : tvQ (s_X9_lowMinutes x1) (qs_X9_lowMinutes x1) n (sb_X9_lowMinutes x1 y2 y3 M) := by have h9 := (tvQ_go hqq).2; exact h9
      have hq : qb_X9_lowMinutes x1 y2 y3 M := by have h9 := (tvQ_go hqq).1; exact h9
      refine tv_iload_n C dk_X9_lowMinutes_30 rfl ?_
      refine tv_iload_n C dk_X9_lowMinutes_31 rfl ?_
      refine tv_icmp_ge C dk_X9_lowMinutes_32 (fun h101 => ?_) (fun h101 => ?_)
      · have q1 := hq.1 h101
        refine tv_iload_n C dk_X9_lowMinutes_64 rfl ?_
        exact tv_iret C hQ dk_X9_lowMinutes_65 rfl (by rw [sb_X9_lowMinutes, if_pos h101] at hs; rw [← tvIter_out hs]) (by rw [sb_X9_lowMinutes, if_pos h101] at hs; rw [← tvIter_out hs])
      have q2 := hq.2 h101
      refine tv_iload_n C dk_X9_lowMinutes_35 rfl ?_
      refine tv_aload_n C dk_X9_lowMinutes_36 rfl ?_
      refine tv_aload_n C dk_X9_lowMinutes_37 rfl ?_
      refine tv_getR (r := 250) C dk_X9_lowMinutes_38 fl_RX9_9 (Nat.le_of_ble_eq_true rfl) rfl rfl (fun _ _ _ _ => rfl) ?_
      refine tv_iconst (v := 0) C dk_X9_lowMinutes_41 (by decide) ?_
      refine tv_iald (j := 0) rfl C dk_X9_lowMinutes_42 (Nat.le_of_ble_eq_true rfl) rfl (vp_in_nI (n := 0) (by decide) (by decide)) ?_
      refine tv_iload_n C dk_X9_lowMinutes_43 rfl ?_
      refine tv_iadd C dk_X9_lowMinutes_44 ?_
      have q3 := q2.2
      refine tv_cV1 C dk_X9_lowMinutes_45 ml_RX9_126 yk_X9_low yi_X9_low (m_X9_low _ M ((tgi M 250 0) + y3) q2.1) (Nat.le_of_ble_eq_true rfl) rfl rfl rfl rfl (Nat.le_of_ble_eq_true rfl) (Nat.le_of_ble_eq_true rfl) (Nat.le_of_ble_eq_true rfl) (Nat.le_of_ble_eq_true rfl) (Nat.le_of_ble_eq_true rfl) ?_
      refine tv_if_eq C dk_X9_lowMinutes_48 (fun h102 => ?_) (fun h102 => ?_)
      · have q4 := q3.1 h102
        refine tv_iconst (v := 0) C dk_X9_lowMinutes_55 (by decide) ?_
        refine tv_iadd C dk_X9_lowMinutes_56 ?_
        refine tv_istore_n (L' := [_, _, _, _]) (hn := by decide) (hlt := (Nat.le_of_ble_eq_true rfl)) (hno := rfl) C dk_X9_lowMinutes_57 rfl ?_
        refine tv_iinc (v := (y3 + 1)) (L' := [_, _, _, _]) (hn := by decide) (hlt := (Nat.le_of_ble_eq_true rfl)) (hno := rfl) C dk_X9_lowMinutes_58 rfl rfl rfl ?_
        refine tv_goto C dk_X9_lowMinutes_61 ?_
        exact (ih (y2 + 0) (y3 + 1) M (by rw [sb_X9_lowMinutes, if_neg h101, if_pos h102] at hqn; exact hqn) (by rw [sb_X9_lowMinutes, if_neg h101, if_pos h102] at hs; exact hs))
      have q5 := q3.2 h102
      refine tv_iconst (v := 1) C dk_X9_lowMinutes_51 (by decide) ?_
      refine tv_goto C dk_X9_lowMinutes_52 ?_
      refine tv_iadd C dk_X9_lowMinutes_56 ?_
      refine tv_istore_n (L' := [_, _, _, _]) (hn := by decide) (hlt := (Nat.le_of_ble_eq_true rfl)) (hno := rfl) C dk_X9_lowMinutes_57 rfl ?_
      refine tv_iinc (v := (y3 + 1)) (L' := [_, _, _, _]) (hn := by decide) (hlt := (Nat.le_of_ble_eq_true rfl)) (hno := rfl) C dk_X9_lowMinutes_58 rfl rfl rfl ?_
      refine tv_goto C dk_X9_lowMinutes_61 ?_
      exact (ih (y2 + 1) (y3 + 1) M (by rw [sb_X9_lowMinutes, if_neg h101, if_neg h102] at hqn; exact hqn) (by rw [sb_X9_lowMinutes, if_neg h101, if_neg h102] at hs; exact hs))
  refine tv_aload_n C dk_X9_lowMinutes_0 rfl ?_
  refine tv_iload_n C dk_X9_lowMinutes_1 rfl ?_
  refine tv_iconst (v := 0) C dk_X9_lowMinutes_2 (by decide) ?_
  refine tv_sipush (v := 1000) C dk_X9_lowMinutes_3 (by decide) ?_
  refine tv_cS1 C dk_X9_lowMinutes_6 ml_RX9_51 yk_X9_isIn yi_X9_isIn (m_X9_isIn _ M x1 0 1000) rfl rfl (Nat.le_of_ble_eq_true rfl) (Nat.le_of_ble_eq_true rfl) (Nat.le_of_ble_eq_true rfl) (Nat.le_of_ble_eq_true rfl) (Nat.le_of_ble_eq_true rfl) ?_
  refine tv_if_ne C dk_X9_lowMinutes_9 (fun h1 => ?_) (fun h1 => ?_)
  · have q1 := hq.2 h1
    refine tv_iconst (v := 0) C dk_X9_lowMinutes_16 (by decide) ?_
    refine tv_iconst (v := 1) C dk_X9_lowMinutes_17 (by decide) ?_
    refine tv_cV1 C dk_X9_lowMinutes_18 ml_RX9_62 yk_X9_isThrown yi_X9_isThrown (m_X9_isThrown _ M 0 1 (tv_qt0 _ _)) (Nat.le_of_ble_eq_true rfl) rfl rfl rfl rfl (Nat.le_of_ble_eq_true rfl) (Nat.le_of_ble_eq_true rfl) (Nat.le_of_ble_eq_true rfl) (Nat.le_of_ble_eq_true rfl) (Nat.le_of_ble_eq_true rfl) ?_
    refine tv_ti (v := 0) rfl ?_
    refine tv_if_eq C dk_X9_lowMinutes_21 (fun _ => ?_) (fun h => absurd h (by decide))
    refine tv_iconst (v := 0) C dk_X9_lowMinutes_26 (by decide) ?_
    refine tv_istore_n (L' := [_, _, _, _]) (hn := by decide) (hlt := (Nat.le_of_ble_eq_true rfl)) (hno := rfl) C dk_X9_lowMinutes_27 rfl ?_
    refine tv_iconst (v := 0) C dk_X9_lowMinutes_28 (by decide) ?_
    refine tv_istore_n (L' := [_, _, _, _]) (hn := by decide) (hlt := (Nat.le_of_ble_eq_true rfl)) (hno := rfl) C dk_X9_lowMinutes_29 rfl ?_
    exact (K n 0 0 ((f_X9_isThrown M 0 1).2) (by rw [e_X9_lowMinutes, if_neg h1] at hqn; exact hqn) (by rw [e_X9_lowMinutes, if_neg h1] at hs; exact hs))
  have q2 := hq.1 h1
  refine tv_iconst (v := 1) C dk_X9_lowMinutes_12 (by decide) ?_
  refine tv_goto C dk_X9_lowMinutes_13 ?_
  refine tv_iconst (v := 1) C dk_X9_lowMinutes_17 (by decide) ?_
  refine tv_cV1 C dk_X9_lowMinutes_18 ml_RX9_62 yk_X9_isThrown yi_X9_isThrown (m_X9_isThrown _ M 1 1 (tv_qt1 _ _)) (Nat.le_of_ble_eq_true rfl) rfl rfl rfl rfl (Nat.le_of_ble_eq_true rfl) (Nat.le_of_ble_eq_true rfl) (Nat.le_of_ble_eq_true rfl) (Nat.le_of_ble_eq_true rfl) (Nat.le_of_ble_eq_true rfl) ?_
  refine tv_ti (v := 1) rfl ?_
  refine tv_if_eq C dk_X9_lowMinutes_21 (fun h => absurd h (by decide)) (fun _ => ?_)
  refine tv_iconst (v := 0) C dk_X9_lowMinutes_24 (by decide) ?_
  exact tv_iret C hQ dk_X9_lowMinutes_25 rfl (by rw [e_X9_lowMinutes, if_pos h1] at hs; rw [← tvIter_out hs]) (by rw [e_X9_lowMinutes, if_pos h1] at hs; rw [← tvIter_out hs])
def f_X9_lowMinutes (M : tvM) (x1 : Int32) : (Int32 × tvM) := (tvIter (s_X9_lowMinutes x1) 5000 (e_X9_lowMinutes M x1)).getD (0, M)
def q_X9_lowMinutes (M : tvM) (x1 : Int32) : Prop := qe_X9_lowMinutes M x1 ∧ (∃ r, tvIter (s_X9_lowMinutes x1) 5000 (e_X9_lowMinutes M x1) = some r) ∧ tvQ (s_X9_lowMinutes x1) (qs_X9_lowMinutes x1) 5000 (e_X9_lowMinutes M x1)
theorem n_X9_lowMinutes (G : tvG) (M : tvM) (x1 : Int32) (hq : q_X9_lowMinutes M x1) : tvRun G yX9_lowMinutes cX9_lowMinutes 4 (some .int) 2 0 0 tvP0 tvP0 [.ref (G.2.1 + 249), .int x1] M (.inl (some (.int (f_X9_lowMinutes M x1).1))) ((f_X9_lowMinutes M x1).2) := by
  obtain ⟨h1, ⟨r, h2⟩, h3⟩ := hq
  have h4 : f_X9_lowMinutes M x1 = r := by show (tvIter _ _ _).getD _ = _; rw [h2]; rfl
  rw [h4]
  exact m_X9_lowMinutes G M x1 _ r h2 h1 h3
/-- TideVaultModel.lowMinutesByCounting(I)I -/
def f_X9_lowMinutesByCounting (M : tvM) (x1 : Int32) : Int32 × tvM := ((f_X9_lowMinutes M x1).1, (f_X9_lowMinutes M x1).2)
def q_X9_lowMinutesByCounting (M : tvM) (x1 : Int32) : Prop := ((q_X9_lowMinutes M x1) ∧ True)
theorem m_X9_lowMinutesByCounting (G : tvG) (M : tvM) (x1 : Int32) (hq : q_X9_lowMinutesByCounting M x1) : tvRun G yX9_lowMinutesByCounting cX9_lowMinutesByCounting 2 (some .int) 3 0 0 tvP0 tvP0 [.ref (G.2.1 + 249), .int x1] M (.inl (some (.int (f_X9_lowMinutesByCounting M x1).1))) ((f_X9_lowMinutesByCounting M x1).2) := by
  refine tvRun.of yk_X9_lowMinutesByCounting rfl [some (.ref (G.2.1 + 249)), some (.int x1)] rfl (Nat.le_of_ble_eq_true rfl) ?_
  intro E hG C hQ; subst hG
  refine tv_aload_n C dk_X9_lowMinutesByCounting_0 rfl ?_
  refine tv_iload_n C dk_X9_lowMinutesByCounting_1 rfl ?_
  have q1 := hq.2
  refine tv_cV1 C dk_X9_lowMinutesByCounting_2 ml_RX9_165 yk_X9_lowMinutes yi_X9_lowMinutes (n_X9_lowMinutes _ M x1 hq.1) (Nat.le_of_ble_eq_true rfl) rfl rfl rfl rfl (Nat.le_of_ble_eq_true rfl) (Nat.le_of_ble_eq_true rfl) (Nat.le_of_ble_eq_true rfl) (Nat.le_of_ble_eq_true rfl) (Nat.le_of_ble_eq_true rfl) ?_
  exact tv_iret C hQ dk_X9_lowMinutesByCounting_5 rfl (by rw [f_X9_lowMinutesByCounting]) (by rw [f_X9_lowMinutesByCounting])
/-- TideVaultModel.boxesOf(I)I -/
def sb_X9_boxesOf (x1 : Int32) (y2 : Int32) (y3 : Int32) (M : tvM) : (Int32 × Int32 × tvM) ⊕ (Int32 × tvM) := (if (tgi M 250 10) ≤ y3 then .inr (y2, M) else (if (f_X9_isOf M y3 x1) = 0 then .inl ((y2 + 0), (y3 + 1), M) else .inl ((y2 + 1), (y3 + 1), M)))
def s_X9_boxesOf (x1 : Int32) : (Int32 × Int32 × tvM) → (Int32 × Int32 × tvM) ⊕ (Int32 × tvM) := fun q => sb_X9_boxesOf x1 q.1 q.2.1 q.2.2
def e_X9_boxesOf (M : tvM) (x1 : Int32) : (Int32 × Int32 × tvM) ⊕ (Int32 × tvM) := (if (f_X9_isHolder M x1) = 0 then .inr (0, (f_X9_isThrown M 1 1).2) else .inl (0, 0, (f_X9_isThrown M 0 1).2))
def qb_X9_boxesOf (x1 : Int32) (y2 : Int32) (y3 : Int32) (M : tvM) : Prop := (((tgi M 250 10) ≤ y3 → True) ∧ (¬ (tgi M 250 10) ≤ y3 → ((q_X9_isOf M y3 x1) ∧ (((f_X9_isOf M y3 x1) = 0 → True) ∧ (¬ (f_X9_isOf M y3 x1) = 0 → True)))))
def qs_X9_boxesOf (x1 : Int32) : (Int32 × Int32 × tvM) → Prop := fun q => qb_X9_boxesOf x1 q.1 q.2.1 q.2.2
def qe_X9_boxesOf (M : tvM) (x1 : Int32) : Prop := (((f_X9_isHolder M x1) = 0 → True) ∧ (¬ (f_X9_isHolder M x1) = 0 → True))
theorem m_X9_boxesOf (G : tvG) (M : tvM) (x1 : Int32) (n : Nat) (r : (Int32 × tvM)) (hs : tvIter (s_X9_boxesOf x1) n (e_X9_boxesOf M x1) = some r) (hq : qe_X9_boxesOf M x1) (hqn : tvQ (s_X9_boxesOf x1) (qs_X9_boxesOf x1) n (e_X9_boxesOf M x1)) : tvRun G yX9_boxesOf cX9_boxesOf 4 (some .int) 3 0 0 tvP0 tvP0 [.ref (G.2.1 + 249), .int x1] M (.inl (some (.int r.1))) r.2 := by
  refine tvRun.of yk_X9_boxesOf rfl [some (.ref (G.2.1 + 249)), some (.int x1), none, none] rfl (Nat.le_of_ble_eq_true rfl) ?_
  intro E hG C hQ; subst hG
  have K : ∀ (n : Nat) (y2 : Int32) (y3 : Int32) (M : tvM), tvQ (s_X9_boxesOf x1) (qs_X9_boxesOf x1) n (.inl (y2, y3, M)) → tvIter (s_X9_boxesOf x1) n (.inl (y2, y3, M)) = some r → tv_W E tvP0 0 0 M 27 [some (.ref (E.G.2.1 + 249)), some (.int x1), some (.int y2), some (.int y3)] [] := by
    intro n
    induction n with
    | zero => intro y2 y3 M hqq hz; exact (tvIter_0 hz).elim
    | succ n ih =>
      intro y2 y3 M hqq hz
      have hs : tvIter (s_X9_boxesOf x1) n (sb_X9_boxesOf x1 y2 y3 M) = some r := by have h9 := tvIter_go hz; exact h9
      have hqn : tvQ (s_X9_boxesOf x1) (qs_X9_boxesOf x1) n (sb_X9_boxesOf x1 y2 y3 M) := by have h9 := (tvQ_go hqq).2; exact h9
      have hq : qb_X9_boxesOf x1 y2 y3 M := by have h9 := (tvQ_go hqq).1; exact h9
      refine tv_iload_n C dk_X9_boxesOf_27 rfl ?_
      refine tv_aload_n C dk_X9_boxesOf_28 rfl ?_
      refine tv_getR (r := 250) C dk_X9_boxesOf_29 fl_RX9_9 (Nat.le_of_ble_eq_true rfl) rfl rfl (fun _ _ _ _ => rfl) ?_
      refine tv_bipush (v := 10) C dk_X9_boxesOf_32 (by decide) ?_
      refine tv_iald (j := 10) rfl C dk_X9_boxesOf_34 (Nat.le_of_ble_eq_true rfl) rfl (vp_in_nI (n := 10) (by decide) (by decide)) ?_
      refine tv_icmp_ge C dk_X9_boxesOf_35 (fun h101 => ?_) (fun h101 => ?_)
      · have q1 := hq.1 h101
        refine tv_iload_n C dk_X9_boxesOf_61 rfl ?_
        exact tv_iret C hQ dk_X9_boxesOf_62 rfl (by rw [sb_X9_boxesOf, if_pos h101] at hs; rw [← tvIter_out hs]) (by rw [sb_X9_boxesOf, if_pos h101] at hs; rw [← tvIter_out hs])
      have q2 := hq.2 h101
      refine tv_iload_n C dk_X9_boxesOf_38 rfl ?_
      refine tv_aload_n C dk_X9_boxesOf_39 rfl ?_
      refine tv_iload_n C dk_X9_boxesOf_40 rfl ?_
      refine tv_iload_n C dk_X9_boxesOf_41 rfl ?_
      have q3 := q2.2
      refine tv_cV1 C dk_X9_boxesOf_42 ml_RX9_116 yk_X9_isOf yi_X9_isOf (m_X9_isOf _ M y3 x1 q2.1) (Nat.le_of_ble_eq_true rfl) rfl rfl rfl rfl (Nat.le_of_ble_eq_true rfl) (Nat.le_of_ble_eq_true rfl) (Nat.le_of_ble_eq_true rfl) (Nat.le_of_ble_eq_true rfl) (Nat.le_of_ble_eq_true rfl) ?_
      refine tv_if_eq C dk_X9_boxesOf_45 (fun h102 => ?_) (fun h102 => ?_)
      · have q4 := q3.1 h102
        refine tv_iconst (v := 0) C dk_X9_boxesOf_52 (by decide) ?_
        refine tv_iadd C dk_X9_boxesOf_53 ?_
        refine tv_istore_n (L' := [_, _, _, _]) (hn := by decide) (hlt := (Nat.le_of_ble_eq_true rfl)) (hno := rfl) C dk_X9_boxesOf_54 rfl ?_
        refine tv_iinc (v := (y3 + 1)) (L' := [_, _, _, _]) (hn := by decide) (hlt := (Nat.le_of_ble_eq_true rfl)) (hno := rfl) C dk_X9_boxesOf_55 rfl rfl rfl ?_
        refine tv_goto C dk_X9_boxesOf_58 ?_
        exact (ih (y2 + 0) (y3 + 1) M (by rw [sb_X9_boxesOf, if_neg h101, if_pos h102] at hqn; exact hqn) (by rw [sb_X9_boxesOf, if_neg h101, if_pos h102] at hs; exact hs))
      have q5 := q3.2 h102
      refine tv_iconst (v := 1) C dk_X9_boxesOf_48 (by decide) ?_
      refine tv_goto C dk_X9_boxesOf_49 ?_
      refine tv_iadd C dk_X9_boxesOf_53 ?_
      refine tv_istore_n (L' := [_, _, _, _]) (hn := by decide) (hlt := (Nat.le_of_ble_eq_true rfl)) (hno := rfl) C dk_X9_boxesOf_54 rfl ?_
      refine tv_iinc (v := (y3 + 1)) (L' := [_, _, _, _]) (hn := by decide) (hlt := (Nat.le_of_ble_eq_true rfl)) (hno := rfl) C dk_X9_boxesOf_55 rfl rfl rfl ?_
      refine tv_goto C dk_X9_boxesOf_58 ?_
      exact (ih (y2 + 1) (y3 + 1) M (by rw [sb_X9_boxesOf, if_neg h101, if_neg h102] at hqn; exact hqn) (by rw [sb_X9_boxesOf, if_neg h101, if_neg h102] at hs; exact hs))
  refine tv_aload_n C dk_X9_boxesOf_0 rfl ?_
  refine tv_aload_n C dk_X9_boxesOf_1 rfl ?_
  refine tv_iload_n C dk_X9_boxesOf_2 rfl ?_
  refine tv_cV1 C dk_X9_boxesOf_3 ml_RX9_80 yk_X9_isHolder yi_X9_isHolder (m_X9_isHolder _ M x1) (Nat.le_of_ble_eq_true rfl) rfl rfl rfl rfl (Nat.le_of_ble_eq_true rfl) (Nat.le_of_ble_eq_true rfl) (Nat.le_of_ble_eq_true rfl) (Nat.le_of_ble_eq_true rfl) (Nat.le_of_ble_eq_true rfl) ?_
  refine tv_if_ne C dk_X9_boxesOf_6 (fun h1 => ?_) (fun h1 => ?_)
  · have q1 := hq.2 h1
    refine tv_iconst (v := 0) C dk_X9_boxesOf_13 (by decide) ?_
    refine tv_iconst (v := 1) C dk_X9_boxesOf_14 (by decide) ?_
    refine tv_cV1 C dk_X9_boxesOf_15 ml_RX9_62 yk_X9_isThrown yi_X9_isThrown (m_X9_isThrown _ M 0 1 (tv_qt0 _ _)) (Nat.le_of_ble_eq_true rfl) rfl rfl rfl rfl (Nat.le_of_ble_eq_true rfl) (Nat.le_of_ble_eq_true rfl) (Nat.le_of_ble_eq_true rfl) (Nat.le_of_ble_eq_true rfl) (Nat.le_of_ble_eq_true rfl) ?_
    refine tv_ti (v := 0) rfl ?_
    refine tv_if_eq C dk_X9_boxesOf_18 (fun _ => ?_) (fun h => absurd h (by decide))
    refine tv_iconst (v := 0) C dk_X9_boxesOf_23 (by decide) ?_
    refine tv_istore_n (L' := [_, _, _, _]) (hn := by decide) (hlt := (Nat.le_of_ble_eq_true rfl)) (hno := rfl) C dk_X9_boxesOf_24 rfl ?_
    refine tv_iconst (v := 0) C dk_X9_boxesOf_25 (by decide) ?_
    refine tv_istore_n (L' := [_, _, _, _]) (hn := by decide) (hlt := (Nat.le_of_ble_eq_true rfl)) (hno := rfl) C dk_X9_boxesOf_26 rfl ?_
    exact (K n 0 0 ((f_X9_isThrown M 0 1).2) (by rw [e_X9_boxesOf, if_neg h1] at hqn; exact hqn) (by rw [e_X9_boxesOf, if_neg h1] at hs; exact hs))
  have q2 := hq.1 h1
  refine tv_iconst (v := 1) C dk_X9_boxesOf_9 (by decide) ?_
  refine tv_goto C dk_X9_boxesOf_10 ?_
  refine tv_iconst (v := 1) C dk_X9_boxesOf_14 (by decide) ?_
  refine tv_cV1 C dk_X9_boxesOf_15 ml_RX9_62 yk_X9_isThrown yi_X9_isThrown (m_X9_isThrown _ M 1 1 (tv_qt1 _ _)) (Nat.le_of_ble_eq_true rfl) rfl rfl rfl rfl (Nat.le_of_ble_eq_true rfl) (Nat.le_of_ble_eq_true rfl) (Nat.le_of_ble_eq_true rfl) (Nat.le_of_ble_eq_true rfl) (Nat.le_of_ble_eq_true rfl) ?_
  refine tv_ti (v := 1) rfl ?_
  refine tv_if_eq C dk_X9_boxesOf_18 (fun h => absurd h (by decide)) (fun _ => ?_)
  refine tv_iconst (v := 0) C dk_X9_boxesOf_21 (by decide) ?_
  exact tv_iret C hQ dk_X9_boxesOf_22 rfl (by rw [e_X9_boxesOf, if_pos h1] at hs; rw [← tvIter_out hs]) (by rw [e_X9_boxesOf, if_pos h1] at hs; rw [← tvIter_out hs])
def f_X9_boxesOf (M : tvM) (x1 : Int32) : (Int32 × tvM) := (tvIter (s_X9_boxesOf x1) 5000 (e_X9_boxesOf M x1)).getD (0, M)
def q_X9_boxesOf (M : tvM) (x1 : Int32) : Prop := qe_X9_boxesOf M x1 ∧ (∃ r, tvIter (s_X9_boxesOf x1) 5000 (e_X9_boxesOf M x1) = some r) ∧ tvQ (s_X9_boxesOf x1) (qs_X9_boxesOf x1) 5000 (e_X9_boxesOf M x1)
theorem n_X9_boxesOf (G : tvG) (M : tvM) (x1 : Int32) (hq : q_X9_boxesOf M x1) : tvRun G yX9_boxesOf cX9_boxesOf 4 (some .int) 3 0 0 tvP0 tvP0 [.ref (G.2.1 + 249), .int x1] M (.inl (some (.int (f_X9_boxesOf M x1).1))) ((f_X9_boxesOf M x1).2) := by
  obtain ⟨h1, ⟨r, h2⟩, h3⟩ := hq
  have h4 : f_X9_boxesOf M x1 = r := by show (tvIter _ _ _).getD _ = _; rw [h2]; rfl
  rw [h4]
  exact m_X9_boxesOf G M x1 _ r h2 h1 h3
/-- TideVaultModel.minutesUntilOpen(I)I -/
def sb_X9_minutesUntilOpen (x1 : Int32) (y2 : Int32) (y3 : Int32) (y4 : Int32) (M : tvM) : (Int32 × Int32 × Int32 × tvM) ⊕ (Int32 × tvM) := (if y4 = 0 then (if (f_X9_low M y3) = 0 then (if (y2 - 0) = 0 then (if (f_X9_low M (y3 + 1)) = 0 then .inl ((y2 - 0), (y3 + 1), 0, M) else .inl ((y2 - 0), (y3 + 1), 1, M)) else .inl ((y2 - 0), (y3 + 1), 0, M)) else (if y2 ≤ 0 then (if (y2 - 0) = 0 then (if (f_X9_low M (y3 + 1)) = 0 then .inl ((y2 - 0), (y3 + 1), 0, M) else .inl ((y2 - 0), (y3 + 1), 1, M)) else .inl ((y2 - 0), (y3 + 1), 0, M)) else (if (y2 - 1) = 0 then (if (f_X9_low M (y3 + 1)) = 0 then .inl ((y2 - 1), (y3 + 1), 0, M) else .inl ((y2 - 1), (y3 + 1), 1, M)) else .inl ((y2 - 1), (y3 + 1), 0, M)))) else .inr ((y3 - (tgi M 250 0)), M))
def s_X9_minutesUntilOpen (x1 : Int32) : (Int32 × Int32 × Int32 × tvM) → (Int32 × Int32 × Int32 × tvM) ⊕ (Int32 × tvM) := fun q => sb_X9_minutesUntilOpen x1 q.1 q.2.1 q.2.2.1 q.2.2.2
def e_X9_minutesUntilOpen (M : tvM) (x1 : Int32) : (Int32 × Int32 × Int32 × tvM) ⊕ (Int32 × tvM) := (if (f_X9_isNotPending M x1).1 = 0 then .inl ((f_X9_of ((f_X9_isNotPending M x1).2) x1 6), (tgi ((f_X9_isNotPending M x1).2) 250 0), 0, (f_X9_isNotPending M x1).2) else .inr (0, (f_X9_isNotPending M x1).2))
def qb_X9_minutesUntilOpen (x1 : Int32) (y2 : Int32) (y3 : Int32) (y4 : Int32) (M : tvM) : Prop := ((y4 = 0 → ((q_X9_low M y3) ∧ (((f_X9_low M y3) = 0 → (((y2 - 0) = 0 → ((q_X9_low M (y3 + 1)) ∧ (((f_X9_low M (y3 + 1)) = 0 → True) ∧ (¬ (f_X9_low M (y3 + 1)) = 0 → True)))) ∧ (¬ (y2 - 0) = 0 → True))) ∧ (¬ (f_X9_low M y3) = 0 → ((y2 ≤ 0 → (((y2 - 0) = 0 → ((q_X9_low M (y3 + 1)) ∧ (((f_X9_low M (y3 + 1)) = 0 → True) ∧ (¬ (f_X9_low M (y3 + 1)) = 0 → True)))) ∧ (¬ (y2 - 0) = 0 → True))) ∧ (¬ y2 ≤ 0 → (((y2 - 1) = 0 → ((q_X9_low M (y3 + 1)) ∧ (((f_X9_low M (y3 + 1)) = 0 → True) ∧ (¬ (f_X9_low M (y3 + 1)) = 0 → True)))) ∧ (¬ (y2 - 1) = 0 → True)))))))) ∧ (¬ y4 = 0 → True))
def qs_X9_minutesUntilOpen (x1 : Int32) : (Int32 × Int32 × Int32 × tvM) → Prop := fun q => qb_X9_minutesUntilOpen x1 q.1 q.2.1 q.2.2.1 q.2.2.2
def qe_X9_minutesUntilOpen (M : tvM) (x1 : Int32) : Prop := ((q_X9_isNotPending M x1) ∧ (((f_X9_isNotPending M x1).1 = 0 → ((q_X9_of ((f_X9_isNotPending M x1).2) x1 6) ∧ True)) ∧ (¬ (f_X9_isNotPending M x1).1 = 0 → True)))
theorem m_X9_minutesUntilOpen (G : tvG) (M : tvM) (x1 : Int32) (n : Nat) (r : (Int32 × tvM)) (hs : tvIter (s_X9_minutesUntilOpen x1) n (e_X9_minutesUntilOpen M x1) = some r) (hq : qe_X9_minutesUntilOpen M x1) (hqn : tvQ (s_X9_minutesUntilOpen x1) (qs_X9_minutesUntilOpen x1) n (e_X9_minutesUntilOpen M x1)) : tvRun G yX9_minutesUntilOpen cX9_minutesUntilOpen 5 (some .int) 4 0 0 tvP0 tvP0 [.ref (G.2.1 + 249), .int x1] M (.inl (some (.int r.1))) r.2 := by
  refine tvRun.of yk_X9_minutesUntilOpen rfl [some (.ref (G.2.1 + 249)), some (.int x1), none, none, none] rfl (Nat.le_of_ble_eq_true rfl) ?_
  intro E hG C hQ; subst hG
  have K : ∀ (n : Nat) (y2 : Int32) (y3 : Int32) (y4 : Int32) (M : tvM), tvQ (s_X9_minutesUntilOpen x1) (qs_X9_minutesUntilOpen x1) n (.inl (y2, y3, y4, M)) → tvIter (s_X9_minutesUntilOpen x1) n (.inl (y2, y3, y4, M)) = some r → tv_W E tvP0 0 0 M 28 [some (.ref (E.G.2.1 + 249)), some (.int x1), some (.int y2), some (.int y3), some (.int y4)] [] := by
    intro n
    induction n with
    | zero => intro y2 y3 y4 M hqq hz; exact (tvIter_0 hz).elim
    | succ n ih =>
      intro y2 y3 y4 M hqq hz
      have hs : tvIter (s_X9_minutesUntilOpen x1) n (sb_X9_minutesUntilOpen x1 y2 y3 y4 M) = some r := by have h9 := tvIter_go hz; exact h9
      have hqn : tvQ (s_X9_minutesUntilOpen x1) (qs_X9_minutesUntilOpen x1) n (sb_X9_minutesUntilOpen x1 y2 y3 y4 M) := by have h9 := (tvQ_go hqq).2; exact h9
      have hq : qb_X9_minutesUntilOpen x1 y2 y3 y4 M := by have h9 := (tvQ_go hqq).1; exact h9
      refine tv_iload C dk_X9_minutesUntilOpen_28 rfl ?_
      refine tv_if_ne C dk_X9_minutesUntilOpen_30 (fun h101 => ?_) (fun h101 => ?_)
      · have q1 := hq.2 h101
        refine tv_iload_n C dk_X9_minutesUntilOpen_78 rfl ?_
        refine tv_aload_n C dk_X9_minutesUntilOpen_79 rfl ?_
        refine tv_getR (r := 250) C dk_X9_minutesUntilOpen_80 fl_RX9_9 (Nat.le_of_ble_eq_true rfl) rfl rfl (fun _ _ _ _ => rfl) ?_
        refine tv_iconst (v := 0) C dk_X9_minutesUntilOpen_83 (by decide) ?_
        refine tv_iald (j := 0) rfl C dk_X9_minutesUntilOpen_84 (Nat.le_of_ble_eq_true rfl) rfl (vp_in_nI (n := 0) (by decide) (by decide)) ?_
        refine tv_isub C dk_X9_minutesUntilOpen_85 ?_
        exact tv_iret C hQ dk_X9_minutesUntilOpen_86 rfl (by rw [sb_X9_minutesUntilOpen, if_neg h101] at hs; rw [← tvIter_out hs]) (by rw [sb_X9_minutesUntilOpen, if_neg h101] at hs; rw [← tvIter_out hs])
      have q2 := hq.1 h101
      refine tv_iload_n C dk_X9_minutesUntilOpen_33 rfl ?_
      refine tv_aload_n C dk_X9_minutesUntilOpen_34 rfl ?_
      refine tv_iload_n C dk_X9_minutesUntilOpen_35 rfl ?_
      have q3 := q2.2
      refine tv_cV1 C dk_X9_minutesUntilOpen_36 ml_RX9_126 yk_X9_low yi_X9_low (m_X9_low _ M y3 q2.1) (Nat.le_of_ble_eq_true rfl) rfl rfl rfl rfl (Nat.le_of_ble_eq_true rfl) (Nat.le_of_ble_eq_true rfl) (Nat.le_of_ble_eq_true rfl) (Nat.le_of_ble_eq_true rfl) (Nat.le_of_ble_eq_true rfl) ?_
      refine tv_if_eq C dk_X9_minutesUntilOpen_39 (fun h102 => ?_) (fun h102 => ?_)
      · have q4 := q3.1 h102
        refine tv_iconst (v := 0) C dk_X9_minutesUntilOpen_50 (by decide) ?_
        refine tv_isub C dk_X9_minutesUntilOpen_51 ?_
        refine tv_istore_n (L' := [_, _, _, _, _]) (hn := by decide) (hlt := (Nat.le_of_ble_eq_true rfl)) (hno := rfl) C dk_X9_minutesUntilOpen_52 rfl ?_
        refine tv_iinc (v := (y3 + 1)) (L' := [_, _, _, _, _]) (hn := by decide) (hlt := (Nat.le_of_ble_eq_true rfl)) (hno := rfl) C dk_X9_minutesUntilOpen_53 rfl rfl rfl ?_
        refine tv_iload_n C dk_X9_minutesUntilOpen_56 rfl ?_
        refine tv_if_ne C dk_X9_minutesUntilOpen_57 (fun h103 => ?_) (fun h103 => ?_)
        · have q5 := q4.2 h103
          refine tv_iconst (v := 0) C dk_X9_minutesUntilOpen_72 (by decide) ?_
          refine tv_istore (L' := [_, _, _, _, _]) (hn := by decide) (hlt := (Nat.le_of_ble_eq_true rfl)) (hno := rfl) C dk_X9_minutesUntilOpen_73 rfl ?_
          refine tv_goto C dk_X9_minutesUntilOpen_75 ?_
          exact (ih (y2 - 0) (y3 + 1) 0 M (by rw [sb_X9_minutesUntilOpen, if_pos h101, if_pos h102, if_neg h103] at hqn; exact hqn) (by rw [sb_X9_minutesUntilOpen, if_pos h101, if_pos h102, if_neg h103] at hs; exact hs))
        have q6 := q4.1 h103
        refine tv_aload_n C dk_X9_minutesUntilOpen_60 rfl ?_
        refine tv_iload_n C dk_X9_minutesUntilOpen_61 rfl ?_
        have q7 := q6.2
        refine tv_cV1 C dk_X9_minutesUntilOpen_62 ml_RX9_126 yk_X9_low yi_X9_low (m_X9_low _ M (y3 + 1) q6.1) (Nat.le_of_ble_eq_true rfl) rfl rfl rfl rfl (Nat.le_of_ble_eq_true rfl) (Nat.le_of_ble_eq_true rfl) (Nat.le_of_ble_eq_true rfl) (Nat.le_of_ble_eq_true rfl) (Nat.le_of_ble_eq_true rfl) ?_
        refine tv_if_eq C dk_X9_minutesUntilOpen_65 (fun h104 => ?_) (fun h104 => ?_)
        · have q8 := q7.1 h104
          refine tv_iconst (v := 0) C dk_X9_minutesUntilOpen_72 (by decide) ?_
          refine tv_istore (L' := [_, _, _, _, _]) (hn := by decide) (hlt := (Nat.le_of_ble_eq_true rfl)) (hno := rfl) C dk_X9_minutesUntilOpen_73 rfl ?_
          refine tv_goto C dk_X9_minutesUntilOpen_75 ?_
          exact (ih (y2 - 0) (y3 + 1) 0 M (by rw [sb_X9_minutesUntilOpen, if_pos h101, if_pos h102, if_pos h103, if_pos h104] at hqn; exact hqn) (by rw [sb_X9_minutesUntilOpen, if_pos h101, if_pos h102, if_pos h103, if_pos h104] at hs; exact hs))
        have q9 := q7.2 h104
        refine tv_iconst (v := 1) C dk_X9_minutesUntilOpen_68 (by decide) ?_
        refine tv_goto C dk_X9_minutesUntilOpen_69 ?_
        refine tv_istore (L' := [_, _, _, _, _]) (hn := by decide) (hlt := (Nat.le_of_ble_eq_true rfl)) (hno := rfl) C dk_X9_minutesUntilOpen_73 rfl ?_
        refine tv_goto C dk_X9_minutesUntilOpen_75 ?_
        exact (ih (y2 - 0) (y3 + 1) 1 M (by rw [sb_X9_minutesUntilOpen, if_pos h101, if_pos h102, if_pos h103, if_neg h104] at hqn; exact hqn) (by rw [sb_X9_minutesUntilOpen, if_pos h101, if_pos h102, if_pos h103, if_neg h104] at hs; exact hs))
      have q10 := q3.2 h102
      refine tv_iload_n C dk_X9_minutesUntilOpen_42 rfl ?_
      refine tv_if_le C dk_X9_minutesUntilOpen_43 (fun h105 => ?_) (fun h105 => ?_)
      · have q11 := q10.1 h105
        refine tv_iconst (v := 0) C dk_X9_minutesUntilOpen_50 (by decide) ?_
        refine tv_isub C dk_X9_minutesUntilOpen_51 ?_
        refine tv_istore_n (L' := [_, _, _, _, _]) (hn := by decide) (hlt := (Nat.le_of_ble_eq_true rfl)) (hno := rfl) C dk_X9_minutesUntilOpen_52 rfl ?_
        refine tv_iinc (v := (y3 + 1)) (L' := [_, _, _, _, _]) (hn := by decide) (hlt := (Nat.le_of_ble_eq_true rfl)) (hno := rfl) C dk_X9_minutesUntilOpen_53 rfl rfl rfl ?_
        refine tv_iload_n C dk_X9_minutesUntilOpen_56 rfl ?_
        refine tv_if_ne C dk_X9_minutesUntilOpen_57 (fun h106 => ?_) (fun h106 => ?_)
        · have q12 := q11.2 h106
          refine tv_iconst (v := 0) C dk_X9_minutesUntilOpen_72 (by decide) ?_
          refine tv_istore (L' := [_, _, _, _, _]) (hn := by decide) (hlt := (Nat.le_of_ble_eq_true rfl)) (hno := rfl) C dk_X9_minutesUntilOpen_73 rfl ?_
          refine tv_goto C dk_X9_minutesUntilOpen_75 ?_
          exact (ih (y2 - 0) (y3 + 1) 0 M (by rw [sb_X9_minutesUntilOpen, if_pos h101, if_neg h102, if_pos h105, if_neg h106] at hqn; exact hqn) (by rw [sb_X9_minutesUntilOpen, if_pos h101, if_neg h102, if_pos h105, if_neg h106] at hs; exact hs))
        have q13 := q11.1 h106
        refine tv_aload_n C dk_X9_minutesUntilOpen_60 rfl ?_
        refine tv_iload_n C dk_X9_minutesUntilOpen_61 rfl ?_
        have q14 := q13.2
        refine tv_cV1 C dk_X9_minutesUntilOpen_62 ml_RX9_126 yk_X9_low yi_X9_low (m_X9_low _ M (y3 + 1) q13.1) (Nat.le_of_ble_eq_true rfl) rfl rfl rfl rfl (Nat.le_of_ble_eq_true rfl) (Nat.le_of_ble_eq_true rfl) (Nat.le_of_ble_eq_true rfl) (Nat.le_of_ble_eq_true rfl) (Nat.le_of_ble_eq_true rfl) ?_
        refine tv_if_eq C dk_X9_minutesUntilOpen_65 (fun h107 => ?_) (fun h107 => ?_)
        · have q15 := q14.1 h107
          refine tv_iconst (v := 0) C dk_X9_minutesUntilOpen_72 (by decide) ?_
          refine tv_istore (L' := [_, _, _, _, _]) (hn := by decide) (hlt := (Nat.le_of_ble_eq_true rfl)) (hno := rfl) C dk_X9_minutesUntilOpen_73 rfl ?_
          refine tv_goto C dk_X9_minutesUntilOpen_75 ?_
          exact (ih (y2 - 0) (y3 + 1) 0 M (by rw [sb_X9_minutesUntilOpen, if_pos h101, if_neg h102, if_pos h105, if_pos h106, if_pos h107] at hqn; exact hqn) (by rw [sb_X9_minutesUntilOpen, if_pos h101, if_neg h102, if_pos h105, if_pos h106, if_pos h107] at hs; exact hs))
        have q16 := q14.2 h107
        refine tv_iconst (v := 1) C dk_X9_minutesUntilOpen_68 (by decide) ?_
        refine tv_goto C dk_X9_minutesUntilOpen_69 ?_
        refine tv_istore (L' := [_, _, _, _, _]) (hn := by decide) (hlt := (Nat.le_of_ble_eq_true rfl)) (hno := rfl) C dk_X9_minutesUntilOpen_73 rfl ?_
        refine tv_goto C dk_X9_minutesUntilOpen_75 ?_
        exact (ih (y2 - 0) (y3 + 1) 1 M (by rw [sb_X9_minutesUntilOpen, if_pos h101, if_neg h102, if_pos h105, if_pos h106, if_neg h107] at hqn; exact hqn) (by rw [sb_X9_minutesUntilOpen, if_pos h101, if_neg h102, if_pos h105, if_pos h106, if_neg h107] at hs; exact hs))
      have q17 := q10.2 h105
      refine tv_iconst (v := 1) C dk_X9_minutesUntilOpen_46 (by decide) ?_
      refine tv_goto C dk_X9_minutesUntilOpen_47 ?_
      refine tv_isub C dk_X9_minutesUntilOpen_51 ?_
      refine tv_istore_n (L' := [_, _, _, _, _]) (hn := by decide) (hlt := (Nat.le_of_ble_eq_true rfl)) (hno := rfl) C dk_X9_minutesUntilOpen_52 rfl ?_
      refine tv_iinc (v := (y3 + 1)) (L' := [_, _, _, _, _]) (hn := by decide) (hlt := (Nat.le_of_ble_eq_true rfl)) (hno := rfl) C dk_X9_minutesUntilOpen_53 rfl rfl rfl ?_
      refine tv_iload_n C dk_X9_minutesUntilOpen_56 rfl ?_
      refine tv_if_ne C dk_X9_minutesUntilOpen_57 (fun h108 => ?_) (fun h108 => ?_)
      · have q18 := q17.2 h108
        refine tv_iconst (v := 0) C dk_X9_minutesUntilOpen_72 (by decide) ?_
        refine tv_istore (L' := [_, _, _, _, _]) (hn := by decide) (hlt := (Nat.le_of_ble_eq_true rfl)) (hno := rfl) C dk_X9_minutesUntilOpen_73 rfl ?_
        refine tv_goto C dk_X9_minutesUntilOpen_75 ?_
        exact (ih (y2 - 1) (y3 + 1) 0 M (by rw [sb_X9_minutesUntilOpen, if_pos h101, if_neg h102, if_neg h105, if_neg h108] at hqn; exact hqn) (by rw [sb_X9_minutesUntilOpen, if_pos h101, if_neg h102, if_neg h105, if_neg h108] at hs; exact hs))
      have q19 := q17.1 h108
      refine tv_aload_n C dk_X9_minutesUntilOpen_60 rfl ?_
      refine tv_iload_n C dk_X9_minutesUntilOpen_61 rfl ?_
      have q20 := q19.2
      refine tv_cV1 C dk_X9_minutesUntilOpen_62 ml_RX9_126 yk_X9_low yi_X9_low (m_X9_low _ M (y3 + 1) q19.1) (Nat.le_of_ble_eq_true rfl) rfl rfl rfl rfl (Nat.le_of_ble_eq_true rfl) (Nat.le_of_ble_eq_true rfl) (Nat.le_of_ble_eq_true rfl) (Nat.le_of_ble_eq_true rfl) (Nat.le_of_ble_eq_true rfl) ?_
      refine tv_if_eq C dk_X9_minutesUntilOpen_65 (fun h109 => ?_) (fun h109 => ?_)
      · have q21 := q20.1 h109
        refine tv_iconst (v := 0) C dk_X9_minutesUntilOpen_72 (by decide) ?_
        refine tv_istore (L' := [_, _, _, _, _]) (hn := by decide) (hlt := (Nat.le_of_ble_eq_true rfl)) (hno := rfl) C dk_X9_minutesUntilOpen_73 rfl ?_
        refine tv_goto C dk_X9_minutesUntilOpen_75 ?_
        exact (ih (y2 - 1) (y3 + 1) 0 M (by rw [sb_X9_minutesUntilOpen, if_pos h101, if_neg h102, if_neg h105, if_pos h108, if_pos h109] at hqn; exact hqn) (by rw [sb_X9_minutesUntilOpen, if_pos h101, if_neg h102, if_neg h105, if_pos h108, if_pos h109] at hs; exact hs))
      have q22 := q20.2 h109
      refine tv_iconst (v := 1) C dk_X9_minutesUntilOpen_68 (by decide) ?_
      refine tv_goto C dk_X9_minutesUntilOpen_69 ?_
      refine tv_istore (L' := [_, _, _, _, _]) (hn := by decide) (hlt := (Nat.le_of_ble_eq_true rfl)) (hno := rfl) C dk_X9_minutesUntilOpen_73 rfl ?_
      refine tv_goto C dk_X9_minutesUntilOpen_75 ?_
      exact (ih (y2 - 1) (y3 + 1) 1 M (by rw [sb_X9_minutesUntilOpen, if_pos h101, if_neg h102, if_neg h105, if_pos h108, if_neg h109] at hqn; exact hqn) (by rw [sb_X9_minutesUntilOpen, if_pos h101, if_neg h102, if_neg h105, if_pos h108, if_neg h109] at hs; exact hs))
  refine tv_aload_n C dk_X9_minutesUntilOpen_0 rfl ?_
  refine tv_iload_n C dk_X9_minutesUntilOpen_1 rfl ?_
  have q1 := hq.2
  refine tv_cV1 C dk_X9_minutesUntilOpen_2 ml_RX9_168 yk_X9_isNotPending yi_X9_isNotPending (m_X9_isNotPending _ M x1 hq.1) (Nat.le_of_ble_eq_true rfl) rfl rfl rfl rfl (Nat.le_of_ble_eq_true rfl) (Nat.le_of_ble_eq_true rfl) (Nat.le_of_ble_eq_true rfl) (Nat.le_of_ble_eq_true rfl) (Nat.le_of_ble_eq_true rfl) ?_
  refine tv_if_eq C dk_X9_minutesUntilOpen_5 (fun h1 => ?_) (fun h1 => ?_)
  · have q2 := q1.1 h1
    refine tv_aload_n C dk_X9_minutesUntilOpen_10 rfl ?_
    refine tv_iload_n C dk_X9_minutesUntilOpen_11 rfl ?_
    refine tv_bipush (v := 6) C dk_X9_minutesUntilOpen_12 (by decide) ?_
    have q3 := q2.2
    refine tv_cV1 C dk_X9_minutesUntilOpen_14 ml_RX9_55 yk_X9_of yi_X9_of (m_X9_of _ ((f_X9_isNotPending M x1).2) x1 6 q2.1) (Nat.le_of_ble_eq_true rfl) rfl rfl rfl rfl (Nat.le_of_ble_eq_true rfl) (Nat.le_of_ble_eq_true rfl) (Nat.le_of_ble_eq_true rfl) (Nat.le_of_ble_eq_true rfl) (Nat.le_of_ble_eq_true rfl) ?_
    refine tv_istore_n (L' := [_, _, _, _, _]) (hn := by decide) (hlt := (Nat.le_of_ble_eq_true rfl)) (hno := rfl) C dk_X9_minutesUntilOpen_17 rfl ?_
    refine tv_aload_n C dk_X9_minutesUntilOpen_18 rfl ?_
    refine tv_getR (r := 250) C dk_X9_minutesUntilOpen_19 fl_RX9_9 (Nat.le_of_ble_eq_true rfl) rfl rfl (fun _ _ _ _ => rfl) ?_
    refine tv_iconst (v := 0) C dk_X9_minutesUntilOpen_22 (by decide) ?_
    refine tv_iald (j := 0) rfl C dk_X9_minutesUntilOpen_23 (Nat.le_of_ble_eq_true rfl) rfl (vp_in_nI (n := 0) (by decide) (by decide)) ?_
    refine tv_istore_n (L' := [_, _, _, _, _]) (hn := by decide) (hlt := (Nat.le_of_ble_eq_true rfl)) (hno := rfl) C dk_X9_minutesUntilOpen_24 rfl ?_
    refine tv_iconst (v := 0) C dk_X9_minutesUntilOpen_25 (by decide) ?_
    refine tv_istore (L' := [_, _, _, _, _]) (hn := by decide) (hlt := (Nat.le_of_ble_eq_true rfl)) (hno := rfl) C dk_X9_minutesUntilOpen_26 rfl ?_
    exact (K n (f_X9_of ((f_X9_isNotPending M x1).2) x1 6) (tgi ((f_X9_isNotPending M x1).2) 250 0) 0 ((f_X9_isNotPending M x1).2) (by rw [e_X9_minutesUntilOpen, if_pos h1] at hqn; exact hqn) (by rw [e_X9_minutesUntilOpen, if_pos h1] at hs; exact hs))
  have q4 := q1.2 h1
  refine tv_iconst (v := 0) C dk_X9_minutesUntilOpen_8 (by decide) ?_
  exact tv_iret C hQ dk_X9_minutesUntilOpen_9 rfl (by rw [e_X9_minutesUntilOpen, if_neg h1] at hs; rw [← tvIter_out hs]) (by rw [e_X9_minutesUntilOpen, if_neg h1] at hs; rw [← tvIter_out hs])
def f_X9_minutesUntilOpen (M : tvM) (x1 : Int32) : (Int32 × tvM) := (tvIter (s_X9_minutesUntilOpen x1) 5000 (e_X9_minutesUntilOpen M x1)).getD (0, M)
def q_X9_minutesUntilOpen (M : tvM) (x1 : Int32) : Prop := qe_X9_minutesUntilOpen M x1 ∧ (∃ r, tvIter (s_X9_minutesUntilOpen x1) 5000 (e_X9_minutesUntilOpen M x1) = some r) ∧ tvQ (s_X9_minutesUntilOpen x1) (qs_X9_minutesUntilOpen x1) 5000 (e_X9_minutesUntilOpen M x1)
theorem n_X9_minutesUntilOpen (G : tvG) (M : tvM) (x1 : Int32) (hq : q_X9_minutesUntilOpen M x1) : tvRun G yX9_minutesUntilOpen cX9_minutesUntilOpen 5 (some .int) 4 0 0 tvP0 tvP0 [.ref (G.2.1 + 249), .int x1] M (.inl (some (.int (f_X9_minutesUntilOpen M x1).1))) ((f_X9_minutesUntilOpen M x1).2) := by
  obtain ⟨h1, ⟨r, h2⟩, h3⟩ := hq
  have h4 : f_X9_minutesUntilOpen M x1 = r := by show (tvIter _ _ _).getD _ = _; rw [h2]; rfl
  rw [h4]
  exact m_X9_minutesUntilOpen G M x1 _ r h2 h1 h3
