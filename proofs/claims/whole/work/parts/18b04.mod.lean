/-- TideVaultModel.minutesUntilOpenBySimulation(I)I -/
def f_X9_minutesUntilOpenBySimulation (M : tvM) (x1 : Int32) : Int32 × tvM := ((f_X9_minutesUntilOpen M x1).1, (f_X9_minutesUntilOpen M x1).2)
def q_X9_minutesUntilOpenBySimulation (M : tvM) (x1 : Int32) : Prop := ((q_X9_minutesUntilOpen M x1) ∧ True)
theorem m_X9_minutesUntilOpenBySimulation (G : tvG) (M : tvM) (x1 : Int32) (hq : q_X9_minutesUntilOpenBySimulation M x1) : tvRun G yX9_minutesUntilOpenBySimulation cX9_minutesUntilOpenBySimulation 2 (some .int) 5 0 0 tvP0 tvP0 [.ref (G.2.1 + 249), .int x1] M (.inl (some (.int (f_X9_minutesUntilOpenBySimulation M x1).1))) ((f_X9_minutesUntilOpenBySimulation M x1).2) := by
  refine tvRun.of yk_X9_minutesUntilOpenBySimulation rfl [some (.ref (G.2.1 + 249)), some (.int x1)] rfl (Nat.le_of_ble_eq_true rfl) ?_
  intro E hG C hQ; subst hG
  refine tv_aload_n C dk_X9_minutesUntilOpenBySimulation_0 rfl ?_
  refine tv_iload_n C dk_X9_minutesUntilOpenBySimulation_1 rfl ?_
  have q1 := hq.2
  refine tv_cV1 C dk_X9_minutesUntilOpenBySimulation_2 ml_RX9_171 yk_X9_minutesUntilOpen yi_X9_minutesUntilOpen (n_X9_minutesUntilOpen _ M x1 hq.1) (Nat.le_of_ble_eq_true rfl) rfl rfl rfl rfl (Nat.le_of_ble_eq_true rfl) (Nat.le_of_ble_eq_true rfl) (Nat.le_of_ble_eq_true rfl) (Nat.le_of_ble_eq_true rfl) (Nat.le_of_ble_eq_true rfl) ?_
  exact tv_iret C hQ dk_X9_minutesUntilOpenBySimulation_5 rfl (by rw [f_X9_minutesUntilOpenBySimulation]) (by rw [f_X9_minutesUntilOpenBySimulation])
/-- TideVaultModel.worth(I)I -/
def sb_X9_worth (M : tvM) (x1 : Int32) (y2 : Int32) (y3 : Int32) : (Int32 × Int32) ⊕ Int32 := (if (f_X9_of M x1 7) ≤ y3 then .inr y2 else .inl ((y2 + (f_X9_of M x1 (8 + y3))), (y3 + 1)))
def s_X9_worth (M : tvM) (x1 : Int32) : (Int32 × Int32) → (Int32 × Int32) ⊕ Int32 := fun q => sb_X9_worth M x1 q.1 q.2
def e_X9_worth (M : tvM) (x1 : Int32) : (Int32 × Int32) ⊕ Int32 := .inl (0, 0)
def qb_X9_worth (M : tvM) (x1 : Int32) (y2 : Int32) (y3 : Int32) : Prop := ((q_X9_of M x1 7) ∧ (((f_X9_of M x1 7) ≤ y3 → True) ∧ (¬ (f_X9_of M x1 7) ≤ y3 → ((q_X9_of M x1 (8 + y3)) ∧ True))))
def qs_X9_worth (M : tvM) (x1 : Int32) : (Int32 × Int32) → Prop := fun q => qb_X9_worth M x1 q.1 q.2
def qe_X9_worth (M : tvM) (x1 : Int32) : Prop := True
theorem m_X9_worth (G : tvG) (M : tvM) (x1 : Int32) (n : Nat) (r : Int32) (hs : tvIter (s_X9_worth M x1) n (e_X9_worth M x1) = some r) (hq : qe_X9_worth M x1) (hqn : tvQ (s_X9_worth M x1) (qs_X9_worth M x1) n (e_X9_worth M x1)) : tvRun G yX9_worth cX9_worth 4 (some .int) 2 0 0 tvP0 tvP0 [.ref (G.2.1 + 249), .int x1] M (.inl (some (.int r))) M := by
  refine tvRun.of yk_X9_worth rfl [some (.ref (G.2.1 + 249)), some (.int x1), none, none] rfl (Nat.le_of_ble_eq_true rfl) ?_
  intro E hG C hQ; subst hG
  have K : ∀ (n : Nat) (y2 : Int32) (y3 : Int32), tvQ (s_X9_worth M x1) (qs_X9_worth M x1) n (.inl (y2, y3)) → tvIter (s_X9_worth M x1) n (.inl (y2, y3)) = some r → tv_W E tvP0 0 0 M 4 [some (.ref (E.G.2.1 + 249)), some (.int x1), some (.int y2), some (.int y3)] [] := by
    intro n
    induction n with
    | zero => intro y2 y3 hqq hz; exact (tvIter_0 hz).elim
    | succ n ih =>
      intro y2 y3 hqq hz
      have hs : tvIter (s_X9_worth M x1) n (sb_X9_worth M x1 y2 y3) = some r := by have h9 := tvIter_go hz; exact h9
      have hqn : tvQ (s_X9_worth M x1) (qs_X9_worth M x1) n (sb_X9_worth M x1 y2 y3) := by have h9 := (tvQ_go hqq).2; exact h9
      have hq : qb_X9_worth M x1 y2 y3 := by have h9 := (tvQ_go hqq).1; exact h9
      refine tv_iload_n C dk_X9_worth_4 rfl ?_
      refine tv_aload_n C dk_X9_worth_5 rfl ?_
      refine tv_iload_n C dk_X9_worth_6 rfl ?_
      refine tv_bipush (v := 7) C dk_X9_worth_7 (by decide) ?_
      have q1 := hq.2
      refine tv_cV1 C dk_X9_worth_9 ml_RX9_55 yk_X9_of yi_X9_of (m_X9_of _ M x1 7 hq.1) (Nat.le_of_ble_eq_true rfl) rfl rfl rfl rfl (Nat.le_of_ble_eq_true rfl) (Nat.le_of_ble_eq_true rfl) (Nat.le_of_ble_eq_true rfl) (Nat.le_of_ble_eq_true rfl) (Nat.le_of_ble_eq_true rfl) ?_
      refine tv_icmp_ge C dk_X9_worth_12 (fun h101 => ?_) (fun h101 => ?_)
      · have q2 := q1.1 h101
        refine tv_iload_n C dk_X9_worth_33 rfl ?_
        exact tv_iret C hQ dk_X9_worth_34 rfl (by rw [sb_X9_worth, if_pos h101] at hs; rw [← tvIter_out hs]) rfl
      have q3 := q1.2 h101
      refine tv_iload_n C dk_X9_worth_15 rfl ?_
      refine tv_aload_n C dk_X9_worth_16 rfl ?_
      refine tv_iload_n C dk_X9_worth_17 rfl ?_
      refine tv_bipush (v := 8) C dk_X9_worth_18 (by decide) ?_
      refine tv_iload_n C dk_X9_worth_20 rfl ?_
      refine tv_iadd C dk_X9_worth_21 ?_
      have q4 := q3.2
      refine tv_cV1 C dk_X9_worth_22 ml_RX9_55 yk_X9_of yi_X9_of (m_X9_of _ M x1 (8 + y3) q3.1) (Nat.le_of_ble_eq_true rfl) rfl rfl rfl rfl (Nat.le_of_ble_eq_true rfl) (Nat.le_of_ble_eq_true rfl) (Nat.le_of_ble_eq_true rfl) (Nat.le_of_ble_eq_true rfl) (Nat.le_of_ble_eq_true rfl) ?_
      refine tv_iadd C dk_X9_worth_25 ?_
      refine tv_istore_n (L' := [_, _, _, _]) (hn := by decide) (hlt := (Nat.le_of_ble_eq_true rfl)) (hno := rfl) C dk_X9_worth_26 rfl ?_
      refine tv_iinc (v := (y3 + 1)) (L' := [_, _, _, _]) (hn := by decide) (hlt := (Nat.le_of_ble_eq_true rfl)) (hno := rfl) C dk_X9_worth_27 rfl rfl rfl ?_
      refine tv_goto C dk_X9_worth_30 ?_
      exact (ih (y2 + (f_X9_of M x1 (8 + y3))) (y3 + 1) (by rw [sb_X9_worth, if_neg h101] at hqn; exact hqn) (by rw [sb_X9_worth, if_neg h101] at hs; exact hs))
  refine tv_iconst (v := 0) C dk_X9_worth_0 (by decide) ?_
  refine tv_istore_n (L' := [_, _, _, _]) (hn := by decide) (hlt := (Nat.le_of_ble_eq_true rfl)) (hno := rfl) C dk_X9_worth_1 rfl ?_
  refine tv_iconst (v := 0) C dk_X9_worth_2 (by decide) ?_
  refine tv_istore_n (L' := [_, _, _, _]) (hn := by decide) (hlt := (Nat.le_of_ble_eq_true rfl)) (hno := rfl) C dk_X9_worth_3 rfl ?_
  exact (K n 0 0 (by rw [e_X9_worth] at hqn; exact hqn) (by rw [e_X9_worth] at hs; exact hs))
def f_X9_worth (M : tvM) (x1 : Int32) : Int32 := (tvIter (s_X9_worth M x1) 5000 (e_X9_worth M x1)).getD 0
def q_X9_worth (M : tvM) (x1 : Int32) : Prop := qe_X9_worth M x1 ∧ (∃ r, tvIter (s_X9_worth M x1) 5000 (e_X9_worth M x1) = some r) ∧ tvQ (s_X9_worth M x1) (qs_X9_worth M x1) 5000 (e_X9_worth M x1)
theorem n_X9_worth (G : tvG) (M : tvM) (x1 : Int32) (hq : q_X9_worth M x1) : tvRun G yX9_worth cX9_worth 4 (some .int) 2 0 0 tvP0 tvP0 [.ref (G.2.1 + 249), .int x1] M (.inl (some (.int (f_X9_worth M x1)))) M := by
  obtain ⟨h1, ⟨r, h2⟩, h3⟩ := hq
  have h4 : f_X9_worth M x1 = r := by show (tvIter _ _ _).getD _ = _; rw [h2]; rfl
  rw [h4]
  exact m_X9_worth G M x1 _ r h2 h1 h3
/-- TideVaultModel.boxByValue(I)I -/
def sb_X9_boxByValue (x1 : Int32) (j : Nat) (y2 : Int32) (y3 : Int32) (y4 : Int32) (y5 : Int32) (M : tvM) : (Nat × Int32 × Int32 × Int32 × Int32 × tvM) ⊕ (Int32 × tvM) := (if j = 0 then (if (tgi M 250 10) ≤ y2 then .inr (0, (tpi M 249 5 1)) else .inl (1, y2, 0, 0, 0, M)) else (if (tgi M 250 10) ≤ y4 then (if y3 = x1 then .inr (y2, (tpi M 249 5 0)) else .inl (0, (y2 + 1), 0, 0, 0, M)) else (if 0 < ((f_X9_worth M y4) - (f_X9_worth M y2)) then .inl (1, y2, (y3 + 1), (y4 + 1), 0, M) else (if ((f_X9_worth M y4) - (f_X9_worth M y2)) = 0 then (if y2 ≤ y4 then .inl (1, y2, (y3 + 0), (y4 + 1), 0, M) else .inl (1, y2, (y3 + 1), (y4 + 1), 0, M)) else .inl (1, y2, (y3 + 0), (y4 + 1), 0, M)))))
def s_X9_boxByValue (x1 : Int32) : (Nat × Int32 × Int32 × Int32 × Int32 × tvM) → (Nat × Int32 × Int32 × Int32 × Int32 × tvM) ⊕ (Int32 × tvM) := fun q => sb_X9_boxByValue x1 q.1 q.2.1 q.2.2.1 q.2.2.2.1 q.2.2.2.2.1 q.2.2.2.2.2
def e_X9_boxByValue (M : tvM) (x1 : Int32) : (Nat × Int32 × Int32 × Int32 × Int32 × tvM) ⊕ (Int32 × tvM) := .inl (0, 0, 0, 0, 0, M)
def qb_X9_boxByValue (x1 : Int32) (j : Nat) (y2 : Int32) (y3 : Int32) (y4 : Int32) (y5 : Int32) (M : tvM) : Prop := (j = 0 → (((tgi M 250 10) ≤ y2 → True) ∧ (¬ (tgi M 250 10) ≤ y2 → True))) ∧ (j = 1 → (((tgi M 250 10) ≤ y4 → ((y3 = x1 → True) ∧ (¬ y3 = x1 → True))) ∧ (¬ (tgi M 250 10) ≤ y4 → ((q_X9_worth M y4) ∧ ((q_X9_worth M y2) ∧ ((0 < ((f_X9_worth M y4) - (f_X9_worth M y2)) → True) ∧ (¬ 0 < ((f_X9_worth M y4) - (f_X9_worth M y2)) → ((((f_X9_worth M y4) - (f_X9_worth M y2)) = 0 → ((y2 ≤ y4 → True) ∧ (¬ y2 ≤ y4 → True))) ∧ (¬ ((f_X9_worth M y4) - (f_X9_worth M y2)) = 0 → True)))))))))
def qs_X9_boxByValue (x1 : Int32) : (Nat × Int32 × Int32 × Int32 × Int32 × tvM) → Prop := fun q => qb_X9_boxByValue x1 q.1 q.2.1 q.2.2.1 q.2.2.2.1 q.2.2.2.2.1 q.2.2.2.2.2
def qe_X9_boxByValue (M : tvM) (x1 : Int32) : Prop := True
theorem m_X9_boxByValue (G : tvG) (M : tvM) (x1 : Int32) (n : Nat) (r : (Int32 × tvM)) (hs : tvIter (s_X9_boxByValue x1) n (e_X9_boxByValue M x1) = some r) (hq : qe_X9_boxByValue M x1) (hqn : tvQ (s_X9_boxByValue x1) (qs_X9_boxByValue x1) n (e_X9_boxByValue M x1)) : tvRun G yX9_boxByValue cX9_boxByValue 6 (some .int) 3 0 0 tvP0 tvP0 [.ref (G.2.1 + 249), .int x1] M (.inl (some (.int r.1))) r.2 := by
  refine tvRun.of yk_X9_boxByValue rfl [some (.ref (G.2.1 + 249)), some (.int x1), none, none, none, none] rfl (Nat.le_of_ble_eq_true rfl) ?_
  intro E hG C hQ; subst hG
  have K : ∀ (n : Nat) (j : Nat) (y2 : Int32) (y3 : Int32) (y4 : Int32) (y5 : Int32) (M : tvM), tvQ (s_X9_boxByValue x1) (qs_X9_boxByValue x1) n (.inl (j, y2, y3, y4, y5, M)) → tvIter (s_X9_boxByValue x1) n (.inl (j, y2, y3, y4, y5, M)) = some r → (j = 0 → tv_W E tvP0 0 0 M 2 [some (.ref (E.G.2.1 + 249)), some (.int x1), some (.int y2), none, none, none] []) ∧ (j = 1 → tv_W E tvP0 0 0 M 18 [some (.ref (E.G.2.1 + 249)), some (.int x1), some (.int y2), some (.int y3), some (.int y4), none] []) := by
    intro n
    induction n with
    | zero => intro j y2 y3 y4 y5 M hqq hz; exact (tvIter_0 hz).elim
    | succ n ih =>
      intro j y2 y3 y4 y5 M hqq hz
      refine ⟨fun hj => ?_, fun hj => ?_⟩
      · have hj : j = 0 := hj; subst hj
        have hs : tvIter (s_X9_boxByValue x1) n (sb_X9_boxByValue x1 (0 : Nat) y2 y3 y4 y5 M) = some r := by have h9 := tvIter_go hz; exact h9
        have hqn : tvQ (s_X9_boxByValue x1) (qs_X9_boxByValue x1) n (sb_X9_boxByValue x1 (0 : Nat) y2 y3 y4 y5 M) := by have h9 := (tvQ_go hqq).2; exact h9
        have hq : qb_X9_boxByValue x1 (0 : Nat) y2 y3 y4 y5 M := by have h9 := (tvQ_go hqq).1; exact h9
        have hq := hq.1 rfl
        refine tv_iload_n C dk_X9_boxByValue_2 rfl ?_
        refine tv_aload_n C dk_X9_boxByValue_3 rfl ?_
        refine tv_getR (r := 250) C dk_X9_boxByValue_4 fl_RX9_9 (Nat.le_of_ble_eq_true rfl) rfl rfl (fun _ _ _ _ => rfl) ?_
        refine tv_bipush (v := 10) C dk_X9_boxByValue_7 (by decide) ?_
        refine tv_iald (j := 10) rfl C dk_X9_boxByValue_9 (Nat.le_of_ble_eq_true rfl) rfl (vp_in_nI (n := 10) (by decide) (by decide)) ?_
        refine tv_icmp_ge C dk_X9_boxByValue_10 (fun h101 => ?_) (fun h101 => ?_)
        · have q1 := hq.1 h101
          refine tv_aload_n C dk_X9_boxByValue_92 rfl ?_
          refine tv_iconst (v := 1) C dk_X9_boxByValue_93 (by decide) ?_
          refine tv_putI C tvP0_ex dk_X9_boxByValue_94 fl_RX9_38 fw_9_5 (Nat.le_of_ble_eq_true rfl) rfl rfl (fun _ _ _ _ _ => rfl) rfl rfl ?_
          refine tv_iconst (v := 0) C dk_X9_boxByValue_97 (by decide) ?_
          exact tv_iret C hQ dk_X9_boxByValue_98 rfl (by rw [sb_X9_boxByValue, if_pos rfl, if_pos h101] at hs; rw [← tvIter_out hs]) (by rw [sb_X9_boxByValue, if_pos rfl, if_pos h101] at hs; rw [← tvIter_out hs])
        have q2 := hq.2 h101
        refine tv_iconst (v := 0) C dk_X9_boxByValue_13 (by decide) ?_
        refine tv_istore_n (L' := [_, _, _, _, _, _]) (hn := by decide) (hlt := (Nat.le_of_ble_eq_true rfl)) (hno := rfl) C dk_X9_boxByValue_14 rfl ?_
        refine tv_iconst (v := 0) C dk_X9_boxByValue_15 (by decide) ?_
        refine tv_istore (L' := [_, _, _, _, _, _]) (hn := by decide) (hlt := (Nat.le_of_ble_eq_true rfl)) (hno := rfl) C dk_X9_boxByValue_16 rfl ?_
        exact (ih 1 y2 0 0 0 M (by rw [sb_X9_boxByValue, if_pos rfl, if_neg h101] at hqn; exact hqn) (by rw [sb_X9_boxByValue, if_pos rfl, if_neg h101] at hs; exact hs)).2 rfl
      · have hj : j = 1 := hj; subst hj
        have hs : tvIter (s_X9_boxByValue x1) n (sb_X9_boxByValue x1 (1 : Nat) y2 y3 y4 y5 M) = some r := by have h9 := tvIter_go hz; exact h9
        have hqn : tvQ (s_X9_boxByValue x1) (qs_X9_boxByValue x1) n (sb_X9_boxByValue x1 (1 : Nat) y2 y3 y4 y5 M) := by have h9 := (tvQ_go hqq).2; exact h9
        have hq : qb_X9_boxByValue x1 (1 : Nat) y2 y3 y4 y5 M := by have h9 := (tvQ_go hqq).1; exact h9
        have hq := hq.2 rfl
        refine tv_iload C dk_X9_boxByValue_18 rfl ?_
        refine tv_aload_n C dk_X9_boxByValue_20 rfl ?_
        refine tv_getR (r := 250) C dk_X9_boxByValue_21 fl_RX9_9 (Nat.le_of_ble_eq_true rfl) rfl rfl (fun _ _ _ _ => rfl) ?_
        refine tv_bipush (v := 10) C dk_X9_boxByValue_24 (by decide) ?_
        refine tv_iald (j := 10) rfl C dk_X9_boxByValue_26 (Nat.le_of_ble_eq_true rfl) rfl (vp_in_nI (n := 10) (by decide) (by decide)) ?_
        refine tv_icmp_ge C dk_X9_boxByValue_27 (fun h201 => ?_) (fun h201 => ?_)
        · have q1 := hq.1 h201
          refine tv_iload_n C dk_X9_boxByValue_74 rfl ?_
          refine tv_iload_n C dk_X9_boxByValue_75 rfl ?_
          refine tv_icmp_ne C dk_X9_boxByValue_76 (fun h202 => ?_) (fun h202 => ?_)
          · have q2 := q1.2 h202
            refine tv_iinc (v := (y2 + 1)) (L' := [_, _, _, _, _, _]) (hn := by decide) (hlt := (Nat.le_of_ble_eq_true rfl)) (hno := rfl) C dk_X9_boxByValue_86 rfl rfl rfl ?_
            refine tv_goto C dk_X9_boxByValue_89 ?_
            refine tv_drop (L2 := [some (.ref (E.G.2.1 + 249)), some (.int x1), some (.int (y2 + 1)), none, none, none]) (by simp [tvSubL]) ?_
            exact (ih 0 (y2 + 1) 0 0 0 M (by rw [sb_X9_boxByValue, if_neg (by decide), if_pos h201, if_neg h202] at hqn; exact hqn) (by rw [sb_X9_boxByValue, if_neg (by decide), if_pos h201, if_neg h202] at hs; exact hs)).1 rfl
          have q3 := q1.1 h202
          refine tv_aload_n C dk_X9_boxByValue_79 rfl ?_
          refine tv_iconst (v := 0) C dk_X9_boxByValue_80 (by decide) ?_
          refine tv_putI C tvP0_ex dk_X9_boxByValue_81 fl_RX9_38 fw_9_5 (Nat.le_of_ble_eq_true rfl) rfl rfl (fun _ _ _ _ _ => rfl) rfl rfl ?_
          refine tv_iload_n C dk_X9_boxByValue_84 rfl ?_
          exact tv_iret C hQ dk_X9_boxByValue_85 rfl (by rw [sb_X9_boxByValue, if_neg (by decide), if_pos h201, if_pos h202] at hs; rw [← tvIter_out hs]) (by rw [sb_X9_boxByValue, if_neg (by decide), if_pos h201, if_pos h202] at hs; rw [← tvIter_out hs])
        have q4 := hq.2 h201
        refine tv_aload_n C dk_X9_boxByValue_30 rfl ?_
        refine tv_iload C dk_X9_boxByValue_31 rfl ?_
        have q5 := q4.2
        refine tv_cV1 C dk_X9_boxByValue_33 ml_RX9_174 yk_X9_worth yi_X9_worth (n_X9_worth _ M y4 q4.1) (Nat.le_of_ble_eq_true rfl) rfl rfl rfl rfl (Nat.le_of_ble_eq_true rfl) (Nat.le_of_ble_eq_true rfl) (Nat.le_of_ble_eq_true rfl) (Nat.le_of_ble_eq_true rfl) (Nat.le_of_ble_eq_true rfl) ?_
        refine tv_aload_n C dk_X9_boxByValue_36 rfl ?_
        refine tv_iload_n C dk_X9_boxByValue_37 rfl ?_
        have q6 := q5.2
        refine tv_cV1 C dk_X9_boxByValue_38 ml_RX9_174 yk_X9_worth yi_X9_worth (n_X9_worth _ M y2 q5.1) (Nat.le_of_ble_eq_true rfl) rfl rfl rfl rfl (Nat.le_of_ble_eq_true rfl) (Nat.le_of_ble_eq_true rfl) (Nat.le_of_ble_eq_true rfl) (Nat.le_of_ble_eq_true rfl) (Nat.le_of_ble_eq_true rfl) ?_
        refine tv_isub C dk_X9_boxByValue_41 ?_
        refine tv_istore (L' := [_, _, _, _, _, _]) (hn := by decide) (hlt := (Nat.le_of_ble_eq_true rfl)) (hno := rfl) C dk_X9_boxByValue_42 rfl ?_
        refine tv_iload_n C dk_X9_boxByValue_44 rfl ?_
        refine tv_iload C dk_X9_boxByValue_45 rfl ?_
        refine tv_if_gt C dk_X9_boxByValue_47 (fun h203 => ?_) (fun h203 => ?_)
        · have q7 := q6.1 h203
          refine tv_iconst (v := 1) C dk_X9_boxByValue_61 (by decide) ?_
          refine tv_goto C dk_X9_boxByValue_62 ?_
          refine tv_iadd C dk_X9_boxByValue_66 ?_
          refine tv_istore_n (L' := [_, _, _, _, _, _]) (hn := by decide) (hlt := (Nat.le_of_ble_eq_true rfl)) (hno := rfl) C dk_X9_boxByValue_67 rfl ?_
          refine tv_iinc (v := (y4 + 1)) (L' := [_, _, _, _, _, _]) (hn := by decide) (hlt := (Nat.le_of_ble_eq_true rfl)) (hno := rfl) C dk_X9_boxByValue_68 rfl rfl rfl ?_
          refine tv_goto C dk_X9_boxByValue_71 ?_
          refine tv_drop (L2 := [some (.ref (E.G.2.1 + 249)), some (.int x1), some (.int y2), some (.int (y3 + 1)), some (.int (y4 + 1)), none]) (by simp [tvSubL]) ?_
          exact (ih 1 y2 (y3 + 1) (y4 + 1) 0 M (by rw [sb_X9_boxByValue, if_neg (by decide), if_neg h201, if_pos h203] at hqn; exact hqn) (by rw [sb_X9_boxByValue, if_neg (by decide), if_neg h201, if_pos h203] at hs; exact hs)).2 rfl
        have q8 := q6.2 h203
        refine tv_iload C dk_X9_boxByValue_50 rfl ?_
        refine tv_if_ne C dk_X9_boxByValue_52 (fun h204 => ?_) (fun h204 => ?_)
        · have q9 := q8.2 h204
          refine tv_iconst (v := 0) C dk_X9_boxByValue_65 (by decide) ?_
          refine tv_iadd C dk_X9_boxByValue_66 ?_
          refine tv_istore_n (L' := [_, _, _, _, _, _]) (hn := by decide) (hlt := (Nat.le_of_ble_eq_true rfl)) (hno := rfl) C dk_X9_boxByValue_67 rfl ?_
          refine tv_iinc (v := (y4 + 1)) (L' := [_, _, _, _, _, _]) (hn := by decide) (hlt := (Nat.le_of_ble_eq_true rfl)) (hno := rfl) C dk_X9_boxByValue_68 rfl rfl rfl ?_
          refine tv_goto C dk_X9_boxByValue_71 ?_
          refine tv_drop (L2 := [some (.ref (E.G.2.1 + 249)), some (.int x1), some (.int y2), some (.int (y3 + 0)), some (.int (y4 + 1)), none]) (by simp [tvSubL]) ?_
          exact (ih 1 y2 (y3 + 0) (y4 + 1) 0 M (by rw [sb_X9_boxByValue, if_neg (by decide), if_neg h201, if_neg h203, if_neg h204] at hqn; exact hqn) (by rw [sb_X9_boxByValue, if_neg (by decide), if_neg h201, if_neg h203, if_neg h204] at hs; exact hs)).2 rfl
        have q10 := q8.1 h204
        refine tv_iload C dk_X9_boxByValue_55 rfl ?_
        refine tv_iload_n C dk_X9_boxByValue_57 rfl ?_
        refine tv_icmp_ge C dk_X9_boxByValue_58 (fun h205 => ?_) (fun h205 => ?_)
        · have q11 := q10.1 h205
          refine tv_iconst (v := 0) C dk_X9_boxByValue_65 (by decide) ?_
          refine tv_iadd C dk_X9_boxByValue_66 ?_
          refine tv_istore_n (L' := [_, _, _, _, _, _]) (hn := by decide) (hlt := (Nat.le_of_ble_eq_true rfl)) (hno := rfl) C dk_X9_boxByValue_67 rfl ?_
          refine tv_iinc (v := (y4 + 1)) (L' := [_, _, _, _, _, _]) (hn := by decide) (hlt := (Nat.le_of_ble_eq_true rfl)) (hno := rfl) C dk_X9_boxByValue_68 rfl rfl rfl ?_
          refine tv_goto C dk_X9_boxByValue_71 ?_
          refine tv_drop (L2 := [some (.ref (E.G.2.1 + 249)), some (.int x1), some (.int y2), some (.int (y3 + 0)), some (.int (y4 + 1)), none]) (by simp [tvSubL]) ?_
          exact (ih 1 y2 (y3 + 0) (y4 + 1) 0 M (by rw [sb_X9_boxByValue, if_neg (by decide), if_neg h201, if_neg h203, if_pos h204, if_pos h205] at hqn; exact hqn) (by rw [sb_X9_boxByValue, if_neg (by decide), if_neg h201, if_neg h203, if_pos h204, if_pos h205] at hs; exact hs)).2 rfl
        have q12 := q10.2 h205
        refine tv_iconst (v := 1) C dk_X9_boxByValue_61 (by decide) ?_
        refine tv_goto C dk_X9_boxByValue_62 ?_
        refine tv_iadd C dk_X9_boxByValue_66 ?_
        refine tv_istore_n (L' := [_, _, _, _, _, _]) (hn := by decide) (hlt := (Nat.le_of_ble_eq_true rfl)) (hno := rfl) C dk_X9_boxByValue_67 rfl ?_
        refine tv_iinc (v := (y4 + 1)) (L' := [_, _, _, _, _, _]) (hn := by decide) (hlt := (Nat.le_of_ble_eq_true rfl)) (hno := rfl) C dk_X9_boxByValue_68 rfl rfl rfl ?_
        refine tv_goto C dk_X9_boxByValue_71 ?_
        refine tv_drop (L2 := [some (.ref (E.G.2.1 + 249)), some (.int x1), some (.int y2), some (.int (y3 + 1)), some (.int (y4 + 1)), none]) (by simp [tvSubL]) ?_
        exact (ih 1 y2 (y3 + 1) (y4 + 1) 0 M (by rw [sb_X9_boxByValue, if_neg (by decide), if_neg h201, if_neg h203, if_pos h204, if_neg h205] at hqn; exact hqn) (by rw [sb_X9_boxByValue, if_neg (by decide), if_neg h201, if_neg h203, if_pos h204, if_neg h205] at hs; exact hs)).2 rfl
  refine tv_iconst (v := 0) C dk_X9_boxByValue_0 (by decide) ?_
  refine tv_istore_n (L' := [_, _, _, _, _, _]) (hn := by decide) (hlt := (Nat.le_of_ble_eq_true rfl)) (hno := rfl) C dk_X9_boxByValue_1 rfl ?_
  exact (K n 0 0 0 0 0 M (by rw [e_X9_boxByValue] at hqn; exact hqn) (by rw [e_X9_boxByValue] at hs; exact hs)).1 rfl
def f_X9_boxByValue (M : tvM) (x1 : Int32) : (Int32 × tvM) := (tvIter (s_X9_boxByValue x1) 5000 (e_X9_boxByValue M x1)).getD (0, M)
def q_X9_boxByValue (M : tvM) (x1 : Int32) : Prop := qe_X9_boxByValue M x1 ∧ (∃ r, tvIter (s_X9_boxByValue x1) 5000 (e_X9_boxByValue M x1) = some r) ∧ tvQ (s_X9_boxByValue x1) (qs_X9_boxByValue x1) 5000 (e_X9_boxByValue M x1)
theorem n_X9_boxByValue (G : tvG) (M : tvM) (x1 : Int32) (hq : q_X9_boxByValue M x1) : tvRun G yX9_boxByValue cX9_boxByValue 6 (some .int) 3 0 0 tvP0 tvP0 [.ref (G.2.1 + 249), .int x1] M (.inl (some (.int (f_X9_boxByValue M x1).1))) ((f_X9_boxByValue M x1).2) := by
  obtain ⟨h1, ⟨r, h2⟩, h3⟩ := hq
  have h4 : f_X9_boxByValue M x1 = r := by show (tvIter _ _ _).getD _ = _; rw [h2]; rfl
  rw [h4]
  exact m_X9_boxByValue G M x1 _ r h2 h1 h3
/-- TideVaultModel.totalValue()J -/
def sb_X9_totalValue (y1 : Int64) (y3 : Int32) (M : tvM) : (Int64 × Int32 × tvM) ⊕ (Int64 × tvM) := (if (tgi M 250 10) ≤ y3 then .inr (y1, M) else .inl ((y1 + ((f_X9_worth M y3).toInt64)), (y3 + 1), M))
def s_X9_totalValue : (Int64 × Int32 × tvM) → (Int64 × Int32 × tvM) ⊕ (Int64 × tvM) := fun q => sb_X9_totalValue q.1 q.2.1 q.2.2
def e_X9_totalValue (M : tvM) : (Int64 × Int32 × tvM) ⊕ (Int64 × tvM) := .inl (0, 0, (tpi M 249 5 0))
def qb_X9_totalValue (y1 : Int64) (y3 : Int32) (M : tvM) : Prop := (((tgi M 250 10) ≤ y3 → True) ∧ (¬ (tgi M 250 10) ≤ y3 → ((q_X9_worth M y3) ∧ True)))
def qs_X9_totalValue : (Int64 × Int32 × tvM) → Prop := fun q => qb_X9_totalValue q.1 q.2.1 q.2.2
def qe_X9_totalValue (M : tvM) : Prop := True
theorem m_X9_totalValue (G : tvG) (M : tvM) (n : Nat) (r : (Int64 × tvM)) (hs : tvIter (s_X9_totalValue) n (e_X9_totalValue M) = some r) (hq : qe_X9_totalValue M) (hqn : tvQ (s_X9_totalValue) (qs_X9_totalValue) n (e_X9_totalValue M)) : tvRun G yX9_totalValue cX9_totalValue 4 (some .long) 3 0 0 tvP0 tvP0 [.ref (G.2.1 + 249)] M (.inl (some (.long r.1))) r.2 := by
  refine tvRun.of yk_X9_totalValue rfl [some (.ref (G.2.1 + 249)), none, none, none] rfl (Nat.le_of_ble_eq_true rfl) ?_
  intro E hG C hQ; subst hG
  have K : ∀ (n : Nat) (y1 : Int64) (y3 : Int32) (M : tvM), tvQ (s_X9_totalValue) (qs_X9_totalValue) n (.inl (y1, y3, M)) → tvIter (s_X9_totalValue) n (.inl (y1, y3, M)) = some r → tv_W E tvP0 0 0 M 9 [some (.ref (E.G.2.1 + 249)), some (.long y1), none, some (.int y3)] [] := by
    intro n
    induction n with
    | zero => intro y1 y3 M hqq hz; exact (tvIter_0 hz).elim
    | succ n ih =>
      intro y1 y3 M hqq hz
      have hs : tvIter (s_X9_totalValue) n (sb_X9_totalValue y1 y3 M) = some r := by have h9 := tvIter_go hz; exact h9
      have hqn : tvQ (s_X9_totalValue) (qs_X9_totalValue) n (sb_X9_totalValue y1 y3 M) := by have h9 := (tvQ_go hqq).2; exact h9
      have hq : qb_X9_totalValue y1 y3 M := by have h9 := (tvQ_go hqq).1; exact h9
      refine tv_iload_n C dk_X9_totalValue_9 rfl ?_
      refine tv_aload_n C dk_X9_totalValue_10 rfl ?_
      refine tv_getR (r := 250) C dk_X9_totalValue_11 fl_RX9_9 (Nat.le_of_ble_eq_true rfl) rfl rfl (fun _ _ _ _ => rfl) ?_
      refine tv_bipush (v := 10) C dk_X9_totalValue_14 (by decide) ?_
      refine tv_iald (j := 10) rfl C dk_X9_totalValue_16 (Nat.le_of_ble_eq_true rfl) rfl (vp_in_nI (n := 10) (by decide) (by decide)) ?_
      refine tv_icmp_ge C dk_X9_totalValue_17 (fun h101 => ?_) (fun h101 => ?_)
      · have q1 := hq.1 h101
        refine tv_lload_n C dk_X9_totalValue_35 rfl ?_
        exact tv_lret C hQ dk_X9_totalValue_36 (by rw [sb_X9_totalValue, if_pos h101] at hs; rw [← tvIter_out hs]) (by rw [sb_X9_totalValue, if_pos h101] at hs; rw [← tvIter_out hs])
      have q2 := hq.2 h101
      refine tv_lload_n C dk_X9_totalValue_20 rfl ?_
      refine tv_aload_n C dk_X9_totalValue_21 rfl ?_
      refine tv_iload_n C dk_X9_totalValue_22 rfl ?_
      have q3 := q2.2
      refine tv_cV1 C dk_X9_totalValue_23 ml_RX9_174 yk_X9_worth yi_X9_worth (n_X9_worth _ M y3 q2.1) (Nat.le_of_ble_eq_true rfl) rfl rfl rfl rfl (Nat.le_of_ble_eq_true rfl) (Nat.le_of_ble_eq_true rfl) (Nat.le_of_ble_eq_true rfl) (Nat.le_of_ble_eq_true rfl) (Nat.le_of_ble_eq_true rfl) ?_
      refine tv_i2l C dk_X9_totalValue_26 ?_
      refine tv_ladd C dk_X9_totalValue_27 ?_
      refine tv_lstore_n (L' := [_, _, _, _]) (hn := by decide) (hlt := (Nat.le_of_ble_eq_true rfl)) (hno := rfl) C dk_X9_totalValue_28 rfl ?_
      refine tv_iinc (v := (y3 + 1)) (L' := [_, _, _, _]) (hn := by decide) (hlt := (Nat.le_of_ble_eq_true rfl)) (hno := rfl) C dk_X9_totalValue_29 rfl rfl rfl ?_
      refine tv_goto C dk_X9_totalValue_32 ?_
      exact (ih (y1 + ((f_X9_worth M y3).toInt64)) (y3 + 1) M (by rw [sb_X9_totalValue, if_neg h101] at hqn; exact hqn) (by rw [sb_X9_totalValue, if_neg h101] at hs; exact hs))
  refine tv_aload_n C dk_X9_totalValue_0 rfl ?_
  refine tv_iconst (v := 0) C dk_X9_totalValue_1 (by decide) ?_
  refine tv_putI C tvP0_ex dk_X9_totalValue_2 fl_RX9_38 fw_9_5 (Nat.le_of_ble_eq_true rfl) rfl rfl (fun _ _ _ _ _ => rfl) rfl rfl ?_
  refine tv_lconst (v := 0) C dk_X9_totalValue_5 (by decide) ?_
  refine tv_lstore_n (L' := [_, _, _, _]) (hn := by decide) (hlt := (Nat.le_of_ble_eq_true rfl)) (hno := rfl) C dk_X9_totalValue_6 rfl ?_
  refine tv_iconst (v := 0) C dk_X9_totalValue_7 (by decide) ?_
  refine tv_istore_n (L' := [_, _, _, _]) (hn := by decide) (hlt := (Nat.le_of_ble_eq_true rfl)) (hno := rfl) C dk_X9_totalValue_8 rfl ?_
  exact (K n 0 0 (tpi M 249 5 0) (by rw [e_X9_totalValue] at hqn; exact hqn) (by rw [e_X9_totalValue] at hs; exact hs))
def f_X9_totalValue (M : tvM) : (Int64 × tvM) := (tvIter (s_X9_totalValue) 5000 (e_X9_totalValue M)).getD (0, M)
def q_X9_totalValue (M : tvM) : Prop := qe_X9_totalValue M ∧ (∃ r, tvIter (s_X9_totalValue) 5000 (e_X9_totalValue M) = some r) ∧ tvQ (s_X9_totalValue) (qs_X9_totalValue) 5000 (e_X9_totalValue M)
theorem n_X9_totalValue (G : tvG) (M : tvM) (hq : q_X9_totalValue M) : tvRun G yX9_totalValue cX9_totalValue 4 (some .long) 3 0 0 tvP0 tvP0 [.ref (G.2.1 + 249)] M (.inl (some (.long (f_X9_totalValue M).1))) ((f_X9_totalValue M).2) := by
  obtain ⟨h1, ⟨r, h2⟩, h3⟩ := hq
  have h4 : f_X9_totalValue M = r := by show (tvIter _ _ _).getD _ = _; rw [h2]; rfl
  rw [h4]
  exact m_X9_totalValue G M _ r h2 h1 h3
