/-- TideVaultModel.remembers()V -/
def sb_X9_remembers (y1 : Int32) (M : tvM) : (Int32 × tvM) ⊕ tvM := (if 8 ≤ y1 then .inr (tpi (f_X9_copies (tpi M 249 4 ((tgi M 249 4) - 1)) 251 0 253 (202 * (tgi (tpi M 249 4 ((tgi M 249 4) - 1)) 249 4))) 249 4 ((tgi (f_X9_copies (tpi M 249 4 ((tgi M 249 4) - 1)) 251 0 253 (202 * (tgi (tpi M 249 4 ((tgi M 249 4) - 1)) 249 4))) 249 4) + 1)) else .inl ((y1 + 1), (f_X9_copies M 253 (202 * y1) 253 (202 * (y1 - 1)))))
def s_X9_remembers : (Int32 × tvM) → (Int32 × tvM) ⊕ tvM := fun q => sb_X9_remembers q.1 q.2
def e_X9_remembers (M : tvM) : (Int32 × tvM) ⊕ tvM := (if (tgi M 249 4) = 8 then .inl (1, M) else .inr (tpi (f_X9_copies M 251 0 253 (202 * (tgi M 249 4))) 249 4 ((tgi (f_X9_copies M 251 0 253 (202 * (tgi M 249 4))) 249 4) + 1)))
def qb_X9_remembers (y1 : Int32) (M : tvM) : Prop := ((8 ≤ y1 → (q_X9_copies 202 1616 0 (202 * (tgi (tpi M 249 4 ((tgi M 249 4) - 1)) 249 4)) ∧ True)) ∧ (¬ 8 ≤ y1 → (q_X9_copies 1616 1616 (202 * y1) (202 * (y1 - 1)) ∧ True)))
def qs_X9_remembers : (Int32 × tvM) → Prop := fun q => qb_X9_remembers q.1 q.2
def qe_X9_remembers (M : tvM) : Prop := (((tgi M 249 4) = 8 → True) ∧ (¬ (tgi M 249 4) = 8 → (q_X9_copies 202 1616 0 (202 * (tgi M 249 4)) ∧ True)))
theorem m_X9_remembers (G : tvG) (M : tvM) (n : Nat) (r : tvM) (hs : tvIter (s_X9_remembers) n (e_X9_remembers M) = some r) (hq : qe_X9_remembers M) (hqn : tvQ (s_X9_remembers) (qs_X9_remembers) n (e_X9_remembers M)) : tvRun G yX9_remembers cX9_remembers 2 none 2 0 0 tvP0 tvP0 [.ref (G.2.1 + 249)] M (.inl none) r := by
  refine tvRun.of yk_X9_remembers rfl [some (.ref (G.2.1 + 249)), none] rfl (Nat.le_of_ble_eq_true rfl) ?_
  intro E hG C hQ; subst hG
  have K : ∀ (n : Nat) (y1 : Int32) (M : tvM), tvQ (s_X9_remembers) (qs_X9_remembers) n (.inl (y1, M)) → tvIter (s_X9_remembers) n (.inl (y1, M)) = some r → tv_W E tvP0 0 0 M 11 [some (.ref (E.G.2.1 + 249)), some (.int y1)] [] := by
    intro n
    induction n with
    | zero => intro y1 M hqq hz; exact (tvIter_0 hz).elim
    | succ n ih =>
      intro y1 M hqq hz
      have hs : tvIter (s_X9_remembers) n (sb_X9_remembers y1 M) = some r := by have h9 := tvIter_go hz; exact h9
      have hqn : tvQ (s_X9_remembers) (qs_X9_remembers) n (sb_X9_remembers y1 M) := by have h9 := (tvQ_go hqq).2; exact h9
      have hq : qb_X9_remembers y1 M := by have h9 := (tvQ_go hqq).1; exact h9
      refine tv_iload_n C dk_X9_remembers_11 rfl ?_
      refine tv_bipush (v := 8) C dk_X9_remembers_12 (by decide) ?_
      refine tv_icmp_ge C dk_X9_remembers_14 (fun h101 => ?_) (fun h101 => ?_)
      · have q1 := hq.1 h101
        refine tv_aload_n C dk_X9_remembers_46 rfl ?_
        refine tv_dup C dk_X9_remembers_47 rfl ?_
        refine tv_getI C dk_X9_remembers_48 fl_RX9_45 (Nat.le_of_ble_eq_true rfl) rfl (fun _ _ _ _ => rfl) ?_
        refine tv_iconst (v := 1) C dk_X9_remembers_51 (by decide) ?_
        refine tv_isub C dk_X9_remembers_52 ?_
        refine tv_putI C tvP0_ex dk_X9_remembers_53 fl_RX9_45 fw_9_4 (Nat.le_of_ble_eq_true rfl) rfl rfl (fun _ _ _ _ _ => rfl) rfl rfl ?_
        refine tv_aload_n C dk_X9_remembers_56 rfl ?_
        refine tv_getR (r := 251) C dk_X9_remembers_57 fl_RX9_13 (Nat.le_of_ble_eq_true rfl) rfl rfl (fun _ _ _ _ => rfl) ?_
        refine tv_iconst (v := 0) C dk_X9_remembers_60 (by decide) ?_
        refine tv_aload_n C dk_X9_remembers_61 rfl ?_
        refine tv_getR (r := 253) C dk_X9_remembers_62 fl_RX9_19 (Nat.le_of_ble_eq_true rfl) rfl rfl (fun _ _ _ _ => rfl) ?_
        refine tv_sipush (v := 202) C dk_X9_remembers_65 (by decide) ?_
        refine tv_aload_n C dk_X9_remembers_68 rfl ?_
        refine tv_getI C dk_X9_remembers_69 fl_RX9_45 (Nat.le_of_ble_eq_true rfl) rfl (fun _ _ _ _ => rfl) ?_
        refine tv_imul C dk_X9_remembers_72 ?_
        have q2 := q1.2
        refine tv_cS0 C dk_X9_remembers_73 ml_RX9_41 yk_X9_copies yi_X9_copies (m_X9_copies _ (tpi M 249 4 ((tgi M 249 4) - 1)) (a0 := 251) (a := 253) (n0 := 202) (n := 1616) (Nat.le_of_ble_eq_true rfl) rfl (Nat.le_of_ble_eq_true rfl) rfl 0 (202 * (tgi (tpi M 249 4 ((tgi M 249 4) - 1)) 249 4)) q1.1) rfl rfl (Nat.le_of_ble_eq_true rfl) (Nat.le_of_ble_eq_true rfl) (Nat.le_of_ble_eq_true rfl) (Nat.le_of_ble_eq_true rfl) (Nat.le_of_ble_eq_true rfl) ?_
        refine tv_aload_n C dk_X9_remembers_76 rfl ?_
        refine tv_dup C dk_X9_remembers_77 rfl ?_
        refine tv_getI C dk_X9_remembers_78 fl_RX9_45 (Nat.le_of_ble_eq_true rfl) rfl (fun _ _ _ _ => rfl) ?_
        refine tv_iconst (v := 1) C dk_X9_remembers_81 (by decide) ?_
        refine tv_iadd C dk_X9_remembers_82 ?_
        refine tv_putI C tvP0_ex dk_X9_remembers_83 fl_RX9_45 fw_9_4 (Nat.le_of_ble_eq_true rfl) rfl rfl (fun _ _ _ _ _ => rfl) rfl rfl ?_
        exact tv_vret C hQ dk_X9_remembers_86 rfl (by rw [sb_X9_remembers, if_pos h101] at hs; rw [← tvIter_out hs])
      have q3 := hq.2 h101
      refine tv_aload_n C dk_X9_remembers_17 rfl ?_
      refine tv_getR (r := 253) C dk_X9_remembers_18 fl_RX9_19 (Nat.le_of_ble_eq_true rfl) rfl rfl (fun _ _ _ _ => rfl) ?_
      refine tv_sipush (v := 202) C dk_X9_remembers_21 (by decide) ?_
      refine tv_iload_n C dk_X9_remembers_24 rfl ?_
      refine tv_imul C dk_X9_remembers_25 ?_
      refine tv_aload_n C dk_X9_remembers_26 rfl ?_
      refine tv_getR (r := 253) C dk_X9_remembers_27 fl_RX9_19 (Nat.le_of_ble_eq_true rfl) rfl rfl (fun _ _ _ _ => rfl) ?_
      refine tv_sipush (v := 202) C dk_X9_remembers_30 (by decide) ?_
      refine tv_iload_n C dk_X9_remembers_33 rfl ?_
      refine tv_iconst (v := 1) C dk_X9_remembers_34 (by decide) ?_
      refine tv_isub C dk_X9_remembers_35 ?_
      refine tv_imul C dk_X9_remembers_36 ?_
      have q4 := q3.2
      refine tv_cS0 C dk_X9_remembers_37 ml_RX9_41 yk_X9_copies yi_X9_copies (m_X9_copies _ M (a0 := 253) (a := 253) (n0 := 1616) (n := 1616) (Nat.le_of_ble_eq_true rfl) rfl (Nat.le_of_ble_eq_true rfl) rfl (202 * y1) (202 * (y1 - 1)) q3.1) rfl rfl (Nat.le_of_ble_eq_true rfl) (Nat.le_of_ble_eq_true rfl) (Nat.le_of_ble_eq_true rfl) (Nat.le_of_ble_eq_true rfl) (Nat.le_of_ble_eq_true rfl) ?_
      refine tv_iinc (v := (y1 + 1)) (L' := [_, _]) (hn := by decide) (hlt := (Nat.le_of_ble_eq_true rfl)) (hno := rfl) C dk_X9_remembers_40 rfl rfl rfl ?_
      refine tv_goto C dk_X9_remembers_43 ?_
      exact (ih (y1 + 1) (f_X9_copies M 253 (202 * y1) 253 (202 * (y1 - 1))) (by rw [sb_X9_remembers, if_neg h101] at hqn; exact hqn) (by rw [sb_X9_remembers, if_neg h101] at hs; exact hs))
  refine tv_aload_n C dk_X9_remembers_0 rfl ?_
  refine tv_getI C dk_X9_remembers_1 fl_RX9_45 (Nat.le_of_ble_eq_true rfl) rfl (fun _ _ _ _ => rfl) ?_
  refine tv_bipush (v := 8) C dk_X9_remembers_4 (by decide) ?_
  refine tv_icmp_ne C dk_X9_remembers_6 (fun h1 => ?_) (fun h1 => ?_)
  · have q1 := hq.2 h1
    refine tv_aload_n C dk_X9_remembers_56 rfl ?_
    refine tv_getR (r := 251) C dk_X9_remembers_57 fl_RX9_13 (Nat.le_of_ble_eq_true rfl) rfl rfl (fun _ _ _ _ => rfl) ?_
    refine tv_iconst (v := 0) C dk_X9_remembers_60 (by decide) ?_
    refine tv_aload_n C dk_X9_remembers_61 rfl ?_
    refine tv_getR (r := 253) C dk_X9_remembers_62 fl_RX9_19 (Nat.le_of_ble_eq_true rfl) rfl rfl (fun _ _ _ _ => rfl) ?_
    refine tv_sipush (v := 202) C dk_X9_remembers_65 (by decide) ?_
    refine tv_aload_n C dk_X9_remembers_68 rfl ?_
    refine tv_getI C dk_X9_remembers_69 fl_RX9_45 (Nat.le_of_ble_eq_true rfl) rfl (fun _ _ _ _ => rfl) ?_
    refine tv_imul C dk_X9_remembers_72 ?_
    have q2 := q1.2
    refine tv_cS0 C dk_X9_remembers_73 ml_RX9_41 yk_X9_copies yi_X9_copies (m_X9_copies _ M (a0 := 251) (a := 253) (n0 := 202) (n := 1616) (Nat.le_of_ble_eq_true rfl) rfl (Nat.le_of_ble_eq_true rfl) rfl 0 (202 * (tgi M 249 4)) q1.1) rfl rfl (Nat.le_of_ble_eq_true rfl) (Nat.le_of_ble_eq_true rfl) (Nat.le_of_ble_eq_true rfl) (Nat.le_of_ble_eq_true rfl) (Nat.le_of_ble_eq_true rfl) ?_
    refine tv_aload_n C dk_X9_remembers_76 rfl ?_
    refine tv_dup C dk_X9_remembers_77 rfl ?_
    refine tv_getI C dk_X9_remembers_78 fl_RX9_45 (Nat.le_of_ble_eq_true rfl) rfl (fun _ _ _ _ => rfl) ?_
    refine tv_iconst (v := 1) C dk_X9_remembers_81 (by decide) ?_
    refine tv_iadd C dk_X9_remembers_82 ?_
    refine tv_putI C tvP0_ex dk_X9_remembers_83 fl_RX9_45 fw_9_4 (Nat.le_of_ble_eq_true rfl) rfl rfl (fun _ _ _ _ _ => rfl) rfl rfl ?_
    exact tv_vret C hQ dk_X9_remembers_86 rfl (by rw [e_X9_remembers, if_neg h1] at hs; rw [← tvIter_out hs])
  have q3 := hq.1 h1
  refine tv_iconst (v := 1) C dk_X9_remembers_9 (by decide) ?_
  refine tv_istore_n (L' := [_, _]) (hn := by decide) (hlt := (Nat.le_of_ble_eq_true rfl)) (hno := rfl) C dk_X9_remembers_10 rfl ?_
  exact (K n 1 M (by rw [e_X9_remembers, if_pos h1] at hqn; exact hqn) (by rw [e_X9_remembers, if_pos h1] at hs; exact hs))
def f_X9_remembers (M : tvM) : tvM := (tvIter (s_X9_remembers) 5000 (e_X9_remembers M)).getD M
def q_X9_remembers (M : tvM) : Prop := qe_X9_remembers M ∧ (∃ r, tvIter (s_X9_remembers) 5000 (e_X9_remembers M) = some r) ∧ tvQ (s_X9_remembers) (qs_X9_remembers) 5000 (e_X9_remembers M)
theorem n_X9_remembers (G : tvG) (M : tvM) (hq : q_X9_remembers M) : tvRun G yX9_remembers cX9_remembers 2 none 2 0 0 tvP0 tvP0 [.ref (G.2.1 + 249)] M (.inl none) (f_X9_remembers M) := by
  obtain ⟨h1, ⟨r, h2⟩, h3⟩ := hq
  have h4 : f_X9_remembers M = r := by show (tvIter _ _ _).getD _ = _; rw [h2]; rfl
  rw [h4]
  exact m_X9_remembers G M _ r h2 h1 h3
/-- TideVaultModel.ends(I)I -/
def f_X9_ends (M : tvM) (x1 : Int32) : Int32 × tvM := (if (tgi M 249 5) = 0 then (x1, (f_X9_remembers M)) else (0, M))
def q_X9_ends (M : tvM) (x1 : Int32) : Prop := (((tgi M 249 5) = 0 → ((q_X9_remembers M) ∧ True)) ∧ (¬ (tgi M 249 5) = 0 → True))
theorem m_X9_ends (G : tvG) (M : tvM) (x1 : Int32) (hq : q_X9_ends M x1) : tvRun G yX9_ends cX9_ends 2 (some .int) 3 0 0 tvP0 tvP0 [.ref (G.2.1 + 249), .int x1] M (.inl (some (.int (f_X9_ends M x1).1))) ((f_X9_ends M x1).2) := by
  refine tvRun.of yk_X9_ends rfl [some (.ref (G.2.1 + 249)), some (.int x1)] rfl (Nat.le_of_ble_eq_true rfl) ?_
  intro E hG C hQ; subst hG
  refine tv_aload_n C dk_X9_ends_0 rfl ?_
  refine tv_getI C dk_X9_ends_1 fl_RX9_38 (Nat.le_of_ble_eq_true rfl) rfl (fun _ _ _ _ => rfl) ?_
  refine tv_if_eq C dk_X9_ends_4 (fun h1 => ?_) (fun h1 => ?_)
  · have q1 := hq.1 h1
    refine tv_aload_n C dk_X9_ends_9 rfl ?_
    have q2 := q1.2
    refine tv_cV0 C dk_X9_ends_10 ml_RX9_48 yk_X9_remembers yi_X9_remembers (n_X9_remembers _ M q1.1) (Nat.le_of_ble_eq_true rfl) rfl rfl rfl rfl (Nat.le_of_ble_eq_true rfl) (Nat.le_of_ble_eq_true rfl) (Nat.le_of_ble_eq_true rfl) (Nat.le_of_ble_eq_true rfl) (Nat.le_of_ble_eq_true rfl) ?_
    refine tv_iload_n C dk_X9_ends_13 rfl ?_
    exact tv_iret C hQ dk_X9_ends_14 rfl (by rw [f_X9_ends, if_pos h1]) (by rw [f_X9_ends, if_pos h1])
  have q3 := hq.2 h1
  refine tv_iconst (v := 0) C dk_X9_ends_7 (by decide) ?_
  exact tv_iret C hQ dk_X9_ends_8 rfl (by rw [f_X9_ends, if_neg h1]) (by rw [f_X9_ends, if_neg h1])
/-- TideVaultModel.endsTold(I)I -/
def f_X9_endsTold (M : tvM) (x1 : Int32) : Int32 × tvM := (if (tgi M 249 5) = 0 then (if (tgi (f_X9_remembers M) 249 5) = 0 then (x1, (f_X9_remembers M)) else (0, (f_X9_remembers M))) else (if (tgi M 249 5) = 4 then (if (tgi (f_X9_remembers M) 249 5) = 0 then (x1, (f_X9_remembers M)) else (0, (f_X9_remembers M))) else (0, M)))
def q_X9_endsTold (M : tvM) (x1 : Int32) : Prop := (((tgi M 249 5) = 0 → ((q_X9_remembers M) ∧ (((tgi (f_X9_remembers M) 249 5) = 0 → True) ∧ (¬ (tgi (f_X9_remembers M) 249 5) = 0 → True)))) ∧ (¬ (tgi M 249 5) = 0 → (((tgi M 249 5) = 4 → ((q_X9_remembers M) ∧ (((tgi (f_X9_remembers M) 249 5) = 0 → True) ∧ (¬ (tgi (f_X9_remembers M) 249 5) = 0 → True)))) ∧ (¬ (tgi M 249 5) = 4 → True))))
theorem m_X9_endsTold (G : tvG) (M : tvM) (x1 : Int32) (hq : q_X9_endsTold M x1) : tvRun G yX9_endsTold cX9_endsTold 2 (some .int) 3 0 0 tvP0 tvP0 [.ref (G.2.1 + 249), .int x1] M (.inl (some (.int (f_X9_endsTold M x1).1))) ((f_X9_endsTold M x1).2) := by
  refine tvRun.of yk_X9_endsTold rfl [some (.ref (G.2.1 + 249)), some (.int x1)] rfl (Nat.le_of_ble_eq_true rfl) ?_
  intro E hG C hQ; subst hG
  refine tv_aload_n C dk_X9_endsTold_0 rfl ?_
  refine tv_getI C dk_X9_endsTold_1 fl_RX9_38 (Nat.le_of_ble_eq_true rfl) rfl (fun _ _ _ _ => rfl) ?_
  refine tv_if_eq C dk_X9_endsTold_4 (fun h1 => ?_) (fun h1 => ?_)
  · have q1 := hq.1 h1
    refine tv_aload_n C dk_X9_endsTold_15 rfl ?_
    have q2 := q1.2
    refine tv_cV0 C dk_X9_endsTold_16 ml_RX9_48 yk_X9_remembers yi_X9_remembers (n_X9_remembers _ M q1.1) (Nat.le_of_ble_eq_true rfl) rfl rfl rfl rfl (Nat.le_of_ble_eq_true rfl) (Nat.le_of_ble_eq_true rfl) (Nat.le_of_ble_eq_true rfl) (Nat.le_of_ble_eq_true rfl) (Nat.le_of_ble_eq_true rfl) ?_
    refine tv_aload_n C dk_X9_endsTold_19 rfl ?_
    refine tv_getI C dk_X9_endsTold_20 fl_RX9_38 (Nat.le_of_ble_eq_true rfl) rfl (fun _ _ _ _ => rfl) ?_
    refine tv_if_ne C dk_X9_endsTold_23 (fun h2 => ?_) (fun h2 => ?_)
    · have q3 := q2.2 h2
      refine tv_iconst (v := 0) C dk_X9_endsTold_30 (by decide) ?_
      exact tv_iret C hQ dk_X9_endsTold_31 rfl (by rw [f_X9_endsTold, if_pos h1, if_neg h2]) (by rw [f_X9_endsTold, if_pos h1, if_neg h2])
    have q4 := q2.1 h2
    refine tv_iload_n C dk_X9_endsTold_26 rfl ?_
    refine tv_goto C dk_X9_endsTold_27 ?_
    exact tv_iret C hQ dk_X9_endsTold_31 rfl (by rw [f_X9_endsTold, if_pos h1, if_pos h2]) (by rw [f_X9_endsTold, if_pos h1, if_pos h2])
  have q5 := hq.2 h1
  refine tv_aload_n C dk_X9_endsTold_7 rfl ?_
  refine tv_getI C dk_X9_endsTold_8 fl_RX9_38 (Nat.le_of_ble_eq_true rfl) rfl (fun _ _ _ _ => rfl) ?_
  refine tv_iconst (v := 4) C dk_X9_endsTold_11 (by decide) ?_
  refine tv_icmp_ne C dk_X9_endsTold_12 (fun h3 => ?_) (fun h3 => ?_)
  · have q6 := q5.2 h3
    refine tv_aload_n C dk_X9_endsTold_19 rfl ?_
    refine tv_getI C dk_X9_endsTold_20 fl_RX9_38 (Nat.le_of_ble_eq_true rfl) rfl (fun _ _ _ _ => rfl) ?_
    refine tv_if_ne C dk_X9_endsTold_23 (fun _ => ?_) (fun h => absurd h h1)
    refine tv_iconst (v := 0) C dk_X9_endsTold_30 (by decide) ?_
    exact tv_iret C hQ dk_X9_endsTold_31 rfl (by rw [f_X9_endsTold, if_neg h1, if_neg h3]) (by rw [f_X9_endsTold, if_neg h1, if_neg h3])
  have q7 := q5.1 h3
  refine tv_aload_n C dk_X9_endsTold_15 rfl ?_
  have q8 := q7.2
  refine tv_cV0 C dk_X9_endsTold_16 ml_RX9_48 yk_X9_remembers yi_X9_remembers (n_X9_remembers _ M q7.1) (Nat.le_of_ble_eq_true rfl) rfl rfl rfl rfl (Nat.le_of_ble_eq_true rfl) (Nat.le_of_ble_eq_true rfl) (Nat.le_of_ble_eq_true rfl) (Nat.le_of_ble_eq_true rfl) (Nat.le_of_ble_eq_true rfl) ?_
  refine tv_aload_n C dk_X9_endsTold_19 rfl ?_
  refine tv_getI C dk_X9_endsTold_20 fl_RX9_38 (Nat.le_of_ble_eq_true rfl) rfl (fun _ _ _ _ => rfl) ?_
  refine tv_if_ne C dk_X9_endsTold_23 (fun h5 => ?_) (fun h5 => ?_)
  · have q9 := q8.2 h5
    refine tv_iconst (v := 0) C dk_X9_endsTold_30 (by decide) ?_
    exact tv_iret C hQ dk_X9_endsTold_31 rfl (by rw [f_X9_endsTold, if_neg h1, if_pos h3, if_neg h5]) (by rw [f_X9_endsTold, if_neg h1, if_pos h3, if_neg h5])
  have q10 := q8.1 h5
  refine tv_iload_n C dk_X9_endsTold_26 rfl ?_
  refine tv_goto C dk_X9_endsTold_27 ?_
  exact tv_iret C hQ dk_X9_endsTold_31 rfl (by rw [f_X9_endsTold, if_neg h1, if_pos h3, if_pos h5]) (by rw [f_X9_endsTold, if_neg h1, if_pos h3, if_pos h5])
/-- TideVaultModel.addHolder(I)I -/
def f_X9_addHolder (M : tvM) (x1 : Int32) : Int32 × tvM := ((f_X9_ends ((f_X9_holds (f_X9_keeps M) x1).2) ((f_X9_holds (f_X9_keeps M) x1).1)).1, (f_X9_ends ((f_X9_holds (f_X9_keeps M) x1).2) ((f_X9_holds (f_X9_keeps M) x1).1)).2)
def q_X9_addHolder (M : tvM) (x1 : Int32) : Prop := ((q_X9_holds (f_X9_keeps M) x1) ∧ ((q_X9_ends ((f_X9_holds (f_X9_keeps M) x1).2) ((f_X9_holds (f_X9_keeps M) x1).1)) ∧ True))
theorem m_X9_addHolder (G : tvG) (M : tvM) (x1 : Int32) (hq : q_X9_addHolder M x1) : tvRun G yX9_addHolder cX9_addHolder 2 (some .int) 4 0 0 tvP0 tvP0 [.ref (G.2.1 + 249), .int x1] M (.inl (some (.int (f_X9_addHolder M x1).1))) ((f_X9_addHolder M x1).2) := by
  refine tvRun.of yk_X9_addHolder rfl [some (.ref (G.2.1 + 249)), some (.int x1)] rfl (Nat.le_of_ble_eq_true rfl) ?_
  intro E hG C hQ; subst hG
  refine tv_aload_n C dk_X9_addHolder_0 rfl ?_
  refine tv_cV0 C dk_X9_addHolder_1 ml_RX9_70 yk_X9_keeps yi_X9_keeps (m_X9_keeps _ M) (Nat.le_of_ble_eq_true rfl) rfl rfl rfl rfl (Nat.le_of_ble_eq_true rfl) (Nat.le_of_ble_eq_true rfl) (Nat.le_of_ble_eq_true rfl) (Nat.le_of_ble_eq_true rfl) (Nat.le_of_ble_eq_true rfl) ?_
  refine tv_aload_n C dk_X9_addHolder_4 rfl ?_
  refine tv_aload_n C dk_X9_addHolder_5 rfl ?_
  refine tv_iload_n C dk_X9_addHolder_6 rfl ?_
  have q1 := hq.2
  refine tv_cV1 C dk_X9_addHolder_7 ml_RX9_73 yk_X9_holds yi_X9_holds (m_X9_holds _ (f_X9_keeps M) x1 hq.1) (Nat.le_of_ble_eq_true rfl) rfl rfl rfl rfl (Nat.le_of_ble_eq_true rfl) (Nat.le_of_ble_eq_true rfl) (Nat.le_of_ble_eq_true rfl) (Nat.le_of_ble_eq_true rfl) (Nat.le_of_ble_eq_true rfl) ?_
  have q2 := q1.2
  refine tv_cV1 C dk_X9_addHolder_10 ml_RX9_77 yk_X9_ends yi_X9_ends (m_X9_ends _ ((f_X9_holds (f_X9_keeps M) x1).2) ((f_X9_holds (f_X9_keeps M) x1).1) q1.1) (Nat.le_of_ble_eq_true rfl) rfl rfl rfl rfl (Nat.le_of_ble_eq_true rfl) (Nat.le_of_ble_eq_true rfl) (Nat.le_of_ble_eq_true rfl) (Nat.le_of_ble_eq_true rfl) (Nat.le_of_ble_eq_true rfl) ?_
  exact tv_iret C hQ dk_X9_addHolder_13 rfl (by rw [f_X9_addHolder]) (by rw [f_X9_addHolder])
