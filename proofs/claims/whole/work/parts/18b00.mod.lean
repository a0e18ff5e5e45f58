/-- q holds wherever the run comes -/
def tvQ {σ ρ : Type} (step : σ → σ ⊕ ρ) (q : σ → Prop) : Nat → σ ⊕ ρ → Prop
  | 0, _ => True
  | n + 1, .inl s => q s ∧ tvQ step q n (step s)
  | _ + 1, .inr _ => True
theorem tvQ_go {σ ρ : Type} {step : σ → σ ⊕ ρ} {q : σ → Prop} {n : Nat} {s : σ} (h : tvQ step q (n + 1) (.inl s)) : q s ∧ tvQ step q n (step s) := h
/-- TideVaultModel.happens(II)V -/
def sb_X9_happens (x1 : Int32) (x2 : Int32) (y3 : Int32) (M : tvM) : (Int32 × tvM) ⊕ tvM := (if 199 ≤ y3 then .inr (tpi (tpi (tpi (tpi (tpi M 250 11 ((tgi M 250 11) - 1)) 250 (166 + (3 * (tgi (tpi M 250 11 ((tgi M 250 11) - 1)) 250 11))).toNatClampNeg x1) 250 ((166 + (3 * (tgi (tpi M 250 11 ((tgi M 250 11) - 1)) 250 11))) + 1).toNatClampNeg (tgi (tpi (tpi M 250 11 ((tgi M 250 11) - 1)) 250 (166 + (3 * (tgi (tpi M 250 11 ((tgi M 250 11) - 1)) 250 11))).toNatClampNeg x1) 250 0)) 250 ((166 + (3 * (tgi (tpi M 250 11 ((tgi M 250 11) - 1)) 250 11))) + 2).toNatClampNeg x2) 250 11 ((tgi (tpi (tpi (tpi (tpi M 250 11 ((tgi M 250 11) - 1)) 250 (166 + (3 * (tgi (tpi M 250 11 ((tgi M 250 11) - 1)) 250 11))).toNatClampNeg x1) 250 ((166 + (3 * (tgi (tpi M 250 11 ((tgi M 250 11) - 1)) 250 11))) + 1).toNatClampNeg (tgi (tpi (tpi M 250 11 ((tgi M 250 11) - 1)) 250 (166 + (3 * (tgi (tpi M 250 11 ((tgi M 250 11) - 1)) 250 11))).toNatClampNeg x1) 250 0)) 250 ((166 + (3 * (tgi (tpi M 250 11 ((tgi M 250 11) - 1)) 250 11))) + 2).toNatClampNeg x2) 250 11) + 1)) else .inl ((y3 + 1), (tpi M 250 y3.toNatClampNeg (tgi M 250 (y3 + 3).toNatClampNeg))))
def s_X9_happens (x1 : Int32) (x2 : Int32) : (Int32 × tvM) → (Int32 × tvM) ⊕ tvM := fun q => sb_X9_happens x1 x2 q.1 q.2
def e_X9_happens (M : tvM) (x1 : Int32) (x2 : Int32) : (Int32 × tvM) ⊕ tvM := (if (tgi M 250 11) = 12 then .inl (166, M) else .inr (tpi (tpi (tpi (tpi M 250 (166 + (3 * (tgi M 250 11))).toNatClampNeg x1) 250 ((166 + (3 * (tgi M 250 11))) + 1).toNatClampNeg (tgi (tpi M 250 (166 + (3 * (tgi M 250 11))).toNatClampNeg x1) 250 0)) 250 ((166 + (3 * (tgi M 250 11))) + 2).toNatClampNeg x2) 250 11 ((tgi (tpi (tpi (tpi M 250 (166 + (3 * (tgi M 250 11))).toNatClampNeg x1) 250 ((166 + (3 * (tgi M 250 11))) + 1).toNatClampNeg (tgi (tpi M 250 (166 + (3 * (tgi M 250 11))).toNatClampNeg x1) 250 0)) 250 ((166 + (3 * (tgi M 250 11))) + 2).toNatClampNeg x2) 250 11) + 1)))
def qb_X9_happens (x1 : Int32) (x2 : Int32) (y3 : Int32) (M : tvM) : Prop := ((199 ≤ y3 → (vp_in (166 + (3 * (tgi (tpi M 250 11 ((tgi M 250 11) - 1)) 250 11))) 202 ∧ (vp_in ((166 + (3 * (tgi (tpi M 250 11 ((tgi M 250 11) - 1)) 250 11))) + 1) 202 ∧ (vp_in ((166 + (3 * (tgi (tpi M 250 11 ((tgi M 250 11) - 1)) 250 11))) + 2) 202 ∧ True)))) ∧ (¬ 199 ≤ y3 → (vp_in (y3 + 3) 202 ∧ (vp_in y3 202 ∧ True))))
def qs_X9_happens (x1 : Int32) (x2 : Int32) : (Int32 × tvM) → Prop := fun q => qb_X9_happens x1 x2 q.1 q.2
def qe_X9_happens (M : tvM) (x1 : Int32) (x2 : Int32) : Prop := (((tgi M 250 11) = 12 → True) ∧ (¬ (tgi M 250 11) = 12 → (vp_in (166 + (3 * (tgi M 250 11))) 202 ∧ (vp_in ((166 + (3 * (tgi M 250 11))) + 1) 202 ∧ (vp_in ((166 + (3 * (tgi M 250 11))) + 2) 202 ∧ True)))))
theorem m_X9_happens (G : tvG) (M : tvM) (x1 : Int32) (x2 : Int32) (n : Nat) (r : tvM) (hs : tvIter (s_X9_happens x1 x2) n (e_X9_happens M x1 x2) = some r) (hq : qe_X9_happens M x1 x2) (hqn : tvQ (s_X9_happens x1 x2) (qs_X9_happens x1 x2) n (e_X9_happens M x1 x2)) : tvRun G yX9_happens cX9_happens 4 none 1 0 0 tvP0 tvP0 [.ref (G.2.1 + 249), .int x1, .int x2] M (.inl none) r := by
  refine tvRun.of yk_X9_happens rfl [some (.ref (G.2.1 + 249)), some (.int x1), some (.int x2), none] rfl (Nat.le_of_ble_eq_true rfl) ?_
  intro E hG C hQ; subst hG
  have K : ∀ (n : Nat) (y3 : Int32) (M : tvM), tvQ (s_X9_happens x1 x2) (qs_X9_happens x1 x2) n (.inl (y3, M)) → tvIter (s_X9_happens x1 x2) n (.inl (y3, M)) = some r → tv_W E tvP0 0 0 M 16 [some (.ref (E.G.2.1 + 249)), some (.int x1), some (.int x2), some (.int y3)] [] := by
    intro n
    induction n with
    | zero => intro y3 M hqq hz; exact (tvIter_0 hz).elim
    | succ n ih =>
      intro y3 M hqq hz
      have hs : tvIter (s_X9_happens x1 x2) n (sb_X9_happens x1 x2 y3 M) = some r := by have h9 := tvIter_go hz; exact h9
      have hqn : tvQ (s_X9_happens x1 x2) (qs_X9_happens x1 x2) n (sb_X9_happens x1 x2 y3 M) := by have h9 := (tvQ_go hqq).2; exact h9
      have hq : qb_X9_happens x1 x2 y3 M := by have h9 := (tvQ_go hqq).1; exact h9
      refine tv_iload_n C dk_X9_happens_16 rfl ?_
      refine tv_sipush (v := 199) C dk_X9_happens_17 (by decide) ?_
      refine tv_icmp_ge C dk_X9_happens_20 (fun h101 => ?_) (fun h101 => ?_)
      · have q1 := hq.1 h101
        refine tv_aload_n C dk_X9_happens_43 rfl ?_
        refine tv_getR (r := 250) C dk_X9_happens_44 fl_RX9_9 (Nat.le_of_ble_eq_true rfl) rfl rfl (fun _ _ _ _ => rfl) ?_
        refine tv_bipush (v := 11) C dk_X9_happens_47 (by decide) ?_
        refine tv_dup2 C dk_X9_happens_49 rfl rfl ?_
        refine tv_iald (j := 11) rfl C dk_X9_happens_50 (Nat.le_of_ble_eq_true rfl) rfl (vp_in_nI (n := 11) (by decide) (by decide)) ?_
        refine tv_iconst (v := 1) C dk_X9_happens_51 (by decide) ?_
        refine tv_isub C dk_X9_happens_52 ?_
        refine tv_iast (j := 11) rfl C tvP0_ex dk_X9_happens_53 (Nat.le_of_ble_eq_true rfl) rfl (vp_in_nI (n := 11) (by decide) (by decide)) ?_
        refine tv_sipush (v := 166) C dk_X9_happens_54 (by decide) ?_
        refine tv_iconst (v := 3) C dk_X9_happens_57 (by decide) ?_
        refine tv_aload_n C dk_X9_happens_58 rfl ?_
        refine tv_getR (r := 250) C dk_X9_happens_59 fl_RX9_9 (Nat.le_of_ble_eq_true rfl) rfl rfl (fun _ _ _ _ => rfl) ?_
        refine tv_bipush (v := 11) C dk_X9_happens_62 (by decide) ?_
        refine tv_iald (j := 11) rfl C dk_X9_happens_64 (Nat.le_of_ble_eq_true rfl) rfl (vp_in_nI (n := 11) (by decide) (by decide)) ?_
        refine tv_imul C dk_X9_happens_65 ?_
        refine tv_iadd C dk_X9_happens_66 ?_
        refine tv_istore_n (L' := [_, _, _, _]) (hn := by decide) (hlt := (Nat.le_of_ble_eq_true rfl)) (hno := rfl) C dk_X9_happens_67 rfl ?_
        refine tv_aload_n C dk_X9_happens_68 rfl ?_
        refine tv_getR (r := 250) C dk_X9_happens_69 fl_RX9_9 (Nat.le_of_ble_eq_true rfl) rfl rfl (fun _ _ _ _ => rfl) ?_
        refine tv_iload_n C dk_X9_happens_72 rfl ?_
        refine tv_iload_n C dk_X9_happens_73 rfl ?_
        have q2 := q1.2
        refine tv_iast (j := (166 + (3 * (tgi (tpi M 250 11 ((tgi M 250 11) - 1)) 250 11))).toNatClampNeg) rfl C tvP0_ex dk_X9_happens_74 (Nat.le_of_ble_eq_true rfl) rfl q1.1 ?_
        refine tv_aload_n C dk_X9_happens_75 rfl ?_
        refine tv_getR (r := 250) C dk_X9_happens_76 fl_RX9_9 (Nat.le_of_ble_eq_true rfl) rfl rfl (fun _ _ _ _ => rfl) ?_
        refine tv_iload_n C dk_X9_happens_79 rfl ?_
        refine tv_iconst (v := 1) C dk_X9_happens_80 (by decide) ?_
        refine tv_iadd C dk_X9_happens_81 ?_
        refine tv_aload_n C dk_X9_happens_82 rfl ?_
        refine tv_getR (r := 250) C dk_X9_happens_83 fl_RX9_9 (Nat.le_of_ble_eq_true rfl) rfl rfl (fun _ _ _ _ => rfl) ?_
        refine tv_iconst (v := 0) C dk_X9_happens_86 (by decide) ?_
        refine tv_iald (j := 0) rfl C dk_X9_happens_87 (Nat.le_of_ble_eq_true rfl) rfl (vp_in_nI (n := 0) (by decide) (by decide)) ?_
        have q3 := q2.2
        refine tv_iast (j := ((166 + (3 * (tgi (tpi M 250 11 ((tgi M 250 11) - 1)) 250 11))) + 1).toNatClampNeg) rfl C tvP0_ex dk_X9_happens_88 (Nat.le_of_ble_eq_true rfl) rfl q2.1 ?_
        refine tv_aload_n C dk_X9_happens_89 rfl ?_
        refine tv_getR (r := 250) C dk_X9_happens_90 fl_RX9_9 (Nat.le_of_ble_eq_true rfl) rfl rfl (fun _ _ _ _ => rfl) ?_
        refine tv_iload_n C dk_X9_happens_93 rfl ?_
        refine tv_iconst (v := 2) C dk_X9_happens_94 (by decide) ?_
        refine tv_iadd C dk_X9_happens_95 ?_
        refine tv_iload_n C dk_X9_happens_96 rfl ?_
        have q4 := q3.2
        refine tv_iast (j := ((166 + (3 * (tgi (tpi M 250 11 ((tgi M 250 11) - 1)) 250 11))) + 2).toNatClampNeg) rfl C tvP0_ex dk_X9_happens_97 (Nat.le_of_ble_eq_true rfl) rfl q3.1 ?_
        refine tv_aload_n C dk_X9_happens_98 rfl ?_
        refine tv_getR (r := 250) C dk_X9_happens_99 fl_RX9_9 (Nat.le_of_ble_eq_true rfl) rfl rfl (fun _ _ _ _ => rfl) ?_
        refine tv_bipush (v := 11) C dk_X9_happens_102 (by decide) ?_
        refine tv_dup2 C dk_X9_happens_104 rfl rfl ?_
        refine tv_iald (j := 11) rfl C dk_X9_happens_105 (Nat.le_of_ble_eq_true rfl) rfl (vp_in_nI (n := 11) (by decide) (by decide)) ?_
        refine tv_iconst (v := 1) C dk_X9_happens_106 (by decide) ?_
        refine tv_iadd C dk_X9_happens_107 ?_
        refine tv_iast (j := 11) rfl C tvP0_ex dk_X9_happens_108 (Nat.le_of_ble_eq_true rfl) rfl (vp_in_nI (n := 11) (by decide) (by decide)) ?_
        exact tv_vret C hQ dk_X9_happens_109 rfl (by rw [sb_X9_happens, if_pos h101] at hs; rw [← tvIter_out hs])
      have q5 := hq.2 h101
      refine tv_aload_n C dk_X9_happens_23 rfl ?_
      refine tv_getR (r := 250) C dk_X9_happens_24 fl_RX9_9 (Nat.le_of_ble_eq_true rfl) rfl rfl (fun _ _ _ _ => rfl) ?_
      refine tv_iload_n C dk_X9_happens_27 rfl ?_
      refine tv_aload_n C dk_X9_happens_28 rfl ?_
      refine tv_getR (r := 250) C dk_X9_happens_29 fl_RX9_9 (Nat.le_of_ble_eq_true rfl) rfl rfl (fun _ _ _ _ => rfl) ?_
      refine tv_iload_n C dk_X9_happens_32 rfl ?_
      refine tv_iconst (v := 3) C dk_X9_happens_33 (by decide) ?_
      refine tv_iadd C dk_X9_happens_34 ?_
      have q6 := q5.2
      refine tv_iald (j := (y3 + 3).toNatClampNeg) rfl C dk_X9_happens_35 (Nat.le_of_ble_eq_true rfl) rfl q5.1 ?_
      have q7 := q6.2
      refine tv_iast (j := y3.toNatClampNeg) rfl C tvP0_ex dk_X9_happens_36 (Nat.le_of_ble_eq_true rfl) rfl q6.1 ?_
      refine tv_iinc (v := (y3 + 1)) (L' := [_, _, _, _]) (hn := by decide) (hlt := (Nat.le_of_ble_eq_true rfl)) (hno := rfl) C dk_X9_happens_37 rfl rfl rfl ?_
      refine tv_goto C dk_X9_happens_40 ?_
      exact (ih (y3 + 1) (tpi M 250 y3.toNatClampNeg (tgi M 250 (y3 + 3).toNatClampNeg)) (by rw [sb_X9_happens, if_neg h101] at hqn; exact hqn) (by rw [sb_X9_happens, if_neg h101] at hs; exact hs))
  refine tv_aload_n C dk_X9_happens_0 rfl ?_
  refine tv_getR (r := 250) C dk_X9_happens_1 fl_RX9_9 (Nat.le_of_ble_eq_true rfl) rfl rfl (fun _ _ _ _ => rfl) ?_
  refine tv_bipush (v := 11) C dk_X9_happens_4 (by decide) ?_
  refine tv_iald (j := 11) rfl C dk_X9_happens_6 (Nat.le_of_ble_eq_true rfl) rfl (vp_in_nI (n := 11) (by decide) (by decide)) ?_
  refine tv_bipush (v := 12) C dk_X9_happens_7 (by decide) ?_
  refine tv_icmp_ne C dk_X9_happens_9 (fun h1 => ?_) (fun h1 => ?_)
  · have q1 := hq.2 h1
    refine tv_sipush (v := 166) C dk_X9_happens_54 (by decide) ?_
    refine tv_iconst (v := 3) C dk_X9_happens_57 (by decide) ?_
    refine tv_aload_n C dk_X9_happens_58 rfl ?_
    refine tv_getR (r := 250) C dk_X9_happens_59 fl_RX9_9 (Nat.le_of_ble_eq_true rfl) rfl rfl (fun _ _ _ _ => rfl) ?_
    refine tv_bipush (v := 11) C dk_X9_happens_62 (by decide) ?_
    refine tv_iald (j := 11) rfl C dk_X9_happens_64 (Nat.le_of_ble_eq_true rfl) rfl (vp_in_nI (n := 11) (by decide) (by decide)) ?_
    refine tv_imul C dk_X9_happens_65 ?_
    refine tv_iadd C dk_X9_happens_66 ?_
    refine tv_istore_n (L' := [_, _, _, _]) (hn := by decide) (hlt := (Nat.le_of_ble_eq_true rfl)) (hno := rfl) C dk_X9_happens_67 rfl ?_
    refine tv_aload_n C dk_X9_happens_68 rfl ?_
    refine tv_getR (r := 250) C dk_X9_happens_69 fl_RX9_9 (Nat.le_of_ble_eq_true rfl) rfl rfl (fun _ _ _ _ => rfl) ?_
    refine tv_iload_n C dk_X9_happens_72 rfl ?_
    refine tv_iload_n C dk_X9_happens_73 rfl ?_
    have q2 := q1.2
    refine tv_iast (j := (166 + (3 * (tgi M 250 11))).toNatClampNeg) rfl C tvP0_ex dk_X9_happens_74 (Nat.le_of_ble_eq_true rfl) rfl q1.1 ?_
    refine tv_aload_n C dk_X9_happens_75 rfl ?_
    refine tv_getR (r := 250) C dk_X9_happens_76 fl_RX9_9 (Nat.le_of_ble_eq_true rfl) rfl rfl (fun _ _ _ _ => rfl) ?_
    refine tv_iload_n C dk_X9_happens_79 rfl ?_
    refine tv_iconst (v := 1) C dk_X9_happens_80 (by decide) ?_
    refine tv_iadd C dk_X9_happens_81 ?_
    refine tv_aload_n C dk_X9_happens_82 rfl ?_
    refine tv_getR (r := 250) C dk_X9_happens_83 fl_RX9_9 (Nat.le_of_ble_eq_true rfl) rfl rfl (fun _ _ _ _ => rfl) ?_
    refine tv_iconst (v := 0) C dk_X9_happens_86 (by decide) ?_
    refine tv_iald (j := 0) rfl C dk_X9_happens_87 (Nat.le_of_ble_eq_true rfl) rfl (vp_in_nI (n := 0) (by decide) (by decide)) ?_
    have q3 := q2.2
    refine tv_iast (j := ((166 + (3 * (tgi M 250 11))) + 1).toNatClampNeg) rfl C tvP0_ex dk_X9_happens_88 (Nat.le_of_ble_eq_true rfl) rfl q2.1 ?_
    refine tv_aload_n C dk_X9_happens_89 rfl ?_
    refine tv_getR (r := 250) C dk_X9_happens_90 fl_RX9_9 (Nat.le_of_ble_eq_true rfl) rfl rfl (fun _ _ _ _ => rfl) ?_
    refine tv_iload_n C dk_X9_happens_93 rfl ?_
    refine tv_iconst (v := 2) C dk_X9_happens_94 (by decide) ?_
    refine tv_iadd C dk_X9_happens_95 ?_
    refine tv_iload_n C dk_X9_happens_96 rfl ?_
    have q4 := q3.2
    refine tv_iast (j := ((166 + (3 * (tgi M 250 11))) + 2).toNatClampNeg) rfl C tvP0_ex dk_X9_happens_97 (Nat.le_of_ble_eq_true rfl) rfl q3.1 ?_
    refine tv_aload_n C dk_X9_happens_98 rfl ?_
    refine tv_getR (r := 250) C dk_X9_happens_99 fl_RX9_9 (Nat.le_of_ble_eq_true rfl) rfl rfl (fun _ _ _ _ => rfl) ?_
    refine tv_bipush (v := 11) C dk_X9_happens_102 (by decide) ?_
    refine tv_dup2 C dk_X9_happens_104 rfl rfl ?_
    refine tv_iald (j := 11) rfl C dk_X9_happens_105 (Nat.le_of_ble_eq_true rfl) rfl (vp_in_nI (n := 11) (by decide) (by decide)) ?_
    refine tv_iconst (v := 1) C dk_X9_happens_106 (by decide) ?_
    refine tv_iadd C dk_X9_happens_107 ?_
    refine tv_iast (j := 11) rfl C tvP0_ex dk_X9_happens_108 (Nat.le_of_ble_eq_true rfl) rfl (vp_in_nI (n := 11) (by decide) (by decide)) ?_
    exact tv_vret C hQ dk_X9_happens_109 rfl (by rw [e_X9_happens, if_neg h1] at hs; rw [← tvIter_out hs])
  have q5 := hq.1 h1
  refine tv_sipush (v := 166) C dk_X9_happens_12 (by decide) ?_
  refine tv_istore_n (L' := [_, _, _, _]) (hn := by decide) (hlt := (Nat.le_of_ble_eq_true rfl)) (hno := rfl) C dk_X9_happens_15 rfl ?_
  exact (K n 166 M (by rw [e_X9_happens, if_pos h1] at hqn; exact hqn) (by rw [e_X9_happens, if_pos h1] at hs; exact hs))
def f_X9_happens (M : tvM) (x1 : Int32) (x2 : Int32) : tvM := (tvIter (s_X9_happens x1 x2) 5000 (e_X9_happens M x1 x2)).getD M
def q_X9_happens (M : tvM) (x1 : Int32) (x2 : Int32) : Prop := qe_X9_happens M x1 x2 ∧ (∃ r, tvIter (s_X9_happens x1 x2) 5000 (e_X9_happens M x1 x2) = some r) ∧ tvQ (s_X9_happens x1 x2) (qs_X9_happens x1 x2) 5000 (e_X9_happens M x1 x2)
theorem n_X9_happens (G : tvG) (M : tvM) (x1 : Int32) (x2 : Int32) (hq : q_X9_happens M x1 x2) : tvRun G yX9_happens cX9_happens 4 none 1 0 0 tvP0 tvP0 [.ref (G.2.1 + 249), .int x1, .int x2] M (.inl none) (f_X9_happens M x1 x2) := by
  obtain ⟨h1, ⟨r, h2⟩, h3⟩ := hq
  have h4 : f_X9_happens M x1 x2 = r := by show (tvIter _ _ _).getD _ = _; rw [h2]; rfl
  rw [h4]
  exact m_X9_happens G M x1 x2 _ r h2 h1 h3
/-- TideVaultModel.isWrong(II)Z -/
def f_X9_isWrong (M : tvM) (x1 : Int32) (x2 : Int32) : Int32 × tvM := (if (f_X9_ofHolder (tpi M 250 4 ((tgi M 250 4) + 1)) x1 0) = x2 then (0, (f_X9_setsHolder (tpi M 250 4 ((tgi M 250 4) + 1)) x1 1 0)) else (if (f_X9_ofHolder (f_X9_setsHolder (f_X9_happens (f_X9_rings (tpi (tpi M 250 4 ((tgi M 250 4) + 1)) 250 5 ((tgi (tpi M 250 4 ((tgi M 250 4) + 1)) 250 5) + 1)) 10) 102 x1) x1 1 ((f_X9_ofHolder (f_X9_happens (f_X9_rings (tpi (tpi M 250 4 ((tgi M 250 4) + 1)) 250 5 ((tgi (tpi M 250 4 ((tgi M 250 4) + 1)) 250 5) + 1)) 10) 102 x1) x1 1) + 1)) x1 1) = 3 then (1, (f_X9_happens (f_X9_rings (f_X9_setsHolder (f_X9_setsHolder (f_X9_setsHolder (f_X9_happens (f_X9_rings (tpi (tpi M 250 4 ((tgi M 250 4) + 1)) 250 5 ((tgi (tpi M 250 4 ((tgi M 250 4) + 1)) 250 5) + 1)) 10) 102 x1) x1 1 ((f_X9_ofHolder (f_X9_happens (f_X9_rings (tpi (tpi M 250 4 ((tgi M 250 4) + 1)) 250 5 ((tgi (tpi M 250 4 ((tgi M 250 4) + 1)) 250 5) + 1)) 10) 102 x1) x1 1) + 1)) x1 1 0) x1 2 ((tgi (f_X9_setsHolder (f_X9_setsHolder (f_X9_happens (f_X9_rings (tpi (tpi M 250 4 ((tgi M 250 4) + 1)) 250 5 ((tgi (tpi M 250 4 ((tgi M 250 4) + 1)) 250 5) + 1)) 10) 102 x1) x1 1 ((f_X9_ofHolder (f_X9_happens (f_X9_rings (tpi (tpi M 250 4 ((tgi M 250 4) + 1)) 250 5 ((tgi (tpi M 250 4 ((tgi M 250 4) + 1)) 250 5) + 1)) 10) 102 x1) x1 1) + 1)) x1 1 0) 250 0) + 30)) 25) 108 x1)) else (1, (f_X9_setsHolder (f_X9_happens (f_X9_rings (tpi (tpi M 250 4 ((tgi M 250 4) + 1)) 250 5 ((tgi (tpi M 250 4 ((tgi M 250 4) + 1)) 250 5) + 1)) 10) 102 x1) x1 1 ((f_X9_ofHolder (f_X9_happens (f_X9_rings (tpi (tpi M 250 4 ((tgi M 250 4) + 1)) 250 5 ((tgi (tpi M 250 4 ((tgi M 250 4) + 1)) 250 5) + 1)) 10) 102 x1) x1 1) + 1)))))
def q_X9_isWrong (M : tvM) (x1 : Int32) (x2 : Int32) : Prop := ((q_X9_ofHolder (tpi M 250 4 ((tgi M 250 4) + 1)) x1 0) ∧ (((f_X9_ofHolder (tpi M 250 4 ((tgi M 250 4) + 1)) x1 0) = x2 → ((q_X9_setsHolder (tpi M 250 4 ((tgi M 250 4) + 1)) x1 1 0) ∧ True)) ∧ (¬ (f_X9_ofHolder (tpi M 250 4 ((tgi M 250 4) + 1)) x1 0) = x2 → ((q_X9_happens (f_X9_rings (tpi (tpi M 250 4 ((tgi M 250 4) + 1)) 250 5 ((tgi (tpi M 250 4 ((tgi M 250 4) + 1)) 250 5) + 1)) 10) 102 x1) ∧ ((q_X9_ofHolder (f_X9_happens (f_X9_rings (tpi (tpi M 250 4 ((tgi M 250 4) + 1)) 250 5 ((tgi (tpi M 250 4 ((tgi M 250 4) + 1)) 250 5) + 1)) 10) 102 x1) x1 1) ∧ ((q_X9_setsHolder (f_X9_happens (f_X9_rings (tpi (tpi M 250 4 ((tgi M 250 4) + 1)) 250 5 ((tgi (tpi M 250 4 ((tgi M 250 4) + 1)) 250 5) + 1)) 10) 102 x1) x1 1 ((f_X9_ofHolder (f_X9_happens (f_X9_rings (tpi (tpi M 250 4 ((tgi M 250 4) + 1)) 250 5 ((tgi (tpi M 250 4 ((tgi M 250 4) + 1)) 250 5) + 1)) 10) 102 x1) x1 1) + 1)) ∧ ((q_X9_ofHolder (f_X9_setsHolder (f_X9_happens (f_X9_rings (tpi (tpi M 250 4 ((tgi M 250 4) + 1)) 250 5 ((tgi (tpi M 250 4 ((tgi M 250 4) + 1)) 250 5) + 1)) 10) 102 x1) x1 1 ((f_X9_ofHolder (f_X9_happens (f_X9_rings (tpi (tpi M 250 4 ((tgi M 250 4) + 1)) 250 5 ((tgi (tpi M 250 4 ((tgi M 250 4) + 1)) 250 5) + 1)) 10) 102 x1) x1 1) + 1)) x1 1) ∧ (((f_X9_ofHolder (f_X9_setsHolder (f_X9_happens (f_X9_rings (tpi (tpi M 250 4 ((tgi M 250 4) + 1)) 250 5 ((tgi (tpi M 250 4 ((tgi M 250 4) + 1)) 250 5) + 1)) 10) 102 x1) x1 1 ((f_X9_ofHolder (f_X9_happens (f_X9_rings (tpi (tpi M 250 4 ((tgi M 250 4) + 1)) 250 5 ((tgi (tpi M 250 4 ((tgi M 250 4) + 1)) 250 5) + 1)) 10) 102 x1) x1 1) + 1)) x1 1) = 3 → ((q_X9_setsHolder (f_X9_setsHolder (f_X9_happens (f_X9_rings (tpi (tpi M 250 4 ((tgi M 250 4) + 1)) 250 5 ((tgi (tpi M 250 4 ((tgi M 250 4) + 1)) 250 5) + 1)) 10) 102 x1) x1 1 ((f_X9_ofHolder (f_X9_happens (f_X9_rings (tpi (tpi M 250 4 ((tgi M 250 4) + 1)) 250 5 ((tgi (tpi M 250 4 ((tgi M 250 4) + 1)) 250 5) + 1)) 10) 102 x1) x1 1) + 1)) x1 1 0) ∧ ((q_X9_setsHolder (f_X9_setsHolder (f_X9_setsHolder (f_X9_happens (f_X9_rings (tpi (tpi M 250 4 ((tgi M 250 4) + 1)) 250 5 ((tgi (tpi M 250 4 ((tgi M 250 4) + 1)) 250 5) + 1)) 10) 102 x1) x1 1 ((f_X9_ofHolder (f_X9_happens (f_X9_rings (tpi (tpi M 250 4 ((tgi M 250 4) + 1)) 250 5 ((tgi (tpi M 250 4 ((tgi M 250 4) + 1)) 250 5) + 1)) 10) 102 x1) x1 1) + 1)) x1 1 0) x1 2 ((tgi (f_X9_setsHolder (f_X9_setsHolder (f_X9_happens (f_X9_rings (tpi (tpi M 250 4 ((tgi M 250 4) + 1)) 250 5 ((tgi (tpi M 250 4 ((tgi M 250 4) + 1)) 250 5) + 1)) 10) 102 x1) x1 1 ((f_X9_ofHolder (f_X9_happens (f_X9_rings (tpi (tpi M 250 4 ((tgi M 250 4) + 1)) 250 5 ((tgi (tpi M 250 4 ((tgi M 250 4) + 1)) 250 5) + 1)) 10) 102 x1) x1 1) + 1)) x1 1 0) 250 0) + 30)) ∧ ((q_X9_happens (f_X9_rings (f_X9_setsHolder (f_X9_setsHolder (f_X9_setsHolder (f_X9_happens (f_X9_rings (tpi (tpi M 250 4 ((tgi M 250 4) + 1)) 250 5 ((tgi (tpi M 250 4 ((tgi M 250 4) + 1)) 250 5) + 1)) 10) 102 x1) x1 1 ((f_X9_ofHolder (f_X9_happens (f_X9_rings (tpi (tpi M 250 4 ((tgi M 250 4) + 1)) 250 5 ((tgi (tpi M 250 4 ((tgi M 250 4) + 1)) 250 5) + 1)) 10) 102 x1) x1 1) + 1)) x1 1 0) x1 2 ((tgi (f_X9_setsHolder (f_X9_setsHolder (f_X9_happens (f_X9_rings (tpi (tpi M 250 4 ((tgi M 250 4) + 1)) 250 5 ((tgi (tpi M 250 4 ((tgi M 250 4) + 1)) 250 5) + 1)) 10) 102 x1) x1 1 ((f_X9_ofHolder (f_X9_happens (f_X9_rings (tpi (tpi M 250 4 ((tgi M 250 4) + 1)) 250 5 ((tgi (tpi M 250 4 ((tgi M 250 4) + 1)) 250 5) + 1)) 10) 102 x1) x1 1) + 1)) x1 1 0) 250 0) + 30)) 25) 108 x1) ∧ True)))) ∧ (¬ (f_X9_ofHolder (f_X9_setsHolder (f_X9_happens (f_X9_rings (tpi (tpi M 250 4 ((tgi M 250 4) + 1)) 250 5 ((tgi (tpi M 250 4 ((tgi M 250 4) + 1)) 250 5) + 1)) 10) 102 x1) x1 1 ((f_X9_ofHolder (f_X9_happens (f_X9_rings (tpi (tpi M 250 4 ((tgi M 250 4) + 1)) 250 5 ((tgi (tpi M 250 4 ((tgi M 250 4) + 1)) 250 5) + 1)) 10) 102 x1) x1 1) + 1)) x1 1) = 3 → True)))))))))
theorem m_X9_isWrong (G : tvG) (M : tvM) (x1 : Int32) (x2 : Int32) (hq : q_X9_isWrong M x1 x2) : tvRun G yX9_isWrong cX9_isWrong 3 (some .boolean) 2 0 0 tvP0 tvP0 [.ref (G.2.1 + 249), .int x1, .int x2] M (.inl (some (.int (f_X9_isWrong M x1 x2).1))) ((f_X9_isWrong M x1 x2).2) := by
  refine tvRun.of yk_X9_isWrong rfl [some (.ref (G.2.1 + 249)), some (.int x1), some (.int x2)] rfl (Nat.le_of_ble_eq_true rfl) ?_
  intro E hG C hQ; subst hG
  refine tv_aload_n C dk_X9_isWrong_0 rfl ?_
  refine tv_getR (r := 250) C dk_X9_isWrong_1 fl_RX9_9 (Nat.le_of_ble_eq_true rfl) rfl rfl (fun _ _ _ _ => rfl) ?_
  refine tv_iconst (v := 4) C dk_X9_isWrong_4 (by decide) ?_
  refine tv_dup2 C dk_X9_isWrong_5 rfl rfl ?_
  refine tv_iald (j := 4) rfl C dk_X9_isWrong_6 (Nat.le_of_ble_eq_true rfl) rfl (vp_in_nI (n := 4) (by decide) (by decide)) ?_
  refine tv_iconst (v := 1) C dk_X9_isWrong_7 (by decide) ?_
  refine tv_iadd C dk_X9_isWrong_8 ?_
  refine tv_iast (j := 4) rfl C tvP0_ex dk_X9_isWrong_9 (Nat.le_of_ble_eq_true rfl) rfl (vp_in_nI (n := 4) (by decide) (by decide)) ?_
  refine tv_aload_n C dk_X9_isWrong_10 rfl ?_
  refine tv_iload_n C dk_X9_isWrong_11 rfl ?_
  refine tv_iconst (v := 0) C dk_X9_isWrong_12 (by decide) ?_
  have q1 := hq.2
  refine tv_cV1 C dk_X9_isWrong_13 ml_RX9_59 yk_X9_ofHolder yi_X9_ofHolder (m_X9_ofHolder _ (tpi M 250 4 ((tgi M 250 4) + 1)) x1 0 hq.1) (Nat.le_of_ble_eq_true rfl) rfl rfl rfl rfl (Nat.le_of_ble_eq_true rfl) (Nat.le_of_ble_eq_true rfl) (Nat.le_of_ble_eq_true rfl) (Nat.le_of_ble_eq_true rfl) (Nat.le_of_ble_eq_true rfl) ?_
  refine tv_iload_n C dk_X9_isWrong_16 rfl ?_
  refine tv_icmp_ne C dk_X9_isWrong_17 (fun h1 => ?_) (fun h1 => ?_)
  · have q2 := q1.2 h1
    refine tv_aload_n C dk_X9_isWrong_29 rfl ?_
    refine tv_getR (r := 250) C dk_X9_isWrong_30 fl_RX9_9 (Nat.le_of_ble_eq_true rfl) rfl rfl (fun _ _ _ _ => rfl) ?_
    refine tv_iconst (v := 5) C dk_X9_isWrong_33 (by decide) ?_
    refine tv_dup2 C dk_X9_isWrong_34 rfl rfl ?_
    refine tv_iald (j := 5) rfl C dk_X9_isWrong_35 (Nat.le_of_ble_eq_true rfl) rfl (vp_in_nI (n := 5) (by decide) (by decide)) ?_
    refine tv_iconst (v := 1) C dk_X9_isWrong_36 (by decide) ?_
    refine tv_iadd C dk_X9_isWrong_37 ?_
    refine tv_iast (j := 5) rfl C tvP0_ex dk_X9_isWrong_38 (Nat.le_of_ble_eq_true rfl) rfl (vp_in_nI (n := 5) (by decide) (by decide)) ?_
    refine tv_aload_n C dk_X9_isWrong_39 rfl ?_
    refine tv_bipush (v := 10) C dk_X9_isWrong_40 (by decide) ?_
    refine tv_cV0 C dk_X9_isWrong_42 ml_RX9_94 yk_X9_rings yi_X9_rings (m_X9_rings _ (tpi (tpi M 250 4 ((tgi M 250 4) + 1)) 250 5 ((tgi (tpi M 250 4 ((tgi M 250 4) + 1)) 250 5) + 1)) 10) (Nat.le_of_ble_eq_true rfl) rfl rfl rfl rfl (Nat.le_of_ble_eq_true rfl) (Nat.le_of_ble_eq_true rfl) (Nat.le_of_ble_eq_true rfl) (Nat.le_of_ble_eq_true rfl) (Nat.le_of_ble_eq_true rfl) ?_
    refine tv_aload_n C dk_X9_isWrong_45 rfl ?_
    refine tv_bipush (v := 102) C dk_X9_isWrong_46 (by decide) ?_
    refine tv_iload_n C dk_X9_isWrong_48 rfl ?_
    have q3 := q2.2
    refine tv_cV0 C dk_X9_isWrong_49 ml_RX9_98 yk_X9_happens yi_X9_happens (n_X9_happens _ (f_X9_rings (tpi (tpi M 250 4 ((tgi M 250 4) + 1)) 250 5 ((tgi (tpi M 250 4 ((tgi M 250 4) + 1)) 250 5) + 1)) 10) 102 x1 q2.1) (Nat.le_of_ble_eq_true rfl) rfl rfl rfl rfl (Nat.le_of_ble_eq_true rfl) (Nat.le_of_ble_eq_true rfl) (Nat.le_of_ble_eq_true rfl) (Nat.le_of_ble_eq_true rfl) (Nat.le_of_ble_eq_true rfl) ?_
    refine tv_aload_n C dk_X9_isWrong_52 rfl ?_
    refine tv_iload_n C dk_X9_isWrong_53 rfl ?_
    refine tv_iconst (v := 1) C dk_X9_isWrong_54 (by decide) ?_
    refine tv_aload_n C dk_X9_isWrong_55 rfl ?_
    refine tv_iload_n C dk_X9_isWrong_56 rfl ?_
    refine tv_iconst (v := 1) C dk_X9_isWrong_57 (by decide) ?_
    have q4 := q3.2
    refine tv_cV1 C dk_X9_isWrong_58 ml_RX9_59 yk_X9_ofHolder yi_X9_ofHolder (m_X9_ofHolder _ (f_X9_happens (f_X9_rings (tpi (tpi M 250 4 ((tgi M 250 4) + 1)) 250 5 ((tgi (tpi M 250 4 ((tgi M 250 4) + 1)) 250 5) + 1)) 10) 102 x1) x1 1 q3.1) (Nat.le_of_ble_eq_true rfl) rfl rfl rfl rfl (Nat.le_of_ble_eq_true rfl) (Nat.le_of_ble_eq_true rfl) (Nat.le_of_ble_eq_true rfl) (Nat.le_of_ble_eq_true rfl) (Nat.le_of_ble_eq_true rfl) ?_
    refine tv_iconst (v := 1) C dk_X9_isWrong_61 (by decide) ?_
    refine tv_iadd C dk_X9_isWrong_62 ?_
    have q5 := q4.2
    refine tv_cV0 C dk_X9_isWrong_63 ml_RX9_66 yk_X9_setsHolder yi_X9_setsHolder (m_X9_setsHolder _ (f_X9_happens (f_X9_rings (tpi (tpi M 250 4 ((tgi M 250 4) + 1)) 250 5 ((tgi (tpi M 250 4 ((tgi M 250 4) + 1)) 250 5) + 1)) 10) 102 x1) x1 1 ((f_X9_ofHolder (f_X9_happens (f_X9_rings (tpi (tpi M 250 4 ((tgi M 250 4) + 1)) 250 5 ((tgi (tpi M 250 4 ((tgi M 250 4) + 1)) 250 5) + 1)) 10) 102 x1) x1 1) + 1) q4.1) (Nat.le_of_ble_eq_true rfl) rfl rfl rfl rfl (Nat.le_of_ble_eq_true rfl) (Nat.le_of_ble_eq_true rfl) (Nat.le_of_ble_eq_true rfl) (Nat.le_of_ble_eq_true rfl) (Nat.le_of_ble_eq_true rfl) ?_
    refine tv_aload_n C dk_X9_isWrong_66 rfl ?_
    refine tv_iload_n C dk_X9_isWrong_67 rfl ?_
    refine tv_iconst (v := 1) C dk_X9_isWrong_68 (by decide) ?_
    have q6 := q5.2
    refine tv_cV1 C dk_X9_isWrong_69 ml_RX9_59 yk_X9_ofHolder yi_X9_ofHolder (m_X9_ofHolder _ (f_X9_setsHolder (f_X9_happens (f_X9_rings (tpi (tpi M 250 4 ((tgi M 250 4) + 1)) 250 5 ((tgi (tpi M 250 4 ((tgi M 250 4) + 1)) 250 5) + 1)) 10) 102 x1) x1 1 ((f_X9_ofHolder (f_X9_happens (f_X9_rings (tpi (tpi M 250 4 ((tgi M 250 4) + 1)) 250 5 ((tgi (tpi M 250 4 ((tgi M 250 4) + 1)) 250 5) + 1)) 10) 102 x1) x1 1) + 1)) x1 1 q5.1) (Nat.le_of_ble_eq_true rfl) rfl rfl rfl rfl (Nat.le_of_ble_eq_true rfl) (Nat.le_of_ble_eq_true rfl) (Nat.le_of_ble_eq_true rfl) (Nat.le_of_ble_eq_true rfl) (Nat.le_of_ble_eq_true rfl) ?_
    refine tv_iconst (v := 3) C dk_X9_isWrong_72 (by decide) ?_
    refine tv_icmp_ne C dk_X9_isWrong_73 (fun h2 => ?_) (fun h2 => ?_)
    · have q7 := q6.2 h2
      refine tv_iconst (v := 1) C dk_X9_isWrong_111 (by decide) ?_
      exact tv_iret C hQ dk_X9_isWrong_112 rfl (by rw [f_X9_isWrong, if_neg h1, if_neg h2]) (by rw [f_X9_isWrong, if_neg h1, if_neg h2])
    have q8 := q6.1 h2
    refine tv_aload_n C dk_X9_isWrong_76 rfl ?_
    refine tv_iload_n C dk_X9_isWrong_77 rfl ?_
    refine tv_iconst (v := 1) C dk_X9_isWrong_78 (by decide) ?_
    refine tv_iconst (v := 0) C dk_X9_isWrong_79 (by decide) ?_
    have q9 := q8.2
    refine tv_cV0 C dk_X9_isWrong_80 ml_RX9_66 yk_X9_setsHolder yi_X9_setsHolder (m_X9_setsHolder _ (f_X9_setsHolder (f_X9_happens (f_X9_rings (tpi (tpi M 250 4 ((tgi M 250 4) + 1)) 250 5 ((tgi (tpi M 250 4 ((tgi M 250 4) + 1)) 250 5) + 1)) 10) 102 x1) x1 1 ((f_X9_ofHolder (f_X9_happens (f_X9_rings (tpi (tpi M 250 4 ((tgi M 250 4) + 1)) 250 5 ((tgi (tpi M 250 4 ((tgi M 250 4) + 1)) 250 5) + 1)) 10) 102 x1) x1 1) + 1)) x1 1 0 q8.1) (Nat.le_of_ble_eq_true rfl) rfl rfl rfl rfl (Nat.le_of_ble_eq_true rfl) (Nat.le_of_ble_eq_true rfl) (Nat.le_of_ble_eq_true rfl) (Nat.le_of_ble_eq_true rfl) (Nat.le_of_ble_eq_true rfl) ?_
    refine tv_aload_n C dk_X9_isWrong_83 rfl ?_
    refine tv_iload_n C dk_X9_isWrong_84 rfl ?_
    refine tv_iconst (v := 2) C dk_X9_isWrong_85 (by decide) ?_
    refine tv_aload_n C dk_X9_isWrong_86 rfl ?_
    refine tv_getR (r := 250) C dk_X9_isWrong_87 fl_RX9_9 (Nat.le_of_ble_eq_true rfl) rfl rfl (fun _ _ _ _ => rfl) ?_
    refine tv_iconst (v := 0) C dk_X9_isWrong_90 (by decide) ?_
    refine tv_iald (j := 0) rfl C dk_X9_isWrong_91 (Nat.le_of_ble_eq_true rfl) rfl (vp_in_nI (n := 0) (by decide) (by decide)) ?_
    refine tv_bipush (v := 30) C dk_X9_isWrong_92 (by decide) ?_
    refine tv_iadd C dk_X9_isWrong_94 ?_
    have q10 := q9.2
    refine tv_cV0 C dk_X9_isWrong_95 ml_RX9_66 yk_X9_setsHolder yi_X9_setsHolder (m_X9_setsHolder _ (f_X9_setsHolder (f_X9_setsHolder (f_X9_happens (f_X9_rings (tpi (tpi M 250 4 ((tgi M 250 4) + 1)) 250 5 ((tgi (tpi M 250 4 ((tgi M 250 4) + 1)) 250 5) + 1)) 10) 102 x1) x1 1 ((f_X9_ofHolder (f_X9_happens (f_X9_rings (tpi (tpi M 250 4 ((tgi M 250 4) + 1)) 250 5 ((tgi (tpi M 250 4 ((tgi M 250 4) + 1)) 250 5) + 1)) 10) 102 x1) x1 1) + 1)) x1 1 0) x1 2 ((tgi (f_X9_setsHolder (f_X9_setsHolder (f_X9_happens (f_X9_rings (tpi (tpi M 250 4 ((tgi M 250 4) + 1)) 250 5 ((tgi (tpi M 250 4 ((tgi M 250 4) + 1)) 250 5) + 1)) 10) 102 x1) x1 1 ((f_X9_ofHolder (f_X9_happens (f_X9_rings (tpi (tpi M 250 4 ((tgi M 250 4) + 1)) 250 5 ((tgi (tpi M 250 4 ((tgi M 250 4) + 1)) 250 5) + 1)) 10) 102 x1) x1 1) + 1)) x1 1 0) 250 0) + 30) q9.1) (Nat.le_of_ble_eq_true rfl) rfl rfl rfl rfl (Nat.le_of_ble_eq_true rfl) (Nat.le_of_ble_eq_true rfl) (Nat.le_of_ble_eq_true rfl) (Nat.le_of_ble_eq_true rfl) (Nat.le_of_ble_eq_true rfl) ?_
    refine tv_aload_n C dk_X9_isWrong_98 rfl ?_
    refine tv_bipush (v := 25) C dk_X9_isWrong_99 (by decide) ?_
    refine tv_cV0 C dk_X9_isWrong_101 ml_RX9_94 yk_X9_rings yi_X9_rings (m_X9_rings _ (f_X9_setsHolder (f_X9_setsHolder (f_X9_setsHolder (f_X9_happens (f_X9_rings (tpi (tpi M 250 4 ((tgi M 250 4) + 1)) 250 5 ((tgi (tpi M 250 4 ((tgi M 250 4) + 1)) 250 5) + 1)) 10) 102 x1) x1 1 ((f_X9_ofHolder (f_X9_happens (f_X9_rings (tpi (tpi M 250 4 ((tgi M 250 4) + 1)) 250 5 ((tgi (tpi M 250 4 ((tgi M 250 4) + 1)) 250 5) + 1)) 10) 102 x1) x1 1) + 1)) x1 1 0) x1 2 ((tgi (f_X9_setsHolder (f_X9_setsHolder (f_X9_happens (f_X9_rings (tpi (tpi M 250 4 ((tgi M 250 4) + 1)) 250 5 ((tgi (tpi M 250 4 ((tgi M 250 4) + 1)) 250 5) + 1)) 10) 102 x1) x1 1 ((f_X9_ofHolder (f_X9_happens (f_X9_rings (tpi (tpi M 250 4 ((tgi M 250 4) + 1)) 250 5 ((tgi (tpi M 250 4 ((tgi M 250 4) + 1)) 250 5) + 1)) 10) 102 x1) x1 1) + 1)) x1 1 0) 250 0) + 30)) 25) (Nat.le_of_ble_eq_true rfl) rfl rfl rfl rfl (Nat.le_of_ble_eq_true rfl) (Nat.le_of_ble_eq_true rfl) (Nat.le_of_ble_eq_true rfl) (Nat.le_of_ble_eq_true rfl) (Nat.le_of_ble_eq_true rfl) ?_
    refine tv_aload_n C dk_X9_isWrong_104 rfl ?_
    refine tv_bipush (v := 108) C dk_X9_isWrong_105 (by decide) ?_
    refine tv_iload_n C dk_X9_isWrong_107 rfl ?_
    have q11 := q10.2
    refine tv_cV0 C dk_X9_isWrong_108 ml_RX9_98 yk_X9_happens yi_X9_happens (n_X9_happens _ (f_X9_rings (f_X9_setsHolder (f_X9_setsHolder (f_X9_setsHolder (f_X9_happens (f_X9_rings (tpi (tpi M 250 4 ((tgi M 250 4) + 1)) 250 5 ((tgi (tpi M 250 4 ((tgi M 250 4) + 1)) 250 5) + 1)) 10) 102 x1) x1 1 ((f_X9_ofHolder (f_X9_happens (f_X9_rings (tpi (tpi M 250 4 ((tgi M 250 4) + 1)) 250 5 ((tgi (tpi M 250 4 ((tgi M 250 4) + 1)) 250 5) + 1)) 10) 102 x1) x1 1) + 1)) x1 1 0) x1 2 ((tgi (f_X9_setsHolder (f_X9_setsHolder (f_X9_happens (f_X9_rings (tpi (tpi M 250 4 ((tgi M 250 4) + 1)) 250 5 ((tgi (tpi M 250 4 ((tgi M 250 4) + 1)) 250 5) + 1)) 10) 102 x1) x1 1 ((f_X9_ofHolder (f_X9_happens (f_X9_rings (tpi (tpi M 250 4 ((tgi M 250 4) + 1)) 250 5 ((tgi (tpi M 250 4 ((tgi M 250 4) + 1)) 250 5) + 1)) 10) 102 x1) x1 1) + 1)) x1 1 0) 250 0) + 30)) 25) 108 x1 q10.1) (Nat.le_of_ble_eq_true rfl) rfl rfl rfl rfl (Nat.le_of_ble_eq_true rfl) (Nat.le_of_ble_eq_true rfl) (Nat.le_of_ble_eq_true rfl) (Nat.le_of_ble_eq_true rfl) (Nat.le_of_ble_eq_true rfl) ?_
    refine tv_iconst (v := 1) C dk_X9_isWrong_111 (by decide) ?_
    exact tv_iret C hQ dk_X9_isWrong_112 rfl (by rw [f_X9_isWrong, if_neg h1, if_pos h2]) (by rw [f_X9_isWrong, if_neg h1, if_pos h2])
  have q12 := q1.1 h1
  refine tv_aload_n C dk_X9_isWrong_20 rfl ?_
  refine tv_iload_n C dk_X9_isWrong_21 rfl ?_
  refine tv_iconst (v := 1) C dk_X9_isWrong_22 (by decide) ?_
  refine tv_iconst (v := 0) C dk_X9_isWrong_23 (by decide) ?_
  have q13 := q12.2
  refine tv_cV0 C dk_X9_isWrong_24 ml_RX9_66 yk_X9_setsHolder yi_X9_setsHolder (m_X9_setsHolder _ (tpi M 250 4 ((tgi M 250 4) + 1)) x1 1 0 q12.1) (Nat.le_of_ble_eq_true rfl) rfl rfl rfl rfl (Nat.le_of_ble_eq_true rfl) (Nat.le_of_ble_eq_true rfl) (Nat.le_of_ble_eq_true rfl) (Nat.le_of_ble_eq_true rfl) (Nat.le_of_ble_eq_true rfl) ?_
  refine tv_iconst (v := 0) C dk_X9_isWrong_27 (by decide) ?_
  exact tv_iret C hQ dk_X9_isWrong_28 rfl (by rw [f_X9_isWrong, if_pos h1]) (by rw [f_X9_isWrong, if_pos h1])
theorem fz_X9_isWrong {M : tvM} {x1 : Int32} {x2 : Int32} : narrow .boolean (.int (f_X9_isWrong M x1 x2).1) = .int ((f_X9_isWrong M x1 x2).1) := by
  unfold f_X9_isWrong; repeat' split
  all_goals try dsimp only
  all_goals first | rfl
/-- TideVaultModel.opens(I)V -/
def f_X9_opens (M : tvM) (x1 : Int32) : tvM := (f_X9_happens (tpi (f_X9_sets (f_X9_sets M x1 3 3) x1 5 (tgi (f_X9_sets M x1 3 3) 250 0)) 250 8 ((tgi (f_X9_sets (f_X9_sets M x1 3 3) x1 5 (tgi (f_X9_sets M x1 3 3) 250 0)) 250 8) + 1)) 111 x1)
def q_X9_opens (M : tvM) (x1 : Int32) : Prop := ((q_X9_sets M x1 3 3) ∧ ((q_X9_sets (f_X9_sets M x1 3 3) x1 5 (tgi (f_X9_sets M x1 3 3) 250 0)) ∧ ((q_X9_happens (tpi (f_X9_sets (f_X9_sets M x1 3 3) x1 5 (tgi (f_X9_sets M x1 3 3) 250 0)) 250 8 ((tgi (f_X9_sets (f_X9_sets M x1 3 3) x1 5 (tgi (f_X9_sets M x1 3 3) 250 0)) 250 8) + 1)) 111 x1) ∧ True)))
theorem m_X9_opens (G : tvG) (M : tvM) (x1 : Int32) (hq : q_X9_opens M x1) : tvRun G yX9_opens cX9_opens 2 none 2 0 0 tvP0 tvP0 [.ref (G.2.1 + 249), .int x1] M (.inl none) (f_X9_opens M x1) := by
  refine tvRun.of yk_X9_opens rfl [some (.ref (G.2.1 + 249)), some (.int x1)] rfl (Nat.le_of_ble_eq_true rfl) ?_
  intro E hG C hQ; subst hG
  refine tv_aload_n C dk_X9_opens_0 rfl ?_
  refine tv_iload_n C dk_X9_opens_1 rfl ?_
  refine tv_iconst (v := 3) C dk_X9_opens_2 (by decide) ?_
  refine tv_iconst (v := 3) C dk_X9_opens_3 (by decide) ?_
  have q1 := hq.2
  refine tv_cV0 C dk_X9_opens_4 ml_RX9_84 yk_X9_sets yi_X9_sets (m_X9_sets _ M x1 3 3 hq.1) (Nat.le_of_ble_eq_true rfl) rfl rfl rfl rfl (Nat.le_of_ble_eq_true rfl) (Nat.le_of_ble_eq_true rfl) (Nat.le_of_ble_eq_true rfl) (Nat.le_of_ble_eq_true rfl) (Nat.le_of_ble_eq_true rfl) ?_
  refine tv_aload_n C dk_X9_opens_7 rfl ?_
  refine tv_iload_n C dk_X9_opens_8 rfl ?_
  refine tv_iconst (v := 5) C dk_X9_opens_9 (by decide) ?_
  refine tv_aload_n C dk_X9_opens_10 rfl ?_
  refine tv_getR (r := 250) C dk_X9_opens_11 fl_RX9_9 (Nat.le_of_ble_eq_true rfl) rfl rfl (fun _ _ _ _ => rfl) ?_
  refine tv_iconst (v := 0) C dk_X9_opens_14 (by decide) ?_
  refine tv_iald (j := 0) rfl C dk_X9_opens_15 (Nat.le_of_ble_eq_true rfl) rfl (vp_in_nI (n := 0) (by decide) (by decide)) ?_
  have q2 := q1.2
  refine tv_cV0 C dk_X9_opens_16 ml_RX9_84 yk_X9_sets yi_X9_sets (m_X9_sets _ (f_X9_sets M x1 3 3) x1 5 (tgi (f_X9_sets M x1 3 3) 250 0) q1.1) (Nat.le_of_ble_eq_true rfl) rfl rfl rfl rfl (Nat.le_of_ble_eq_true rfl) (Nat.le_of_ble_eq_true rfl) (Nat.le_of_ble_eq_true rfl) (Nat.le_of_ble_eq_true rfl) (Nat.le_of_ble_eq_true rfl) ?_
  refine tv_aload_n C dk_X9_opens_19 rfl ?_
  refine tv_getR (r := 250) C dk_X9_opens_20 fl_RX9_9 (Nat.le_of_ble_eq_true rfl) rfl rfl (fun _ _ _ _ => rfl) ?_
  refine tv_bipush (v := 8) C dk_X9_opens_23 (by decide) ?_
  refine tv_dup2 C dk_X9_opens_25 rfl rfl ?_
  refine tv_iald (j := 8) rfl C dk_X9_opens_26 (Nat.le_of_ble_eq_true rfl) rfl (vp_in_nI (n := 8) (by decide) (by decide)) ?_
  refine tv_iconst (v := 1) C dk_X9_opens_27 (by decide) ?_
  refine tv_iadd C dk_X9_opens_28 ?_
  refine tv_iast (j := 8) rfl C tvP0_ex dk_X9_opens_29 (Nat.le_of_ble_eq_true rfl) rfl (vp_in_nI (n := 8) (by decide) (by decide)) ?_
  refine tv_aload_n C dk_X9_opens_30 rfl ?_
  refine tv_bipush (v := 111) C dk_X9_opens_31 (by decide) ?_
  refine tv_iload_n C dk_X9_opens_33 rfl ?_
  have q3 := q2.2
  refine tv_cV0 C dk_X9_opens_34 ml_RX9_98 yk_X9_happens yi_X9_happens (n_X9_happens _ (tpi (f_X9_sets (f_X9_sets M x1 3 3) x1 5 (tgi (f_X9_sets M x1 3 3) 250 0)) 250 8 ((tgi (f_X9_sets (f_X9_sets M x1 3 3) x1 5 (tgi (f_X9_sets M x1 3 3) 250 0)) 250 8) + 1)) 111 x1 q2.1) (Nat.le_of_ble_eq_true rfl) rfl rfl rfl rfl (Nat.le_of_ble_eq_true rfl) (Nat.le_of_ble_eq_true rfl) (Nat.le_of_ble_eq_true rfl) (Nat.le_of_ble_eq_true rfl) (Nat.le_of_ble_eq_true rfl) ?_
  exact tv_vret C hQ dk_X9_opens_37 rfl (by rw [f_X9_opens])
