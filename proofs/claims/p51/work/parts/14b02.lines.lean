def tvWb (M : tvM) (x1 : Int32) : Nat → tvM
  | 0 => M
  | i + 1 => if nI i ≤ 0 then f_X3_addNumber (tvWb M x1 i) (f_X0_valueOf (tvWb M x1 i) 1 x1 (nI i)) else f_X3_addNumber (f_X3_add (tvWb M x1 i) 44) (f_X0_valueOf (f_X3_add (tvWb M x1 i) 44) 1 x1 (nI i))
theorem tvWb_at (M : tvM) (x1 : Int32) (i : Nat) {a k : Nat} (h : a ≠ 247) (h2 : a ≠ 248) : tgi (tvWb M x1 i) a k = tgi M a k := by
  induction i with
  | zero => rfl
  | succ i ih =>
    rw [tvWb]
    split <;> simp only [f_X3_addNumber_at h h2, f_X3_add_at h h2, ih]
def tvWb0 (M : tvM) (x1 : Int32) : tvM := f_X3_add (f_X3_add (f_X3_addNumber (f_X3_empty M) x1) (f_X0_statusOf (f_X3_addNumber (f_X3_empty M) x1) 1 x1)) 58
def tvWbM (M : tvM) (x1 : Int32) : tvM := tvWb (tvWb0 M x1) x1 (f_X0_pearlsIn M 1 x1).toNatClampNeg
def f_X8_writeBox (M : tvM) (x1 : Int32) : Option String × Int32 × tvM := if (f_X8_refuse M (f_X8_refusalOfBoxNumber M x1)).1 = none then (none, tgi (tvWbM M x1) 247 1, tvWbM M x1) else ((f_X8_refuse M (f_X8_refusalOfBoxNumber M x1)).1, 0, M)
theorem r_X8_writeBox (M : tvM) (x1 : Int32) : ∃ n, tvIter (s_X8_writeBox x1) n (e_X8_writeBox M x1) = some (f_X8_writeBox M x1) := by
  unfold e_X8_writeBox f_X8_writeBox
  split
  · have hz : ∀ {a k : Nat}, a ≠ 247 → a ≠ 248 → tgi (tvWb0 M x1) a k = tgi M a k := fun h h2 => by unfold tvWb0; simp only [f_X3_add_at h h2, f_X3_addNumber_at h h2, f_X3_empty_at h]
    have h0 : ∀ i, f_X0_pearlsIn (tvWb (tvWb0 M x1) x1 i) 1 x1 = f_X0_pearlsIn M 1 x1 := fun i => f_X0_pearlsIn_of (fun k => by rw [tvWb_at _ _ _ (by decide) (by decide), hz (by decide) (by decide)]) (fun k => by rw [tvWb_at _ _ _ (by decide) (by decide), hz (by decide) (by decide)])
    refine tvIter_for (s_X8_writeBox x1) (fun i => (nI i, tvWb (tvWb0 M x1) x1 i)) (f_X0_pearlsIn M 1 x1).toNatClampNeg _ (fun i hi => ?_) ?_
    · have h1 : ¬ f_X0_pearlsIn (tvWb (tvWb0 M x1) x1 i) 1 x1 ≤ nI i := by rw [h0]; exact tv_nle hi
      simp only [s_X8_writeBox, sb_X8_writeBox, if_neg h1, tvWb, nI_1]
      split <;> rfl
    · have h1 : f_X0_pearlsIn (tvWb (tvWb0 M x1) x1 (f_X0_pearlsIn M 1 x1).toNatClampNeg) 1 x1 ≤ nI (f_X0_pearlsIn M 1 x1).toNatClampNeg := by rw [h0]; exact tv_le
      simp only [s_X8_writeBox, sb_X8_writeBox, if_pos h1, tvWbM]
  · exact ⟨0, rfl⟩
theorem n_X8_writeBox (G : tvG) (M : tvM) (x1 : Int32) : tvRun G yX8_writeBox cX8_writeBox 3 (some .int) 7 1 6 tvP0 tvP0 [.ref (G.2.1 + 0), .int x1] M (tvOx (some (.int (f_X8_writeBox M x1).2.1)) (f_X8_writeBox M x1).1) ((f_X8_writeBox M x1).2.2) := by
  obtain ⟨n, hn⟩ := r_X8_writeBox M x1 
  exact m_X8_writeBox G M x1 n _ hn
/-- TideVault.doOpeningsAgree()Z -/
def sb_X8_doOpeningsAgree (j : Nat) (y1 : Int32) (y2 : Int32) (y3 : Int32) (M : tvM) : (Nat × Int32 × Int32 × Int32 × tvM) ⊕ (Int32 × tvM) := (if j = 0 then (if y1 ≤ 0 then (if y1 = 0 then .inr (1, M) else .inr (0, M)) else (if 3840 < y2 then (if y1 = 0 then .inr (1, M) else .inr (0, M)) else (if (f_X6_minute M 21).1 ≤ 0 then .inl (0, y1, (y2 + 1), 0, (f_X6_minute M 21).2) else .inl (1, y1, y2, 0, (f_X6_minute M 21).2)))) else (if (tgi M (1 + 6) 0) ≤ y3 then .inl (0, y1, (y2 + 1), 0, M) else (if (f_X6_hasJustOpened M 21 y3) = 0 then .inl (1, y1, y2, (y3 + 1), M) else (if (f_X6_searchOpening M 1 y3) = y2 then .inl (1, (y1 + (-1)), y2, (y3 + 1), M) else .inr (0, M)))))
def s_X8_doOpeningsAgree : (Nat × Int32 × Int32 × Int32 × tvM) → (Nat × Int32 × Int32 × Int32 × tvM) ⊕ (Int32 × tvM) := fun q => sb_X8_doOpeningsAgree q.1 q.2.1 q.2.2.1 q.2.2.2.1 q.2.2.2.2
def e_X8_doOpeningsAgree (M : tvM) : (Nat × Int32 × Int32 × Int32 × tvM) ⊕ (Int32 × tvM) := .inl (0, (f_X0_countIn (f_X6_copyFrom M 21 1) 1 112), 1, 0, (f_X6_copyFrom M 21 1))
theorem m_X8_doOpeningsAgree (G : tvG) (M : tvM) (n : Nat) (r : (Int32 × tvM)) (hs : tvIter (s_X8_doOpeningsAgree) n (e_X8_doOpeningsAgree M) = some r) : tvRun G yX8_doOpeningsAgree cX8_doOpeningsAgree 4 (some .boolean) 5 0 0 tvP0 tvP0 [.ref (G.2.1 + 0)] M (.inl (some (.int r.1))) r.2 := by
  refine tvRun.of yk_X8_doOpeningsAgree rfl [some (.ref (G.2.1 + 0)), none, none, none] rfl (Nat.le_of_ble_eq_true rfl) ?_
  intro E hG C hQ; subst hG
  have K : ∀ (n : Nat) (j : Nat) (y1 : Int32) (y2 : Int32) (y3 : Int32) (M : tvM), tvIter (s_X8_doOpeningsAgree) n (.inl (j, y1, y2, y3, M)) = some r → (j = 0 → tv_W E tvP0 0 0 M 26 [some (.ref (E.G.2.1 + 0)), some (.int y1), some (.int y2), none] []) ∧ (j = 1 → tv_W E tvP0 0 0 M 49 [some (.ref (E.G.2.1 + 0)), some (.int y1), some (.int y2), some (.int y3)] []) := by
    intro n
    induction n with
    | zero => intro j y1 y2 y3 M hq; exact (tvIter_0 hq).elim
    | succ n ih =>
      intro j y1 y2 y3 M hq
      refine ⟨fun hj => ?_, fun hj => ?_⟩
      · have hj : j = 0 := hj; subst hj
        have hs : tvIter (s_X8_doOpeningsAgree) n (sb_X8_doOpeningsAgree (0 : Nat) y1 y2 y3 M) = some r := by have h9 := tvIter_go hq; exact h9
        refine tv_iload_n C dk_X8_doOpeningsAgree_26 rfl ?_
        refine tv_if_le C dk_X8_doOpeningsAgree_27 (fun h101 => ?_) (fun h101 => ?_)
        · refine tv_iload_n C dk_X8_doOpeningsAgree_103 rfl ?_
          refine tv_if_ne C dk_X8_doOpeningsAgree_104 (fun h102 => ?_) (fun h102 => ?_)
          · refine tv_iconst (v := 0) C dk_X8_doOpeningsAgree_111 (by decide) ?_
            exact tv_iret C hQ dk_X8_doOpeningsAgree_112 rfl (by rw [sb_X8_doOpeningsAgree, if_pos rfl, if_pos h101, if_neg h102] at hs; rw [← tvIter_out hs]) (by rw [sb_X8_doOpeningsAgree, if_pos rfl, if_pos h101, if_neg h102] at hs; rw [← tvIter_out hs])
          refine tv_iconst (v := 1) C dk_X8_doOpeningsAgree_107 (by decide) ?_
          refine tv_goto C dk_X8_doOpeningsAgree_108 ?_
          exact tv_iret C hQ dk_X8_doOpeningsAgree_112 rfl (by rw [sb_X8_doOpeningsAgree, if_pos rfl, if_pos h101, if_pos h102] at hs; rw [← tvIter_out hs]) (by rw [sb_X8_doOpeningsAgree, if_pos rfl, if_pos h101, if_pos h102] at hs; rw [← tvIter_out hs])
        refine tv_iload_n C dk_X8_doOpeningsAgree_30 rfl ?_
        refine tv_sipush (v := 3840) C dk_X8_doOpeningsAgree_31 (by decide) ?_
        refine tv_icmp_gt C dk_X8_doOpeningsAgree_34 (fun h103 => ?_) (fun h103 => ?_)
        · refine tv_iload_n C dk_X8_doOpeningsAgree_103 rfl ?_
          refine tv_if_ne C dk_X8_doOpeningsAgree_104 (fun h104 => ?_) (fun h104 => ?_)
          · refine tv_iconst (v := 0) C dk_X8_doOpeningsAgree_111 (by decide) ?_
            exact tv_iret C hQ dk_X8_doOpeningsAgree_112 rfl (by rw [sb_X8_doOpeningsAgree, if_pos rfl, if_neg h101, if_pos h103, if_neg h104] at hs; rw [← tvIter_out hs]) (by rw [sb_X8_doOpeningsAgree, if_pos rfl, if_neg h101, if_pos h103, if_neg h104] at hs; rw [← tvIter_out hs])
          refine tv_iconst (v := 1) C dk_X8_doOpeningsAgree_107 (by decide) ?_
          refine tv_goto C dk_X8_doOpeningsAgree_108 ?_
          exact tv_iret C hQ dk_X8_doOpeningsAgree_112 rfl (by rw [sb_X8_doOpeningsAgree, if_pos rfl, if_neg h101, if_pos h103, if_pos h104] at hs; rw [← tvIter_out hs]) (by rw [sb_X8_doOpeningsAgree, if_pos rfl, if_neg h101, if_pos h103, if_pos h104] at hs; rw [← tvIter_out hs])
        refine tv_aload_n C dk_X8_doOpeningsAgree_37 rfl ?_
        refine tv_getR (r := 21) C dk_X8_doOpeningsAgree_38 fl_RX8_16 (Nat.le_of_ble_eq_true rfl) rfl rfl (fun _ _ _ _ => rfl) ?_
        refine tv_cV1 C dk_X8_doOpeningsAgree_41 ml_RX8_389 yk_X6_minute yi_X6_minute (n_X6_minute _ M tvSBn_21) (tvSB_sh tvSBn_21 0 (by decide)).2 (tvSB_sh tvSBn_21 0 (by decide)).1 rfl rfl rfl (Nat.le_of_ble_eq_true rfl) (Nat.le_of_ble_eq_true rfl) (Nat.le_of_ble_eq_true rfl) (Nat.le_of_ble_eq_true rfl) (Nat.le_of_ble_eq_true rfl) ?_
        refine tv_if_le C dk_X8_doOpeningsAgree_44 (fun h105 => ?_) (fun h105 => ?_)
        · refine tv_iinc (v := (y2 + 1)) (L' := [_, _, _, _]) (hn := by decide) (hlt := (Nat.le_of_ble_eq_true rfl)) (hno := rfl) C dk_X8_doOpeningsAgree_97 rfl rfl rfl ?_
          refine tv_goto C dk_X8_doOpeningsAgree_100 ?_
          exact (ih 0 y1 (y2 + 1) 0 ((f_X6_minute M 21).2) (by rw [sb_X8_doOpeningsAgree, if_pos rfl, if_neg h101, if_neg h103, if_pos h105] at hs; exact hs)).1 rfl
        refine tv_iconst (v := 0) C dk_X8_doOpeningsAgree_47 (by decide) ?_
        refine tv_istore_n (L' := [_, _, _, _]) (hn := by decide) (hlt := (Nat.le_of_ble_eq_true rfl)) (hno := rfl) C dk_X8_doOpeningsAgree_48 rfl ?_
        exact (ih 1 y1 y2 0 ((f_X6_minute M 21).2) (by rw [sb_X8_doOpeningsAgree, if_pos rfl, if_neg h101, if_neg h103, if_neg h105] at hs; exact hs)).2 rfl
      · have hj : j = 1 := hj; subst hj
        have hs : tvIter (s_X8_doOpeningsAgree) n (sb_X8_doOpeningsAgree (1 : Nat) y1 y2 y3 M) = some r := by have h9 := tvIter_go hq; exact h9
        refine tv_iload_n C dk_X8_doOpeningsAgree_49 rfl ?_
        refine tv_aload_n C dk_X8_doOpeningsAgree_50 rfl ?_
        refine tv_getR (r := 1) C dk_X8_doOpeningsAgree_51 fl_RX8_12 (Nat.le_of_ble_eq_true rfl) rfl rfl (fun _ _ _ _ => rfl) ?_
        refine tv_getR (r := (1 + 6)) C dk_X8_doOpeningsAgree_54 fl_RX8_75 (tvSB_sh tvSBn_1 0 (by decide)).2 (tvSB_sh tvSBn_1 0 (by decide)).1 (tvSB_rho tvSBn_1 (0, 2, 6) (by decide)) (fun _ _ _ _ => rfl) ?_
        refine tv_getI C dk_X8_doOpeningsAgree_57 fl_RX8_171 (tvSB_sh tvSBn_1 6 (by decide)).2 (tvSB_sh tvSBn_1 6 (by decide)).1 (fun _ _ _ _ => rfl) ?_
        refine tv_icmp_ge C dk_X8_doOpeningsAgree_60 (fun h201 => ?_) (fun h201 => ?_)
        · refine tv_iinc (v := (y2 + 1)) (L' := [_, _, _, _]) (hn := by decide) (hlt := (Nat.le_of_ble_eq_true rfl)) (hno := rfl) C dk_X8_doOpeningsAgree_97 rfl rfl rfl ?_
          refine tv_goto C dk_X8_doOpeningsAgree_100 ?_
          refine tv_drop (L2 := [some (.ref (E.G.2.1 + 0)), some (.int y1), some (.int (y2 + 1)), none]) (by simp [tvSubL]) ?_
          exact (ih 0 y1 (y2 + 1) 0 M (by rw [sb_X8_doOpeningsAgree, if_neg (by decide), if_pos h201] at hs; exact hs)).1 rfl
        refine tv_aload_n C dk_X8_doOpeningsAgree_63 rfl ?_
        refine tv_getR (r := 21) C dk_X8_doOpeningsAgree_64 fl_RX8_16 (Nat.le_of_ble_eq_true rfl) rfl rfl (fun _ _ _ _ => rfl) ?_
        refine tv_iload_n C dk_X8_doOpeningsAgree_67 rfl ?_
        refine tv_cV1 C dk_X8_doOpeningsAgree_68 ml_RX8_392 yk_X6_hasJustOpened yi_X6_hasJustOpened (m_X6_hasJustOpened _ M tvSBn_21 y3) (tvSB_sh tvSBn_21 0 (by decide)).2 (tvSB_sh tvSBn_21 0 (by decide)).1 rfl rfl rfl (Nat.le_of_ble_eq_true rfl) (Nat.le_of_ble_eq_true rfl) (Nat.le_of_ble_eq_true rfl) (Nat.le_of_ble_eq_true rfl) (Nat.le_of_ble_eq_true rfl) ?_
        refine tv_if_eq C dk_X8_doOpeningsAgree_71 (fun h202 => ?_) (fun h202 => ?_)
        · refine tv_iinc (v := (y3 + 1)) (L' := [_, _, _, _]) (hn := by decide) (hlt := (Nat.le_of_ble_eq_true rfl)) (hno := rfl) C dk_X8_doOpeningsAgree_91 rfl rfl rfl ?_
          refine tv_goto C dk_X8_doOpeningsAgree_94 ?_
          exact (ih 1 y1 y2 (y3 + 1) M (by rw [sb_X8_doOpeningsAgree, if_neg (by decide), if_neg h201, if_pos h202] at hs; exact hs)).2 rfl
        refine tv_aload_n C dk_X8_doOpeningsAgree_74 rfl ?_
        refine tv_getR (r := 1) C dk_X8_doOpeningsAgree_75 fl_RX8_12 (Nat.le_of_ble_eq_true rfl) rfl rfl (fun _ _ _ _ => rfl) ?_
        refine tv_iload_n C dk_X8_doOpeningsAgree_78 rfl ?_
        refine tv_cV1 C dk_X8_doOpeningsAgree_79 ml_RX8_203 yk_X6_searchOpening yi_X6_searchOpening (n_X6_searchOpening _ M tvSBn_1 y3) (tvSB_sh tvSBn_1 0 (by decide)).2 (tvSB_sh tvSBn_1 0 (by decide)).1 rfl rfl rfl (Nat.le_of_ble_eq_true rfl) (Nat.le_of_ble_eq_true rfl) (Nat.le_of_ble_eq_true rfl) (Nat.le_of_ble_eq_true rfl) (Nat.le_of_ble_eq_true rfl) ?_
        refine tv_iload_n C dk_X8_doOpeningsAgree_82 rfl ?_
        refine tv_icmp_eq C dk_X8_doOpeningsAgree_83 (fun h203 => ?_) (fun h203 => ?_)
        · refine tv_iinc (v := (y1 + (-1))) (L' := [_, _, _, _]) (hn := by decide) (hlt := (Nat.le_of_ble_eq_true rfl)) (hno := rfl) C dk_X8_doOpeningsAgree_88 rfl rfl rfl ?_
          refine tv_iinc (v := (y3 + 1)) (L' := [_, _, _, _]) (hn := by decide) (hlt := (Nat.le_of_ble_eq_true rfl)) (hno := rfl) C dk_X8_doOpeningsAgree_91 rfl rfl rfl ?_
          refine tv_goto C dk_X8_doOpeningsAgree_94 ?_
          exact (ih 1 (y1 + (-1)) y2 (y3 + 1) M (by rw [sb_X8_doOpeningsAgree, if_neg (by decide), if_neg h201, if_neg h202, if_pos h203] at hs; exact hs)).2 rfl
        refine tv_iconst (v := 0) C dk_X8_doOpeningsAgree_86 (by decide) ?_
        exact tv_iret C hQ dk_X8_doOpeningsAgree_87 rfl (by rw [sb_X8_doOpeningsAgree, if_neg (by decide), if_neg h201, if_neg h202, if_neg h203] at hs; rw [← tvIter_out hs]) (by rw [sb_X8_doOpeningsAgree, if_neg (by decide), if_neg h201, if_neg h202, if_neg h203] at hs; rw [← tvIter_out hs])
  refine tv_aload_n C dk_X8_doOpeningsAgree_0 rfl ?_
  refine tv_getR (r := 21) C dk_X8_doOpeningsAgree_1 fl_RX8_16 (Nat.le_of_ble_eq_true rfl) rfl rfl (fun _ _ _ _ => rfl) ?_
  refine tv_aload_n C dk_X8_doOpeningsAgree_4 rfl ?_
  refine tv_getR (r := 1) C dk_X8_doOpeningsAgree_5 fl_RX8_12 (Nat.le_of_ble_eq_true rfl) rfl rfl (fun _ _ _ _ => rfl) ?_
  refine tv_cV0 C dk_X8_doOpeningsAgree_8 ml_RX8_206 yk_X6_copyFrom yi_X6_copyFrom (m_X6_copyFrom _ M tvSBn_21 tvSBn_1 (by decide)) (tvSB_sh tvSBn_21 0 (by decide)).2 (tvSB_sh tvSBn_21 0 (by decide)).1 rfl rfl rfl (Nat.le_of_ble_eq_true rfl) (Nat.le_of_ble_eq_true rfl) (Nat.le_of_ble_eq_true rfl) (Nat.le_of_ble_eq_true rfl) (Nat.le_of_ble_eq_true rfl) ?_
  refine tv_aload_n C dk_X8_doOpeningsAgree_11 rfl ?_
  refine tv_getR (r := 1) C dk_X8_doOpeningsAgree_12 fl_RX8_12 (Nat.le_of_ble_eq_true rfl) rfl rfl (fun _ _ _ _ => rfl) ?_
  refine tv_getR (r := (1 + 6)) C dk_X8_doOpeningsAgree_15 fl_RX8_75 (tvSB_sh tvSBn_1 0 (by decide)).2 (tvSB_sh tvSBn_1 0 (by decide)).1 (tvSB_rho tvSBn_1 (0, 2, 6) (by decide)) (fun _ _ _ _ => rfl) ?_
  refine tv_bipush (v := 112) C dk_X8_doOpeningsAgree_18 (by decide) ?_
  refine tv_cV1 C dk_X8_doOpeningsAgree_20 ml_RX8_386 yk_X0_countIn yi_X0_countIn (n_X0_countIn _ (f_X6_copyFrom M 21 1) tvSBn_1 112) (tvSB_sh tvSBn_1 6 (by decide)).2 (tvSB_sh tvSBn_1 6 (by decide)).1 rfl rfl rfl (Nat.le_of_ble_eq_true rfl) (Nat.le_of_ble_eq_true rfl) (Nat.le_of_ble_eq_true rfl) (Nat.le_of_ble_eq_true rfl) (Nat.le_of_ble_eq_true rfl) ?_
  refine tv_istore_n (L' := [_, _, _, _]) (hn := by decide) (hlt := (Nat.le_of_ble_eq_true rfl)) (hno := rfl) C dk_X8_doOpeningsAgree_23 rfl ?_
  refine tv_iconst (v := 1) C dk_X8_doOpeningsAgree_24 (by decide) ?_
  refine tv_istore_n (L' := [_, _, _, _]) (hn := by decide) (hlt := (Nat.le_of_ble_eq_true rfl)) (hno := rfl) C dk_X8_doOpeningsAgree_25 rfl ?_
  exact (K n 0 (f_X0_countIn (f_X6_copyFrom M 21 1) 1 112) 1 0 (f_X6_copyFrom M 21 1) (by rw [e_X8_doOpeningsAgree] at hs; exact hs)).1 rfl
