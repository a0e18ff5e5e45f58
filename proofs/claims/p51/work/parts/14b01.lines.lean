def tvWe (M : tvM) : Nat → tvM
  | 0 => M
  | i + 1 => if nI i ≤ 0 then f_X3_addNumber (f_X3_add (tvWe M i) (f_X4_kindOf (tvWe M i) 1 (nI i))) (f_X4_numberOf (f_X3_add (tvWe M i) (f_X4_kindOf (tvWe M i) 1 (nI i))) 1 (nI i)) else f_X3_addNumber (f_X3_add (f_X3_add (tvWe M i) 32) (f_X4_kindOf (f_X3_add (tvWe M i) 32) 1 (nI i))) (f_X4_numberOf (f_X3_add (f_X3_add (tvWe M i) 32) (f_X4_kindOf (f_X3_add (tvWe M i) 32) 1 (nI i))) 1 (nI i))
theorem tvWe_at (M : tvM) (i : Nat) {a k : Nat} (h : a ≠ 247) (h2 : a ≠ 248) : tgi (tvWe M i) a k = tgi M a k := by
  induction i with
  | zero => rfl
  | succ i ih =>
    rw [tvWe]
    split <;> simp only [f_X3_addNumber_at h h2, f_X3_add_at h h2, ih]
def tvWeM (M : tvM) : tvM := tvWe (f_X3_empty M) (tgi M 17 1).toNatClampNeg
def f_X8_writeEvents (M : tvM) : Int32 × tvM := (tgi (tvWeM M) 247 1, tvWeM M)
theorem r_X8_writeEvents (M : tvM) : ∃ n, tvIter (s_X8_writeEvents) n (e_X8_writeEvents M) = some (f_X8_writeEvents M) := by
  have h0 : ∀ i, tgi (tvWe (f_X3_empty M) i) (1 + 16) 1 = tgi M 17 1 := fun i => by rw [tvWe_at _ _ (by decide) (by decide), f_X3_empty_at (by decide)]
  refine tvIter_for s_X8_writeEvents (fun i => (nI i, tvWe (f_X3_empty M) i)) (tgi M 17 1).toNatClampNeg _ (fun i hi => ?_) ?_
  · have h1 : ¬ tgi (tvWe (f_X3_empty M) i) (1 + 16) 1 ≤ nI i := by rw [h0]; exact tv_nle hi
    simp only [s_X8_writeEvents, sb_X8_writeEvents, if_neg h1, tvWe, nI_1]
    split <;> rfl
  · have h1 : tgi (tvWe (f_X3_empty M) (tgi M 17 1).toNatClampNeg) (1 + 16) 1 ≤ nI (tgi M 17 1).toNatClampNeg := by rw [h0]; exact tv_le
    simp only [s_X8_writeEvents, sb_X8_writeEvents, if_pos h1, f_X8_writeEvents, tvWeM]
theorem n_X8_writeEvents (G : tvG) (M : tvM) : tvRun G yX8_writeEvents cX8_writeEvents 2 (some .int) 3 0 0 tvP0 tvP0 [.ref (G.2.1 + 0)] M (.inl (some (.int (f_X8_writeEvents M).1))) ((f_X8_writeEvents M).2) := by
  obtain ⟨n, hn⟩ := r_X8_writeEvents M 
  exact m_X8_writeEvents G M n _ hn
/-- TideVault.writeBox(I)I -/
def sb_X8_writeBox (x1 : Int32) (y2 : Int32) (M : tvM) : (Int32 × tvM) ⊕ (Option String × Int32 × tvM) := (if (f_X0_pearlsIn M 1 x1) ≤ y2 then .inr (none, (tgi M 247 1), M) else (if y2 ≤ 0 then .inl ((y2 + 1), (f_X3_addNumber M (f_X0_valueOf M 1 x1 y2))) else .inl ((y2 + 1), (f_X3_addNumber (f_X3_add M 44) (f_X0_valueOf (f_X3_add M 44) 1 x1 y2)))))
def s_X8_writeBox (x1 : Int32) : (Int32 × tvM) → (Int32 × tvM) ⊕ (Option String × Int32 × tvM) := fun q => sb_X8_writeBox x1 q.1 q.2
def e_X8_writeBox (M : tvM) (x1 : Int32) : (Int32 × tvM) ⊕ (Option String × Int32 × tvM) := (if (f_X8_refuse M (f_X8_refusalOfBoxNumber M x1)).1 = none then .inl (0, (f_X3_add (f_X3_add (f_X3_addNumber (f_X3_empty M) x1) (f_X0_statusOf (f_X3_addNumber (f_X3_empty M) x1) 1 x1)) 58)) else .inr ((f_X8_refuse M (f_X8_refusalOfBoxNumber M x1)).1, 0, M))
theorem m_X8_writeBox (G : tvG) (M : tvM) (x1 : Int32) (n : Nat) (r : (Option String × Int32 × tvM)) (hs : tvIter (s_X8_writeBox x1) n (e_X8_writeBox M x1) = some r) : tvRun G yX8_writeBox cX8_writeBox 3 (some .int) 7 1 6 tvP0 tvP0 [.ref (G.2.1 + 0), .int x1] M (tvOx (some (.int r.2.1)) r.1) r.2.2 := by
  refine tvRun.of yk_X8_writeBox rfl [some (.ref (G.2.1 + 0)), some (.int x1), none] rfl (Nat.le_of_ble_eq_true rfl) ?_
  intro E hG C hQ; subst hG
  have K : ∀ (n : Nat) (y2 : Int32) (M : tvM), tvIter (s_X8_writeBox x1) n (.inl (y2, M)) = some r → tv_W E tvP0 1 6 M 52 [some (.ref (E.G.2.1 + 0)), some (.int x1), some (.int y2)] [] := by
    intro n
    induction n with
    | zero => intro y2 M hq; exact (tvIter_0 hq).elim
    | succ n ih =>
      intro y2 M hq
      have hs : tvIter (s_X8_writeBox x1) n (sb_X8_writeBox x1 y2 M) = some r := by have h9 := tvIter_go hq; exact h9
      refine tv_iload_n C dk_X8_writeBox_52 rfl ?_
      refine tv_aload_n C dk_X8_writeBox_53 rfl ?_
      refine tv_getR (r := 1) C dk_X8_writeBox_54 fl_RX8_12 (Nat.le_of_ble_eq_true rfl) rfl rfl (fun _ _ _ _ => rfl) ?_
      refine tv_getR (r := (1 + 6)) C dk_X8_writeBox_57 fl_RX8_75 (tvSB_sh tvSBn_1 0 (by decide)).2 (tvSB_sh tvSBn_1 0 (by decide)).1 (tvSB_rho tvSBn_1 (0, 2, 6) (by decide)) (fun _ _ _ _ => rfl) ?_
      refine tv_iload_n C dk_X8_writeBox_60 rfl ?_
      refine tv_cV1 C dk_X8_writeBox_61 ml_RX8_212 yk_X0_pearlsIn yi_X0_pearlsIn (m_X0_pearlsIn _ M tvSBn_1 x1) (tvSB_sh tvSBn_1 6 (by decide)).2 (tvSB_sh tvSBn_1 6 (by decide)).1 rfl rfl rfl (Nat.le_of_ble_eq_true rfl) (Nat.le_of_ble_eq_true rfl) (Nat.le_of_ble_eq_true rfl) (Nat.le_of_ble_eq_true rfl) (Nat.le_of_ble_eq_true rfl) ?_
      refine tv_icmp_ge C dk_X8_writeBox_64 (fun h101 => ?_) (fun h101 => ?_)
      · refine tv_aload_n C dk_X8_writeBox_105 rfl ?_
        refine tv_getR (r := 247) C dk_X8_writeBox_106 fl_RX8_39 (Nat.le_of_ble_eq_true rfl) rfl rfl (fun _ _ _ _ => rfl) ?_
        refine tv_getI C dk_X8_writeBox_109 fl_RX8_291 (Nat.le_of_ble_eq_true rfl) rfl (fun _ _ _ _ => rfl) ?_
        exact tv_iret C hQ dk_X8_writeBox_112 rfl (by rw [sb_X8_writeBox, if_pos h101] at hs; rw [← tvIter_out hs]; rfl) (by rw [sb_X8_writeBox, if_pos h101] at hs; rw [← tvIter_out hs])
      refine tv_iload_n C dk_X8_writeBox_67 rfl ?_
      refine tv_if_le C dk_X8_writeBox_68 (fun h102 => ?_) (fun h102 => ?_)
      · refine tv_aload_n C dk_X8_writeBox_80 rfl ?_
        refine tv_getR (r := 247) C dk_X8_writeBox_81 fl_RX8_39 (Nat.le_of_ble_eq_true rfl) rfl rfl (fun _ _ _ _ => rfl) ?_
        refine tv_aload_n C dk_X8_writeBox_84 rfl ?_
        refine tv_getR (r := 1) C dk_X8_writeBox_85 fl_RX8_12 (Nat.le_of_ble_eq_true rfl) rfl rfl (fun _ _ _ _ => rfl) ?_
        refine tv_getR (r := (1 + 6)) C dk_X8_writeBox_88 fl_RX8_75 (tvSB_sh tvSBn_1 0 (by decide)).2 (tvSB_sh tvSBn_1 0 (by decide)).1 (tvSB_rho tvSBn_1 (0, 2, 6) (by decide)) (fun _ _ _ _ => rfl) ?_
        refine tv_iload_n C dk_X8_writeBox_91 rfl ?_
        refine tv_iload_n C dk_X8_writeBox_92 rfl ?_
        refine tv_cV1 C dk_X8_writeBox_93 ml_RX8_220 yk_X0_valueOf yi_X0_valueOf (m_X0_valueOf _ M tvSBn_1 x1 y2) (tvSB_sh tvSBn_1 6 (by decide)).2 (tvSB_sh tvSBn_1 6 (by decide)).1 rfl rfl rfl (Nat.le_of_ble_eq_true rfl) (Nat.le_of_ble_eq_true rfl) (Nat.le_of_ble_eq_true rfl) (Nat.le_of_ble_eq_true rfl) (Nat.le_of_ble_eq_true rfl) ?_
        refine tv_cV0 C dk_X8_writeBox_96 ml_RX8_285 yk_X3_addNumber yi_X3_addNumber (m_X3_addNumber _ M (f_X0_valueOf M 1 x1 y2)) (Nat.le_of_ble_eq_true rfl) rfl rfl rfl rfl (Nat.le_of_ble_eq_true rfl) (Nat.le_of_ble_eq_true rfl) (Nat.le_of_ble_eq_true rfl) (Nat.le_of_ble_eq_true rfl) (Nat.le_of_ble_eq_true rfl) ?_
        refine tv_iinc (v := (y2 + 1)) (L' := [_, _, _]) (hn := by decide) (hlt := (Nat.le_of_ble_eq_true rfl)) (hno := rfl) C dk_X8_writeBox_99 rfl rfl rfl ?_
        refine tv_goto C dk_X8_writeBox_102 ?_
        exact (ih (y2 + 1) (f_X3_addNumber M (f_X0_valueOf M 1 x1 y2)) (by rw [sb_X8_writeBox, if_neg h101, if_pos h102] at hs; exact hs))
      refine tv_aload_n C dk_X8_writeBox_71 rfl ?_
      refine tv_getR (r := 247) C dk_X8_writeBox_72 fl_RX8_39 (Nat.le_of_ble_eq_true rfl) rfl rfl (fun _ _ _ _ => rfl) ?_
      refine tv_bipush (v := 44) C dk_X8_writeBox_75 (by decide) ?_
      refine tv_cV0 C dk_X8_writeBox_77 ml_RX8_288 yk_X3_add yi_X3_add (m_X3_add _ M 44) (Nat.le_of_ble_eq_true rfl) rfl rfl rfl rfl (Nat.le_of_ble_eq_true rfl) (Nat.le_of_ble_eq_true rfl) (Nat.le_of_ble_eq_true rfl) (Nat.le_of_ble_eq_true rfl) (Nat.le_of_ble_eq_true rfl) ?_
      refine tv_aload_n C dk_X8_writeBox_80 rfl ?_
      refine tv_getR (r := 247) C dk_X8_writeBox_81 fl_RX8_39 (Nat.le_of_ble_eq_true rfl) rfl rfl (fun _ _ _ _ => rfl) ?_
      refine tv_aload_n C dk_X8_writeBox_84 rfl ?_
      refine tv_getR (r := 1) C dk_X8_writeBox_85 fl_RX8_12 (Nat.le_of_ble_eq_true rfl) rfl rfl (fun _ _ _ _ => rfl) ?_
      refine tv_getR (r := (1 + 6)) C dk_X8_writeBox_88 fl_RX8_75 (tvSB_sh tvSBn_1 0 (by decide)).2 (tvSB_sh tvSBn_1 0 (by decide)).1 (tvSB_rho tvSBn_1 (0, 2, 6) (by decide)) (fun _ _ _ _ => rfl) ?_
      refine tv_iload_n C dk_X8_writeBox_91 rfl ?_
      refine tv_iload_n C dk_X8_writeBox_92 rfl ?_
      refine tv_cV1 C dk_X8_writeBox_93 ml_RX8_220 yk_X0_valueOf yi_X0_valueOf (m_X0_valueOf _ (f_X3_add M 44) tvSBn_1 x1 y2) (tvSB_sh tvSBn_1 6 (by decide)).2 (tvSB_sh tvSBn_1 6 (by decide)).1 rfl rfl rfl (Nat.le_of_ble_eq_true rfl) (Nat.le_of_ble_eq_true rfl) (Nat.le_of_ble_eq_true rfl) (Nat.le_of_ble_eq_true rfl) (Nat.le_of_ble_eq_true rfl) ?_
      refine tv_cV0 C dk_X8_writeBox_96 ml_RX8_285 yk_X3_addNumber yi_X3_addNumber (m_X3_addNumber _ (f_X3_add M 44) (f_X0_valueOf (f_X3_add M 44) 1 x1 y2)) (Nat.le_of_ble_eq_true rfl) rfl rfl rfl rfl (Nat.le_of_ble_eq_true rfl) (Nat.le_of_ble_eq_true rfl) (Nat.le_of_ble_eq_true rfl) (Nat.le_of_ble_eq_true rfl) (Nat.le_of_ble_eq_true rfl) ?_
      refine tv_iinc (v := (y2 + 1)) (L' := [_, _, _]) (hn := by decide) (hlt := (Nat.le_of_ble_eq_true rfl)) (hno := rfl) C dk_X8_writeBox_99 rfl rfl rfl ?_
      refine tv_goto C dk_X8_writeBox_102 ?_
      exact (ih (y2 + 1) (f_X3_addNumber (f_X3_add M 44) (f_X0_valueOf (f_X3_add M 44) 1 x1 y2)) (by rw [sb_X8_writeBox, if_neg h101, if_neg h102] at hs; exact hs))
  refine tv_aload_n C dk_X8_writeBox_0 rfl ?_
  refine tv_iload_n C dk_X8_writeBox_1 rfl ?_
  refine tv_cV1 C dk_X8_writeBox_2 ml_RX8_172 yk_X8_refusalOfBoxNumber yi_X8_refusalOfBoxNumber (m_X8_refusalOfBoxNumber _ M x1) (Nat.le_of_ble_eq_true rfl) rfl rfl rfl rfl (Nat.le_of_ble_eq_true rfl) (Nat.le_of_ble_eq_true rfl) (Nat.le_of_ble_eq_true rfl) (Nat.le_of_ble_eq_true rfl) (Nat.le_of_ble_eq_true rfl) ?_
  refine tv_cSx C dk_X8_writeBox_5 ml_RX8_54 yk_X8_refuse yi_X8_refuse (n_X8_refuse _ M (f_X8_refusalOfBoxNumber M x1)) rfl rfl (Nat.le_of_ble_eq_true rfl) (Nat.le_of_ble_eq_true rfl) (Nat.le_of_ble_eq_true rfl) (Nat.le_of_ble_eq_true rfl) (Nat.le_of_ble_eq_true rfl) rfl rfl rfl (fun _ h1e => tv_out C hQ (by rw [e_X8_writeBox, if_neg (tv_sn h1e)] at hs; rw [← tvIter_out hs]; show tvOx _ _ = _; rw [h1e]; rfl) (by rw [e_X8_writeBox, if_neg (tv_sn h1e)] at hs; rw [← tvIter_out hs])) (fun h1 => ?_)
  refine tv_aload_n C dk_X8_writeBox_8 rfl ?_
  refine tv_getR (r := 247) C dk_X8_writeBox_9 fl_RX8_39 (Nat.le_of_ble_eq_true rfl) rfl rfl (fun _ _ _ _ => rfl) ?_
  refine tv_cV0 C dk_X8_writeBox_12 ml_RX8_282 yk_X3_empty yi_X3_empty (m_X3_empty _ M) (Nat.le_of_ble_eq_true rfl) rfl rfl rfl rfl (Nat.le_of_ble_eq_true rfl) (Nat.le_of_ble_eq_true rfl) (Nat.le_of_ble_eq_true rfl) (Nat.le_of_ble_eq_true rfl) (Nat.le_of_ble_eq_true rfl) ?_
  refine tv_aload_n C dk_X8_writeBox_15 rfl ?_
  refine tv_getR (r := 247) C dk_X8_writeBox_16 fl_RX8_39 (Nat.le_of_ble_eq_true rfl) rfl rfl (fun _ _ _ _ => rfl) ?_
  refine tv_iload_n C dk_X8_writeBox_19 rfl ?_
  refine tv_cV0 C dk_X8_writeBox_20 ml_RX8_285 yk_X3_addNumber yi_X3_addNumber (m_X3_addNumber _ (f_X3_empty M) x1) (Nat.le_of_ble_eq_true rfl) rfl rfl rfl rfl (Nat.le_of_ble_eq_true rfl) (Nat.le_of_ble_eq_true rfl) (Nat.le_of_ble_eq_true rfl) (Nat.le_of_ble_eq_true rfl) (Nat.le_of_ble_eq_true rfl) ?_
  refine tv_aload_n C dk_X8_writeBox_23 rfl ?_
  refine tv_getR (r := 247) C dk_X8_writeBox_24 fl_RX8_39 (Nat.le_of_ble_eq_true rfl) rfl rfl (fun _ _ _ _ => rfl) ?_
  refine tv_aload_n C dk_X8_writeBox_27 rfl ?_
  refine tv_getR (r := 1) C dk_X8_writeBox_28 fl_RX8_12 (Nat.le_of_ble_eq_true rfl) rfl rfl (fun _ _ _ _ => rfl) ?_
  refine tv_getR (r := (1 + 6)) C dk_X8_writeBox_31 fl_RX8_75 (tvSB_sh tvSBn_1 0 (by decide)).2 (tvSB_sh tvSBn_1 0 (by decide)).1 (tvSB_rho tvSBn_1 (0, 2, 6) (by decide)) (fun _ _ _ _ => rfl) ?_
  refine tv_iload_n C dk_X8_writeBox_34 rfl ?_
  refine tv_cV1 C dk_X8_writeBox_35 ml_RX8_189 yk_X0_statusOf yi_X0_statusOf (m_X0_statusOf _ (f_X3_addNumber (f_X3_empty M) x1) tvSBn_1 x1) (tvSB_sh tvSBn_1 6 (by decide)).2 (tvSB_sh tvSBn_1 6 (by decide)).1 rfl rfl rfl (Nat.le_of_ble_eq_true rfl) (Nat.le_of_ble_eq_true rfl) (Nat.le_of_ble_eq_true rfl) (Nat.le_of_ble_eq_true rfl) (Nat.le_of_ble_eq_true rfl) ?_
  refine tv_cV0 C dk_X8_writeBox_38 ml_RX8_288 yk_X3_add yi_X3_add (m_X3_add _ (f_X3_addNumber (f_X3_empty M) x1) (f_X0_statusOf (f_X3_addNumber (f_X3_empty M) x1) 1 x1)) (Nat.le_of_ble_eq_true rfl) rfl rfl rfl rfl (Nat.le_of_ble_eq_true rfl) (Nat.le_of_ble_eq_true rfl) (Nat.le_of_ble_eq_true rfl) (Nat.le_of_ble_eq_true rfl) (Nat.le_of_ble_eq_true rfl) ?_
  refine tv_aload_n C dk_X8_writeBox_41 rfl ?_
  refine tv_getR (r := 247) C dk_X8_writeBox_42 fl_RX8_39 (Nat.le_of_ble_eq_true rfl) rfl rfl (fun _ _ _ _ => rfl) ?_
  refine tv_bipush (v := 58) C dk_X8_writeBox_45 (by decide) ?_
  refine tv_cV0 C dk_X8_writeBox_47 ml_RX8_288 yk_X3_add yi_X3_add (m_X3_add _ (f_X3_add (f_X3_addNumber (f_X3_empty M) x1) (f_X0_statusOf (f_X3_addNumber (f_X3_empty M) x1) 1 x1)) 58) (Nat.le_of_ble_eq_true rfl) rfl rfl rfl rfl (Nat.le_of_ble_eq_true rfl) (Nat.le_of_ble_eq_true rfl) (Nat.le_of_ble_eq_true rfl) (Nat.le_of_ble_eq_true rfl) (Nat.le_of_ble_eq_true rfl) ?_
  refine tv_iconst (v := 0) C dk_X8_writeBox_50 (by decide) ?_
  refine tv_istore_n (L' := [_, _, _]) (hn := by decide) (hlt := (Nat.le_of_ble_eq_true rfl)) (hno := rfl) C dk_X8_writeBox_51 rfl ?_
  exact (K n 0 (f_X3_add (f_X3_add (f_X3_addNumber (f_X3_empty M) x1) (f_X0_statusOf (f_X3_addNumber (f_X3_empty M) x1) 1 x1)) 58) (by rw [e_X8_writeBox, if_pos h1] at hs; exact hs))
