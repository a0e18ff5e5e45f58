theorem f_X3_empty_at {M : tvM} {a k : Nat} (h : a ≠ 247) : tgi (f_X3_empty M) a k = tgi M a k := by
  unfold f_X3_empty
  simp only [tgi_pi_ne h]
theorem f_X3_add_at {M : tvM} {x : Int32} {a k : Nat} (h : a ≠ 247) (h2 : a ≠ 248) : tgi (f_X3_add M x) a k = tgi M a k := by
  unfold f_X3_add
  repeat' split
  all_goals simp only [tgi_pi_ne h, tgi_pi_ne h2]
theorem f_X3_addNumber_at {M : tvM} {x : Int32} {a k : Nat} (h : a ≠ 247) (h2 : a ≠ 248) : tgi (f_X3_addNumber M x) a k = tgi M a k := by
  unfold f_X3_addNumber
  repeat' split
  all_goals simp only [f_X3_add_at h h2]
theorem f_X0_pearlsIn_of {M N : tvM} {b : Nat} {x : Int32} (h : ∀ k, tgi M (b + 6) k = tgi N (b + 6) k) (h2 : ∀ k, tgi M (b + 14) k = tgi N (b + 14) k) : f_X0_pearlsIn M b x = f_X0_pearlsIn N b x := by
  unfold f_X0_pearlsIn f_X0_has
  rw [h, h2]
/-- TideVault.writeEvents()I -/
def sb_X8_writeEvents (y1 : Int32) (M : tvM) : (Int32 × tvM) ⊕ (Int32 × tvM) := (if (tgi M (1 + 16) 1) ≤ y1 then .inr ((tgi M 247 1), M) else (if y1 ≤ 0 then .inl ((y1 + 1), (f_X3_addNumber (f_X3_add M (f_X4_kindOf M 1 y1)) (f_X4_numberOf (f_X3_add M (f_X4_kindOf M 1 y1)) 1 y1))) else .inl ((y1 + 1), (f_X3_addNumber (f_X3_add (f_X3_add M 32) (f_X4_kindOf (f_X3_add M 32) 1 y1)) (f_X4_numberOf (f_X3_add (f_X3_add M 32) (f_X4_kindOf (f_X3_add M 32) 1 y1)) 1 y1)))))
def s_X8_writeEvents : (Int32 × tvM) → (Int32 × tvM) ⊕ (Int32 × tvM) := fun q => sb_X8_writeEvents q.1 q.2
def e_X8_writeEvents (M : tvM) : (Int32 × tvM) ⊕ (Int32 × tvM) := .inl (0, (f_X3_empty M))
theorem m_X8_writeEvents (G : tvG) (M : tvM) (n : Nat) (r : (Int32 × tvM)) (hs : tvIter (s_X8_writeEvents) n (e_X8_writeEvents M) = some r) : tvRun G yX8_writeEvents cX8_writeEvents 2 (some .int) 3 0 0 tvP0 tvP0 [.ref (G.2.1 + 0)] M (.inl (some (.int r.1))) r.2 := by
  refine tvRun.of yk_X8_writeEvents rfl [some (.ref (G.2.1 + 0)), none] rfl (Nat.le_of_ble_eq_true rfl) ?_
  intro E hG C hQ; subst hG
  have K : ∀ (n : Nat) (y1 : Int32) (M : tvM), tvIter (s_X8_writeEvents) n (.inl (y1, M)) = some r → tv_W E tvP0 0 0 M 9 [some (.ref (E.G.2.1 + 0)), some (.int y1)] [] := by
    intro n
    induction n with
    | zero => intro y1 M hq; exact (tvIter_0 hq).elim
    | succ n ih =>
      intro y1 M hq
      have hs : tvIter (s_X8_writeEvents) n (sb_X8_writeEvents y1 M) = some r := tvIter_go hq
      refine tv_iload_n C dk_X8_writeEvents_9 rfl ?_
      refine tv_aload_n C dk_X8_writeEvents_10 rfl ?_
      refine tv_getR (r := 1) C dk_X8_writeEvents_11 fl_RX8_12 (Nat.le_of_ble_eq_true rfl) rfl rfl (fun _ _ _ _ => rfl) ?_
      refine tv_getR (r := (1 + 16)) C dk_X8_writeEvents_14 fl_RX8_257 (tvSB_sh tvSBn_1 0 (by decide)).2 (tvSB_sh tvSBn_1 0 (by decide)).1 (tvSB_rho tvSBn_1 (0, 3, 16) (by decide)) (fun _ _ _ _ => rfl) ?_
      refine tv_getI C dk_X8_writeEvents_17 fl_RX8_261 (tvSB_sh tvSBn_1 16 (by decide)).2 (tvSB_sh tvSBn_1 16 (by decide)).1 (fun _ _ _ _ => rfl) ?_
      refine tv_icmp_ge C dk_X8_writeEvents_20 (fun h101 => ?_) (fun h101 => ?_)
      · refine tv_aload_n C dk_X8_writeEvents_78 rfl ?_
        refine tv_getR (r := 247) C dk_X8_writeEvents_79 fl_RX8_39 (Nat.le_of_ble_eq_true rfl) rfl rfl (fun _ _ _ _ => rfl) ?_
        refine tv_getI C dk_X8_writeEvents_82 fl_RX8_291 (Nat.le_of_ble_eq_true rfl) rfl (fun _ _ _ _ => rfl) ?_
        exact tv_iret C hQ dk_X8_writeEvents_85 rfl (by rw [sb_X8_writeEvents, if_pos h101] at hs; rw [← tvIter_out hs]) (by rw [sb_X8_writeEvents, if_pos h101] at hs; rw [← tvIter_out hs])
      refine tv_iload_n C dk_X8_writeEvents_23 rfl ?_
      refine tv_if_le C dk_X8_writeEvents_24 (fun h102 => ?_) (fun h102 => ?_)
      · refine tv_aload_n C dk_X8_writeEvents_36 rfl ?_
        refine tv_getR (r := 247) C dk_X8_writeEvents_37 fl_RX8_39 (Nat.le_of_ble_eq_true rfl) rfl rfl (fun _ _ _ _ => rfl) ?_
        refine tv_aload_n C dk_X8_writeEvents_40 rfl ?_
        refine tv_getR (r := 1) C dk_X8_writeEvents_41 fl_RX8_12 (Nat.le_of_ble_eq_true rfl) rfl rfl (fun _ _ _ _ => rfl) ?_
        refine tv_getR (r := (1 + 16)) C dk_X8_writeEvents_44 fl_RX8_257 (tvSB_sh tvSBn_1 0 (by decide)).2 (tvSB_sh tvSBn_1 0 (by decide)).1 (tvSB_rho tvSBn_1 (0, 3, 16) (by decide)) (fun _ _ _ _ => rfl) ?_
        refine tv_iload_n C dk_X8_writeEvents_47 rfl ?_
        refine tv_cV1 C dk_X8_writeEvents_48 ml_RX8_267 yk_X4_kindOf yi_X4_kindOf (m_X4_kindOf _ M tvSBn_1 y1) (tvSB_sh tvSBn_1 16 (by decide)).2 (tvSB_sh tvSBn_1 16 (by decide)).1 rfl rfl rfl (Nat.le_of_ble_eq_true rfl) (Nat.le_of_ble_eq_true rfl) (Nat.le_of_ble_eq_true rfl) (Nat.le_of_ble_eq_true rfl) (Nat.le_of_ble_eq_true rfl) ?_
        refine tv_cV0 C dk_X8_writeEvents_51 ml_RX8_288 yk_X3_add yi_X3_add (m_X3_add _ M (f_X4_kindOf M 1 y1)) (Nat.le_of_ble_eq_true rfl) rfl rfl rfl rfl (Nat.le_of_ble_eq_true rfl) (Nat.le_of_ble_eq_true rfl) (Nat.le_of_ble_eq_true rfl) (Nat.le_of_ble_eq_true rfl) (Nat.le_of_ble_eq_true rfl) ?_
        refine tv_aload_n C dk_X8_writeEvents_54 rfl ?_
        refine tv_getR (r := 247) C dk_X8_writeEvents_55 fl_RX8_39 (Nat.le_of_ble_eq_true rfl) rfl rfl (fun _ _ _ _ => rfl) ?_
        refine tv_aload_n C dk_X8_writeEvents_58 rfl ?_
        refine tv_getR (r := 1) C dk_X8_writeEvents_59 fl_RX8_12 (Nat.le_of_ble_eq_true rfl) rfl rfl (fun _ _ _ _ => rfl) ?_
        refine tv_getR (r := (1 + 16)) C dk_X8_writeEvents_62 fl_RX8_257 (tvSB_sh tvSBn_1 0 (by decide)).2 (tvSB_sh tvSBn_1 0 (by decide)).1 (tvSB_rho tvSBn_1 (0, 3, 16) (by decide)) (fun _ _ _ _ => rfl) ?_
        refine tv_iload_n C dk_X8_writeEvents_65 rfl ?_
        refine tv_cV1 C dk_X8_writeEvents_66 ml_RX8_273 yk_X4_numberOf yi_X4_numberOf (m_X4_numberOf _ (f_X3_add M (f_X4_kindOf M 1 y1)) tvSBn_1 y1) (tvSB_sh tvSBn_1 16 (by decide)).2 (tvSB_sh tvSBn_1 16 (by decide)).1 rfl rfl rfl (Nat.le_of_ble_eq_true rfl) (Nat.le_of_ble_eq_true rfl) (Nat.le_of_ble_eq_true rfl) (Nat.le_of_ble_eq_true rfl) (Nat.le_of_ble_eq_true rfl) ?_
        refine tv_cV0 C dk_X8_writeEvents_69 ml_RX8_285 yk_X3_addNumber yi_X3_addNumber (m_X3_addNumber _ (f_X3_add M (f_X4_kindOf M 1 y1)) (f_X4_numberOf (f_X3_add M (f_X4_kindOf M 1 y1)) 1 y1)) (Nat.le_of_ble_eq_true rfl) rfl rfl rfl rfl (Nat.le_of_ble_eq_true rfl) (Nat.le_of_ble_eq_true rfl) (Nat.le_of_ble_eq_true rfl) (Nat.le_of_ble_eq_true rfl) (Nat.le_of_ble_eq_true rfl) ?_
        refine tv_iinc (v := (y1 + 1)) (L' := [_, _]) (hn := by decide) (hlt := (Nat.le_of_ble_eq_true rfl)) (hno := rfl) C dk_X8_writeEvents_72 rfl rfl rfl ?_
        refine tv_goto C dk_X8_writeEvents_75 ?_
        exact (ih (y1 + 1) (f_X3_addNumber (f_X3_add M (f_X4_kindOf M 1 y1)) (f_X4_numberOf (f_X3_add M (f_X4_kindOf M 1 y1)) 1 y1)) (by rw [sb_X8_writeEvents, if_neg h101, if_pos h102] at hs; exact hs))
      refine tv_aload_n C dk_X8_writeEvents_27 rfl ?_
      refine tv_getR (r := 247) C dk_X8_writeEvents_28 fl_RX8_39 (Nat.le_of_ble_eq_true rfl) rfl rfl (fun _ _ _ _ => rfl) ?_
      refine tv_bipush (v := 32) C dk_X8_writeEvents_31 (by decide) ?_
      refine tv_cV0 C dk_X8_writeEvents_33 ml_RX8_288 yk_X3_add yi_X3_add (m_X3_add _ M 32) (Nat.le_of_ble_eq_true rfl) rfl rfl rfl rfl (Nat.le_of_ble_eq_true rfl) (Nat.le_of_ble_eq_true rfl) (Nat.le_of_ble_eq_true rfl) (Nat.le_of_ble_eq_true rfl) (Nat.le_of_ble_eq_true rfl) ?_
      refine tv_aload_n C dk_X8_writeEvents_36 rfl ?_
      refine tv_getR (r := 247) C dk_X8_writeEvents_37 fl_RX8_39 (Nat.le_of_ble_eq_true rfl) rfl rfl (fun _ _ _ _ => rfl) ?_
      refine tv_aload_n C dk_X8_writeEvents_40 rfl ?_
      refine tv_getR (r := 1) C dk_X8_writeEvents_41 fl_RX8_12 (Nat.le_of_ble_eq_true rfl) rfl rfl (fun _ _ _ _ => rfl) ?_
      refine tv_getR (r := (1 + 16)) C dk_X8_writeEvents_44 fl_RX8_257 (tvSB_sh tvSBn_1 0 (by decide)).2 (tvSB_sh tvSBn_1 0 (by decide)).1 (tvSB_rho tvSBn_1 (0, 3, 16) (by decide)) (fun _ _ _ _ => rfl) ?_
      refine tv_iload_n C dk_X8_writeEvents_47 rfl ?_
      refine tv_cV1 C dk_X8_writeEvents_48 ml_RX8_267 yk_X4_kindOf yi_X4_kindOf (m_X4_kindOf _ (f_X3_add M 32) tvSBn_1 y1) (tvSB_sh tvSBn_1 16 (by decide)).2 (tvSB_sh tvSBn_1 16 (by decide)).1 rfl rfl rfl (Nat.le_of_ble_eq_true rfl) (Nat.le_of_ble_eq_true rfl) (Nat.le_of_ble_eq_true rfl) (Nat.le_of_ble_eq_true rfl) (Nat.le_of_ble_eq_true rfl) ?_
      refine tv_cV0 C dk_X8_writeEvents_51 ml_RX8_288 yk_X3_add yi_X3_add (m_X3_add _ (f_X3_add M 32) (f_X4_kindOf (f_X3_add M 32) 1 y1)) (Nat.le_of_ble_eq_true rfl) rfl rfl rfl rfl (Nat.le_of_ble_eq_true rfl) (Nat.le_of_ble_eq_true rfl) (Nat.le_of_ble_eq_true rfl) (Nat.le_of_ble_eq_true rfl) (Nat.le_of_ble_eq_true rfl) ?_
      refine tv_aload_n C dk_X8_writeEvents_54 rfl ?_
      refine tv_getR (r := 247) C dk_X8_writeEvents_55 fl_RX8_39 (Nat.le_of_ble_eq_true rfl) rfl rfl (fun _ _ _ _ => rfl) ?_
      refine tv_aload_n C dk_X8_writeEvents_58 rfl ?_
      refine tv_getR (r := 1) C dk_X8_writeEvents_59 fl_RX8_12 (Nat.le_of_ble_eq_true rfl) rfl rfl (fun _ _ _ _ => rfl) ?_
      refine tv_getR (r := (1 + 16)) C dk_X8_writeEvents_62 fl_RX8_257 (tvSB_sh tvSBn_1 0 (by decide)).2 (tvSB_sh tvSBn_1 0 (by decide)).1 (tvSB_rho tvSBn_1 (0, 3, 16) (by decide)) (fun _ _ _ _ => rfl) ?_
      refine tv_iload_n C dk_X8_writeEvents_65 rfl ?_
      refine tv_cV1 C dk_X8_writeEvents_66 ml_RX8_273 yk_X4_numberOf yi_X4_numberOf (m_X4_numberOf _ (f_X3_add (f_X3_add M 32) (f_X4_kindOf (f_X3_add M 32) 1 y1)) tvSBn_1 y1) (tvSB_sh tvSBn_1 16 (by decide)).2 (tvSB_sh tvSBn_1 16 (by decide)).1 rfl rfl rfl (Nat.le_of_ble_eq_true rfl) (Nat.le_of_ble_eq_true rfl) (Nat.le_of_ble_eq_true rfl) (Nat.le_of_ble_eq_true rfl) (Nat.le_of_ble_eq_true rfl) ?_
      refine tv_cV0 C dk_X8_writeEvents_69 ml_RX8_285 yk_X3_addNumber yi_X3_addNumber (m_X3_addNumber _ (f_X3_add (f_X3_add M 32) (f_X4_kindOf (f_X3_add M 32) 1 y1)) (f_X4_numberOf (f_X3_add (f_X3_add M 32) (f_X4_kindOf (f_X3_add M 32) 1 y1)) 1 y1)) (Nat.le_of_ble_eq_true rfl) rfl rfl rfl rfl (Nat.le_of_ble_eq_true rfl) (Nat.le_of_ble_eq_true rfl) (Nat.le_of_ble_eq_true rfl) (Nat.le_of_ble_eq_true rfl) (Nat.le_of_ble_eq_true rfl) ?_
      refine tv_iinc (v := (y1 + 1)) (L' := [_, _]) (hn := by decide) (hlt := (Nat.le_of_ble_eq_true rfl)) (hno := rfl) C dk_X8_writeEvents_72 rfl rfl rfl ?_
      refine tv_goto C dk_X8_writeEvents_75 ?_
      exact (ih (y1 + 1) (f_X3_addNumber (f_X3_add (f_X3_add M 32) (f_X4_kindOf (f_X3_add M 32) 1 y1)) (f_X4_numberOf (f_X3_add (f_X3_add M 32) (f_X4_kindOf (f_X3_add M 32) 1 y1)) 1 y1)) (by rw [sb_X8_writeEvents, if_neg h101, if_neg h102] at hs; exact hs))
  refine tv_aload_n C dk_X8_writeEvents_0 rfl ?_
  refine tv_getR (r := 247) C dk_X8_writeEvents_1 fl_RX8_39 (Nat.le_of_ble_eq_true rfl) rfl rfl (fun _ _ _ _ => rfl) ?_
  refine tv_cV0 C dk_X8_writeEvents_4 ml_RX8_282 yk_X3_empty yi_X3_empty (m_X3_empty _ M) (Nat.le_of_ble_eq_true rfl) rfl rfl rfl rfl (Nat.le_of_ble_eq_true rfl) (Nat.le_of_ble_eq_true rfl) (Nat.le_of_ble_eq_true rfl) (Nat.le_of_ble_eq_true rfl) (Nat.le_of_ble_eq_true rfl) ?_
  refine tv_iconst (v := 0) C dk_X8_writeEvents_7 (by decide) ?_
  refine tv_istore_n (L' := [_, _]) (hn := by decide) (hlt := (Nat.le_of_ble_eq_true rfl)) (hno := rfl) C dk_X8_writeEvents_8 rfl ?_
  exact (K n 0 (f_X3_empty M) (by rw [e_X8_writeEvents] at hs; exact hs))
def tvWe (M : tvM) : Nat → tvM
  | 0 => M
  | i + 1 => if nI i ≤ 0 then f_X3_addNumber (f_X3_add (tvWe M i) (f_X4_kindOf (tvWe M i) 1 (nI i))) (f_X4_numberOf (f_X3_add (tvWe M i) (f_X4_kindOf (tvWe M i) 1 (nI i))) 1 (nI i)) else f_X3_addNumber (f_X3_add (f_X3_add (tvWe M i) 32) (f_X4_kindOf (f_X3_add (tvWe M i) 32) 1 (nI i))) (f_X4_numberOf (f_X3_add (f_X3_add (tvWe M i) 32) (f_X4_kindOf (f_X3_add (tvWe M i) 32) 1 (nI i))) 1 (nI i))
theorem tvWe_at (M : tvM) (i : Nat) {a k : Nat} (h : a ≠ 247) (h2 : a ≠ 248) : tgi (tvWe M i) a k = tgi M a k := by
  induction i with
  | zero => rfl
  | succ i ih =>
    rw [tvWe]
    split <;> simp only [f_X3_addNumber_at h h2, f_X3_add_at h h2, ih]
def tvWeM (M : tvM) : tvM := tvWe (f_X3_empty M) (tgi M 17 1).toNatClampNeg
def f_X8_writeEvents (M : tvM) : Int32 × tvM := (tgi (tvWeM M) 247 1, tvWeM M)
theorem r_X8_writeEvents (M : tvM) : ∃ n, tvIter (s_X8_writeEvents) n (e_X8_writeEvents M) = some (f_X8_writeEvents M) := by
  have h0 : ∀ i, tgi (tvWe (f_X3_empty M) i) (1 + 16) 1 = tgi M 17 1 := fun i => by rw [tvWe_at _ _ (by decide) (by decide), f_X3_empty_at (by decide)]
  refine tvIter_for s_X8_writeEvents (fun i => (nI i, tvWe (f_X3_empty M) i)) (tgi M 17 1).toNatClampNeg _ (fun i hi => ?_) ?_
  · have h1 : ¬ tgi (tvWe (f_X3_empty M) i) (1 + 16) 1 ≤ nI i := by rw [h0]; exact tv_nle hi
    simp only [s_X8_writeEvents, sb_X8_writeEvents, if_neg h1, tvWe, nI_1]
    split <;> rfl
  · have h1 : tgi (tvWe (f_X3_empty M) (tgi M 17 1).toNatClampNeg) (1 + 16) 1 ≤ nI (tgi M 17 1).toNatClampNeg := by rw [h0]; exact tv_le
    simp only [s_X8_writeEvents, sb_X8_writeEvents, if_pos h1, f_X8_writeEvents, tvWeM]
theorem n_X8_writeEvents (G : tvG) (M : tvM) : tvRun G yX8_writeEvents cX8_writeEvents 2 (some .int) 3 0 0 tvP0 tvP0 [.ref (G.2.1 + 0)] M (.inl (some (.int (f_X8_writeEvents M).1))) ((f_X8_writeEvents M).2) := by
  obtain ⟨n, hn⟩ := r_X8_writeEvents M 
  exact m_X8_writeEvents G M n _ hn
/-- TideVault.writeBox(I)I -/
def sb_X8_writeBox (x1 : Int32) (y2 : Int32) (M : tvM) : (Int32 × tvM) ⊕ (Option String × Int32 × tvM) := (if (f_X0_pearlsIn M 1 x1) ≤ y2 then .inr (none, (tgi M 247 1), M) else (if y2 ≤ 0 then .inl ((y2 + 1), (f_X3_addNumber M (f_X0_valueOf M 1 x1 y2))) else .inl ((y2 + 1), (f_X3_addNumber (f_X3_add M 44) (f_X0_valueOf (f_X3_add M 44) 1 x1 y2)))))
def s_X8_writeBox (x1 : Int32) : (Int32 × tvM) → (Int32 × tvM) ⊕ (Option String × Int32 × tvM) := fun q => sb_X8_writeBox x1 q.1 q.2
def e_X8_writeBox (M : tvM) (x1 : Int32) : (Int32 × tvM) ⊕ (Option String × Int32 × tvM) := (if (f_X8_refuse M (f_X8_refusalOfBoxNumber M x1)).1 = none then .inl (0, (f_X3_add (f_X3_add (f_X3_addNumber (f_X3_empty M) x1) (f_X0_statusOf (f_X3_addNumber (f_X3_empty M) x1) 1 x1)) 58)) else .inr ((f_X8_refuse M (f_X8_refusalOfBoxNumber M x1)).1, 0, M))
theorem m_X8_writeBox (G : tvG) (M : tvM) (x1 : Int32) (n : Nat) (r : (Option String × Int32 × tvM)) (hs : tvIter (s_X8_writeBox x1) n (e_X8_writeBox M x1) = some r) : tvRun G yX8_writeBox cX8_writeBox 3 (some .int) 7 1 6 tvP0 tvP0 [.ref (G.2.1 + 0), .int x1] M (tvOx (some (.int r.2.1)) r.1) r.2.2 := by
  refine tvRun.of yk_X8_writeBox rfl [some (.ref (G.2.1 + 0)), some (.int x1), none] rfl (Nat.le_of_ble_eq_true rfl) ?_
  intro E hG C hQ; subst hG
  have K : ∀ (n : Nat) (y2 : Int32) (M : tvM), tvIter (s_X8_writeBox x1) n (.inl (y2, M)) = some r → tv_W E tvP0 0 0 M 52 [some (.ref (E.G.2.1 + 0)), some (.int x1), some (.int y2)] [] := by
    intro n
    induction n with
    | zero => intro y2 M hq; exact (tvIter_0 hq).elim
    | succ n ih =>
      intro y2 M hq
      have hs : tvIter (s_X8_writeBox x1) n (sb_X8_writeBox x1 y2 M) = some r := tvIter_go hq
      refine tv_iload_n C dk_X8_writeBox_52 rfl ?_
      refine tv_aload_n C dk_X8_writeBox_53 rfl ?_
      refine tv_getR (r := 1) C dk_X8_writeBox_54 fl_RX8_12 (Nat.le_of_ble_eq_true rfl) rfl rfl (fun _ _ _ _ => rfl) ?_
      refine tv_getR (r := (1 + 6)) C dk_X8_writeBox_57 fl_RX8_75 (tvSB_sh tvSBn_1 0 (by decide)).2 (tvSB_sh tvSBn_1 0 (by decide)).1 (tvSB_rho tvSBn_1 (0, 2, 6) (by decide)) (fun _ _ _ _ => rfl) ?_
      refine tv_iload_n C dk_X8_writeBox_60 rfl ?_
      refine tv_cV1 C dk_X8_writeBox_61 ml_RX8_212 yk_X0_pearlsIn yi_X0_pearlsIn (m_X0_pearlsIn _ M tvSBn_1 x1) (tvSB_sh tvSBn_1 6 (by decide)).2 (tvSB_sh tvSBn_1 6 (by decide)).1 rfl rfl rfl (Nat.le_of_ble_eq_true rfl) (Nat.le_of_ble_eq_true rfl) (Nat.le_of_ble_eq_true rfl) (Nat.le_of_ble_eq_true rfl) (Nat.le_of_ble_eq_true rfl) ?_
      refine tv_icmp_ge C dk_X8_writeBox_64 (fun h101 => ?_) (fun h101 => ?_)
      · refine tv_aload_n C dk_X8_writeBox_105 rfl ?_
        refine tv_getR (r := 247) C dk_X8_writeBox_106 fl_RX8_39 (Nat.le_of_ble_eq_true rfl) rfl rfl (fun _ _ _ _ => rfl) ?_
        refine tv_getI C dk_X8_writeBox_109 fl_RX8_291 (Nat.le_of_ble_eq_true rfl) rfl (fun _ _ _ _ => rfl) ?_
        exact tv_iret C hQ dk_X8_writeBox_112 rfl (by rw [sb_X8_writeBox, if_pos h101] at hs; rw [← tvIter_out hs]; rfl) (by rw [sb_X8_writeBox, if_pos h101] at hs; rw [← tvIter_out hs])
      refine tv_iload_n C dk_X8_writeBox_67 rfl ?_
      refine tv_if_le C dk_X8_writeBox_68 (fun h102 => ?_) (fun h102 => ?_)
      · refine tv_aload_n C dk_X8_writeBox_80 rfl ?_
        refine tv_getR (r := 247) C dk_X8_writeBox_81 fl_RX8_39 (Nat.le_of_ble_eq_true rfl) rfl rfl (fun _ _ _ _ => rfl) ?_
        refine tv_aload_n C dk_X8_writeBox_84 rfl ?_
        refine tv_getR (r := 1) C dk_X8_writeBox_85 fl_RX8_12 (Nat.le_of_ble_eq_true rfl) rfl rfl (fun _ _ _ _ => rfl) ?_
        refine tv_getR (r := (1 + 6)) C dk_X8_writeBox_88 fl_RX8_75 (tvSB_sh tvSBn_1 0 (by decide)).2 (tvSB_sh tvSBn_1 0 (by decide)).1 (tvSB_rho tvSBn_1 (0, 2, 6) (by decide)) (fun _ _ _ _ => rfl) ?_
        refine tv_iload_n C dk_X8_writeBox_91 rfl ?_
        refine tv_iload_n C dk_X8_writeBox_92 rfl ?_
        refine tv_cV1 C dk_X8_writeBox_93 ml_RX8_220 yk_X0_valueOf yi_X0_valueOf (m_X0_valueOf _ M tvSBn_1 x1 y2) (tvSB_sh tvSBn_1 6 (by decide)).2 (tvSB_sh tvSBn_1 6 (by decide)).1 rfl rfl rfl (Nat.le_of_ble_eq_true rfl) (Nat.le_of_ble_eq_true rfl) (Nat.le_of_ble_eq_true rfl) (Nat.le_of_ble_eq_true rfl) (Nat.le_of_ble_eq_true rfl) ?_
        refine tv_cV0 C dk_X8_writeBox_96 ml_RX8_285 yk_X3_addNumber yi_X3_addNumber (m_X3_addNumber _ M (f_X0_valueOf M 1 x1 y2)) (Nat.le_of_ble_eq_true rfl) rfl rfl rfl rfl (Nat.le_of_ble_eq_true rfl) (Nat.le_of_ble_eq_true rfl) (Nat.le_of_ble_eq_true rfl) (Nat.le_of_ble_eq_true rfl) (Nat.le_of_ble_eq_true rfl) ?_
        refine tv_iinc (v := (y2 + 1)) (L' := [_, _, _]) (hn := by decide) (hlt := (Nat.le_of_ble_eq_true rfl)) (hno := rfl) C dk_X8_writeBox_99 rfl rfl rfl ?_
        refine tv_goto C dk_X8_writeBox_102 ?_
        exact (ih (y2 + 1) (f_X3_addNumber M (f_X0_valueOf M 1 x1 y2)) (by rw [sb_X8_writeBox, if_neg h101, if_pos h102] at hs; exact hs))
      refine tv_aload_n C dk_X8_writeBox_71 rfl ?_
      refine tv_getR (r := 247) C dk_X8_writeBox_72 fl_RX8_39 (Nat.le_of_ble_eq_true rfl) rfl rfl (fun _ _ _ _ => rfl) ?_
      refine tv_bipush (v := 44) C dk_X8_writeBox_75 (by decide) ?_
      refine tv_cV0 C dk_X8_writeBox_77 ml_RX8_288 yk_X3_add yi_X3_add (m_X3_add _ M 44) (Nat.le_of_ble_eq_true rfl) rfl rfl rfl rfl (Nat.le_of_ble_eq_true rfl) (Nat.le_of_ble_eq_true rfl) (Nat.le_of_ble_eq_true rfl) (Nat.le_of_ble_eq_true rfl) (Nat.le_of_ble_eq_true rfl) ?_
      refine tv_aload_n C dk_X8_writeBox_80 rfl ?_
      refine tv_getR (r := 247) C dk_X8_writeBox_81 fl_RX8_39 (Nat.le_of_ble_eq_true rfl) rfl rfl (fun _ _ _ _ => rfl) ?_
      refine tv_aload_n C dk_X8_writeBox_84 rfl ?_
      refine tv_getR (r := 1) C dk_X8_writeBox_85 fl_RX8_12 (Nat.le_of_ble_eq_true rfl) rfl rfl (fun _ _ _ _ => rfl) ?_
      refine tv_getR (r := (1 + 6)) C dk_X8_writeBox_88 fl_RX8_75 (tvSB_sh tvSBn_1 0 (by decide)).2 (tvSB_sh tvSBn_1 0 (by decide)).1 (tvSB_rho tvSBn_1 (0, 2, 6) (by decide)) (fun _ _ _ _ => rfl) ?_
      refine tv_iload_n C dk_X8_writeBox_91 rfl ?_
      refine tv_iload_n C dk_X8_writeBox_92 rfl ?_
      refine tv_cV1 C dk_X8_writeBox_93 ml_RX8_220 yk_X0_valueOf yi_X0_valueOf (m_X0_valueOf _ (f_X3_add M 44) tvSBn_1 x1 y2) (tvSB_sh tvSBn_1 6 (by decide)).2 (tvSB_sh tvSBn_1 6 (by decide)).1 rfl rfl rfl (Nat.le_of_ble_eq_true rfl) (Nat.le_of_ble_eq_true rfl) (Nat.le_of_ble_eq_true rfl) (Nat.le_of_ble_eq_true rfl) (Nat.le_of_ble_eq_true rfl) ?_
      refine tv_cV0 C dk_X8_writeBox_96 ml_RX8_285 yk_X3_addNumber yi_X3_addNumber (m_X3_addNumber _ (f_X3_add M 44) (f_X0_valueOf (f_X3_add M 44) 1 x1 y2)) (Nat.le_of_ble_eq_true rfl) rfl rfl rfl rfl (Nat.le_of_ble_eq_true rfl) (Nat.le_of_ble_eq_true rfl) (Nat.le_of_ble_eq_true rfl) (Nat.le_of_ble_eq_true rfl) (Nat.le_of_ble_eq_true rfl) ?_
      refine tv_iinc (v := (y2 + 1)) (L' := [_, _, _]) (hn := by decide) (hlt := (Nat.le_of_ble_eq_true rfl)) (hno := rfl) C dk_X8_writeBox_99 rfl rfl rfl ?_
      refine tv_goto C dk_X8_writeBox_102 ?_
      exact (ih (y2 + 1) (f_X3_addNumber (f_X3_add M 44) (f_X0_valueOf (f_X3_add M 44) 1 x1 y2)) (by rw [sb_X8_writeBox, if_neg h101, if_neg h102] at hs; exact hs))
  refine tv_aload_n C dk_X8_writeBox_0 rfl ?_
  refine tv_iload_n C dk_X8_writeBox_1 rfl ?_
  refine tv_cV1 C dk_X8_writeBox_2 ml_RX8_172 yk_X8_refusalOfBoxNumber yi_X8_refusalOfBoxNumber (m_X8_refusalOfBoxNumber _ M x1) (Nat.le_of_ble_eq_true rfl) rfl rfl rfl rfl (Nat.le_of_ble_eq_true rfl) (Nat.le_of_ble_eq_true rfl) (Nat.le_of_ble_eq_true rfl) (Nat.le_of_ble_eq_true rfl) (Nat.le_of_ble_eq_true rfl) ?_
  refine tv_cSx C dk_X8_writeBox_5 ml_RX8_54 yk_X8_refuse yi_X8_refuse (n_X8_refuse _ M (f_X8_refusalOfBoxNumber M x1)) rfl rfl (Nat.le_of_ble_eq_true rfl) (Nat.le_of_ble_eq_true rfl) (Nat.le_of_ble_eq_true rfl) (Nat.le_of_ble_eq_true rfl) (Nat.le_of_ble_eq_true rfl) rfl rfl rfl (fun _ h1e => tv_out C hQ (by rw [e_X8_writeBox, if_neg (tv_sn h1e)] at hs; rw [← tvIter_out hs]; show tvOx _ _ = _; rw [h1e]; rfl) (by rw [e_X8_writeBox, if_neg (tv_sn h1e)] at hs; rw [← tvIter_out hs])) (fun h1 => ?_)
  refine tv_aload_n C dk_X8_writeBox_8 rfl ?_
  refine tv_getR (r := 247) C dk_X8_writeBox_9 fl_RX8_39 (Nat.le_of_ble_eq_true rfl) rfl rfl (fun _ _ _ _ => rfl) ?_
  refine tv_cV0 C dk_X8_writeBox_12 ml_RX8_282 yk_X3_empty yi_X3_empty (m_X3_empty _ M) (Nat.le_of_ble_eq_true rfl) rfl rfl rfl rfl (Nat.le_of_ble_eq_true rfl) (Nat.le_of_ble_eq_true rfl) (Nat.le_of_ble_eq_true rfl) (Nat.le_of_ble_eq_true rfl) (Nat.le_of_ble_eq_true rfl) ?_
  refine tv_aload_n C dk_X8_writeBox_15 rfl ?_
  refine tv_getR (r := 247) C dk_X8_writeBox_16 fl_RX8_39 (Nat.le_of_ble_eq_true rfl) rfl rfl (fun _ _ _ _ => rfl) ?_
  refine tv_iload_n C dk_X8_writeBox_19 rfl ?_
  refine tv_cV0 C dk_X8_writeBox_20 ml_RX8_285 yk_X3_addNumber yi_X3_addNumber (m_X3_addNumber _ (f_X3_empty M) x1) (Nat.le_of_ble_eq_true rfl) rfl rfl rfl rfl (Nat.le_of_ble_eq_true rfl) (Nat.le_of_ble_eq_true rfl) (Nat.le_of_ble_eq_true rfl) (Nat.le_of_ble_eq_true rfl) (Nat.le_of_ble_eq_true rfl) ?_
  refine tv_aload_n C dk_X8_writeBox_23 rfl ?_
  refine tv_getR (r := 247) C dk_X8_writeBox_24 fl_RX8_39 (Nat.le_of_ble_eq_true rfl) rfl rfl (fun _ _ _ _ => rfl) ?_
  refine tv_aload_n C dk_X8_writeBox_27 rfl ?_
  refine tv_getR (r := 1) C dk_X8_writeBox_28 fl_RX8_12 (Nat.le_of_ble_eq_true rfl) rfl rfl (fun _ _ _ _ => rfl) ?_
  refine tv_getR (r := (1 + 6)) C dk_X8_writeBox_31 fl_RX8_75 (tvSB_sh tvSBn_1 0 (by decide)).2 (tvSB_sh tvSBn_1 0 (by decide)).1 (tvSB_rho tvSBn_1 (0, 2, 6) (by decide)) (fun _ _ _ _ => rfl) ?_
  refine tv_iload_n C dk_X8_writeBox_34 rfl ?_
  refine tv_cV1 C dk_X8_writeBox_35 ml_RX8_189 yk_X0_statusOf yi_X0_statusOf (m_X0_statusOf _ (f_X3_addNumber (f_X3_empty M) x1) tvSBn_1 x1) (tvSB_sh tvSBn_1 6 (by decide)).2 (tvSB_sh tvSBn_1 6 (by decide)).1 rfl rfl rfl (Nat.le_of_ble_eq_true rfl) (Nat.le_of_ble_eq_true rfl) (Nat.le_of_ble_eq_true rfl) (Nat.le_of_ble_eq_true rfl) (Nat.le_of_ble_eq_true rfl) ?_
  refine tv_cV0 C dk_X8_writeBox_38 ml_RX8_288 yk_X3_add yi_X3_add (m_X3_add _ (f_X3_addNumber (f_X3_empty M) x1) (f_X0_statusOf (f_X3_addNumber (f_X3_empty M) x1) 1 x1)) (Nat.le_of_ble_eq_true rfl) rfl rfl rfl rfl (Nat.le_of_ble_eq_true rfl) (Nat.le_of_ble_eq_true rfl) (Nat.le_of_ble_eq_true rfl) (Nat.le_of_ble_eq_true rfl) (Nat.le_of_ble_eq_true rfl) ?_
  refine tv_aload_n C dk_X8_writeBox_41 rfl ?_
  refine tv_getR (r := 247) C dk_X8_writeBox_42 fl_RX8_39 (Nat.le_of_ble_eq_true rfl) rfl rfl (fun _ _ _ _ => rfl) ?_
  refine tv_bipush (v := 58) C dk_X8_writeBox_45 (by decide) ?_
  refine tv_cV0 C dk_X8_writeBox_47 ml_RX8_288 yk_X3_add yi_X3_add (m_X3_add _ (f_X3_add (f_X3_addNumber (f_X3_empty M) x1) (f_X0_statusOf (f_X3_addNumber (f_X3_empty M) x1) 1 x1)) 58) (Nat.le_of_ble_eq_true rfl) rfl rfl rfl rfl (Nat.le_of_ble_eq_true rfl) (Nat.le_of_ble_eq_true rfl) (Nat.le_of_ble_eq_true rfl) (Nat.le_of_ble_eq_true rfl) (Nat.le_of_ble_eq_true rfl) ?_
  refine tv_iconst (v := 0) C dk_X8_writeBox_50 (by decide) ?_
  refine tv_istore_n (L' := [_, _, _]) (hn := by decide) (hlt := (Nat.le_of_ble_eq_true rfl)) (hno := rfl) C dk_X8_writeBox_51 rfl ?_
  exact (K n 0 (f_X3_add (f_X3_add (f_X3_addNumber (f_X3_empty M) x1) (f_X0_statusOf (f_X3_addNumber (f_X3_empty M) x1) 1 x1)) 58) (by rw [e_X8_writeBox, if_pos h1] at hs; exact hs))
def tvWb (M : tvM) (x1 : Int32) : Nat → tvM
  | 0 => M
  | i + 1 => if nI i ≤ 0 then f_X3_addNumber (tvWb M x1 i) (f_X0_valueOf (tvWb M x1 i) 1 x1 (nI i)) else f_X3_addNumber (f_X3_add (tvWb M x1 i) 44) (f_X0_valueOf (f_X3_add (tvWb M x1 i) 44) 1 x1 (nI i))
theorem tvWb_at (M : tvM) (x1 : Int32) (i : Nat) {a k : Nat} (h : a ≠ 247) (h2 : a ≠ 248) : tgi (tvWb M x1 i) a k = tgi M a k := by
  induction i with
  | zero => rfl
  | succ i ih =>
    rw [tvWb]
    split <;> simp only [f_X3_addNumber_at h h2, f_X3_add_at h h2, ih]
def tvWb0 (M : tvM) (x1 : Int32) : tvM := f_X3_add (f_X3_add (f_X3_addNumber (f_X3_empty M) x1) (f_X0_statusOf (f_X3_addNumber (f_X3_empty M) x1) 1 x1)) 58
def tvWbM (M : tvM) (x1 : Int32) : tvM := tvWb (tvWb0 M x1) x1 (f_X0_pearlsIn M 1 x1).toNatClampNeg
def f_X8_writeBox (M : tvM) (x1 : Int32) : Option String × Int32 × tvM := if (f_X8_refuse M (f_X8_refusalOfBoxNumber M x1)).1 = none then (none, tgi (tvWbM M x1) 247 1, tvWbM M x1) else ((f_X8_refuse M (f_X8_refusalOfBoxNumber M x1)).1, 0, M)
theorem r_X8_writeBox (M : tvM) (x1 : Int32) : ∃ n, tvIter (s_X8_writeBox x1) n (e_X8_writeBox M x1) = some (f_X8_writeBox M x1) := by
  unfold e_X8_writeBox f_X8_writeBox
  split
  · have hz : ∀ {a k : Nat}, a ≠ 247 → a ≠ 248 → tgi (tvWb0 M x1) a k = tgi M a k := fun h h2 => by unfold tvWb0; simp only [f_X3_add_at h h2, f_X3_addNumber_at h h2, f_X3_empty_at h]
    have h0 : ∀ i, f_X0_pearlsIn (tvWb (tvWb0 M x1) x1 i) 1 x1 = f_X0_pearlsIn M 1 x1 := fun i => f_X0_pearlsIn_of (fun k => by rw [tvWb_at _ _ _ (by decide) (by decide), hz (by decide) (by decide)]) (fun k => by rw [tvWb_at _ _ _ (by decide) (by decide), hz (by decide) (by decide)])
    refine tvIter_for (s_X8_writeBox x1) (fun i => (nI i, tvWb (tvWb0 M x1) x1 i)) (f_X0_pearlsIn M 1 x1).toNatClampNeg _ (fun i hi => ?_) ?_
    · have h1 : ¬ f_X0_pearlsIn (tvWb (tvWb0 M x1) x1 i) 1 x1 ≤ nI i := by rw [h0]; exact tv_nle hi
      simp only [s_X8_writeBox, sb_X8_writeBox, if_neg h1, tvWb, nI_1]
      split <;> rfl
    · have h1 : f_X0_pearlsIn (tvWb (tvWb0 M x1) x1 (f_X0_pearlsIn M 1 x1).toNatClampNeg) 1 x1 ≤ nI (f_X0_pearlsIn M 1 x1).toNatClampNeg := by rw [h0]; exact tv_le
      simp only [s_X8_writeBox, sb_X8_writeBox, if_pos h1, tvWbM]
  · exact ⟨0, rfl⟩
theorem n_X8_writeBox (G : tvG) (M : tvM) (x1 : Int32) : tvRun G yX8_writeBox cX8_writeBox 3 (some .int) 7 1 6 tvP0 tvP0 [.ref (G.2.1 + 0), .int x1] M (tvOx (some (.int (f_X8_writeBox M x1).2.1)) (f_X8_writeBox M x1).1) ((f_X8_writeBox M x1).2.2) := by
  obtain ⟨n, hn⟩ := r_X8_writeBox M x1 
  exact m_X8_writeBox G M x1 n _ hn
/-- TideVault.doOpeningsAgree()Z -/
def sb_X8_doOpeningsAgree (j : Nat) (y1 : Int32) (y2 : Int32) (y3 : Int32) (M : tvM) : (Nat × Int32 × Int32 × Int32 × tvM) ⊕ (Int32 × tvM) := (if j = 0 then (if y1 ≤ 0 then (if y1 = 0 then .inr (1, M) else .inr (0, M)) else (if 3840 < y2 then (if y1 = 0 then .inr (1, M) else .inr (0, M)) else (if (f_X6_minute M 21).1 ≤ 0 then .inl (0, y1, (y2 + 1), 0, (f_X6_minute M 21).2) else .inl (1, y1, y2, 0, (f_X6_minute M 21).2)))) else (if (tgi M (1 + 6) 0) ≤ y3 then .inl (0, y1, (y2 + 1), 0, M) else (if (f_X6_hasJustOpened M 21 y3) = 0 then .inl (1, y1, y2, (y3 + 1), M) else (if (f_X6_searchOpening M 1 y3) = y2 then .inl (1, (y1 + (-1)), y2, (y3 + 1), M) else .inr (0, M)))))
def s_X8_doOpeningsAgree : (Nat × Int32 × Int32 × Int32 × tvM) → (Nat × Int32 × Int32 × Int32 × tvM) ⊕ (Int32 × tvM) := fun q => sb_X8_doOpeningsAgree q.1 q.2.1 q.2.2.1 q.2.2.2.1 q.2.2.2.2
def e_X8_doOpeningsAgree (M : tvM) : (Nat × Int32 × Int32 × Int32 × tvM) ⊕ (Int32 × tvM) := .inl (0, (f_X0_countIn (f_X6_copyFrom M 21 1) 1 112), 1, 0, (f_X6_copyFrom M 21 1))
theorem m_X8_doOpeningsAgree (G : tvG) (M : tvM) (n : Nat) (r : (Int32 × tvM)) (hs : tvIter (s_X8_doOpeningsAgree) n (e_X8_doOpeningsAgree M) = some r) : tvRun G yX8_doOpeningsAgree cX8_doOpeningsAgree 4 (some .boolean) 5 0 0 tvP0 tvP0 [.ref (G.2.1 + 0)] M (.inl (some (.int r.1))) r.2 := by
  refine tvRun.of yk_X8_doOpeningsAgree rfl [some (.ref (G.2.1 + 0)), none, none, none] rfl (Nat.le_of_ble_eq_true rfl) ?_
  intro E hG C hQ; subst hG
  have K : ∀ (n : Nat) (j : Nat) (y1 : Int32) (y2 : Int32) (y3 : Int32) (M : tvM), tvIter (s_X8_doOpeningsAgree) n (.inl (j, y1, y2, y3, M)) = some r → (j = 0 → tv_W E tvP0 0 0 M 26 [some (.ref (E.G.2.1 + 0)), some (.int y1), some (.int y2), none] []) ∧ (j = 1 → tv_W E tvP0 0 0 M 49 [some (.ref (E.G.2.1 + 0)), some (.int y1), some (.int y2), some (.int y3)] []) := by
    intro n
    induction n with
    | zero => intro j y1 y2 y3 M hq; exact (tvIter_0 hq).elim
    | succ n ih =>
      intro j y1 y2 y3 M hq
      refine ⟨fun hj => ?_, fun hj => ?_⟩
      · have hj : j = 0 := hj; subst hj
        have hs : tvIter (s_X8_doOpeningsAgree) n (sb_X8_doOpeningsAgree (0 : Nat) y1 y2 y3 M) = some r := tvIter_go hq
        refine tv_iload_n C dk_X8_doOpeningsAgree_26 rfl ?_
        refine tv_if_le C dk_X8_doOpeningsAgree_27 (fun h101 => ?_) (fun h101 => ?_)
        · refine tv_iload_n C dk_X8_doOpeningsAgree_103 rfl ?_
          refine tv_if_ne C dk_X8_doOpeningsAgree_104 (fun h102 => ?_) (fun h102 => ?_)
          · refine tv_iconst (v := 0) C dk_X8_doOpeningsAgree_111 (by decide) ?_
            exact tv_iret C hQ dk_X8_doOpeningsAgree_112 rfl (by rw [sb_X8_doOpeningsAgree, if_pos rfl, if_pos h101, if_neg h102] at hs; rw [← tvIter_out hs]) (by rw [sb_X8_doOpeningsAgree, if_pos rfl, if_pos h101, if_neg h102] at hs; rw [← tvIter_out hs])
          refine tv_iconst (v := 1) C dk_X8_doOpeningsAgree_107 (by decide) ?_
          refine tv_goto C dk_X8_doOpeningsAgree_108 ?_
          exact tv_iret C hQ dk_X8_doOpeningsAgree_112 rfl (by rw [sb_X8_doOpeningsAgree, if_pos rfl, if_pos h101, if_pos h102] at hs; rw [← tvIter_out hs]) (by rw [sb_X8_doOpeningsAgree, if_pos rfl, if_pos h101, if_pos h102] at hs; rw [← tvIter_out hs])
        refine tv_iload_n C dk_X8_doOpeningsAgree_30 rfl ?_
        refine tv_sipush (v := 3840) C dk_X8_doOpeningsAgree_31 (by decide) ?_
        refine tv_icmp_gt C dk_X8_doOpeningsAgree_34 (fun h103 => ?_) (fun h103 => ?_)
        · refine tv_iload_n C dk_X8_doOpeningsAgree_103 rfl ?_
          refine tv_if_ne C dk_X8_doOpeningsAgree_104 (fun h104 => ?_) (fun h104 => ?_)
          · refine tv_iconst (v := 0) C dk_X8_doOpeningsAgree_111 (by decide) ?_
            exact tv_iret C hQ dk_X8_doOpeningsAgree_112 rfl (by rw [sb_X8_doOpeningsAgree, if_pos rfl, if_neg h101, if_pos h103, if_neg h104] at hs; rw [← tvIter_out hs]) (by rw [sb_X8_doOpeningsAgree, if_pos rfl, if_neg h101, if_pos h103, if_neg h104] at hs; rw [← tvIter_out hs])
          refine tv_iconst (v := 1) C dk_X8_doOpeningsAgree_107 (by decide) ?_
          refine tv_goto C dk_X8_doOpeningsAgree_108 ?_
          exact tv_iret C hQ dk_X8_doOpeningsAgree_112 rfl (by rw [sb_X8_doOpeningsAgree, if_pos rfl, if_neg h101, if_pos h103, if_pos h104] at hs; rw [← tvIter_out hs]) (by rw [sb_X8_doOpeningsAgree, if_pos rfl, if_neg h101, if_pos h103, if_pos h104] at hs; rw [← tvIter_out hs])
        refine tv_aload_n C dk_X8_doOpeningsAgree_37 rfl ?_
        refine tv_getR (r := 21) C dk_X8_doOpeningsAgree_38 fl_RX8_16 (Nat.le_of_ble_eq_true rfl) rfl rfl (fun _ _ _ _ => rfl) ?_
        refine tv_cV1 C dk_X8_doOpeningsAgree_41 ml_RX8_389 yk_X6_minute yi_X6_minute (n_X6_minute _ M tvSBn_21) (tvSB_sh tvSBn_21 0 (by decide)).2 (tvSB_sh tvSBn_21 0 (by decide)).1 rfl rfl rfl (Nat.le_of_ble_eq_true rfl) (Nat.le_of_ble_eq_true rfl) (Nat.le_of_ble_eq_true rfl) (Nat.le_of_ble_eq_true rfl) (Nat.le_of_ble_eq_true rfl) ?_
        refine tv_if_le C dk_X8_doOpeningsAgree_44 (fun h105 => ?_) (fun h105 => ?_)
        · refine tv_iinc (v := (y2 + 1)) (L' := [_, _, _, _]) (hn := by decide) (hlt := (Nat.le_of_ble_eq_true rfl)) (hno := rfl) C dk_X8_doOpeningsAgree_97 rfl rfl rfl ?_
          refine tv_goto C dk_X8_doOpeningsAgree_100 ?_
          exact (ih 0 y1 (y2 + 1) 0 ((f_X6_minute M 21).2) (by rw [sb_X8_doOpeningsAgree, if_pos rfl, if_neg h101, if_neg h103, if_pos h105] at hs; exact hs)).1 rfl
        refine tv_iconst (v := 0) C dk_X8_doOpeningsAgree_47 (by decide) ?_
        refine tv_istore_n (L' := [_, _, _, _]) (hn := by decide) (hlt := (Nat.le_of_ble_eq_true rfl)) (hno := rfl) C dk_X8_doOpeningsAgree_48 rfl ?_
        exact (ih 1 y1 y2 0 ((f_X6_minute M 21).2) (by rw [sb_X8_doOpeningsAgree, if_pos rfl, if_neg h101, if_neg h103, if_neg h105] at hs; exact hs)).2 rfl
      · have hj : j = 1 := hj; subst hj
        have hs : tvIter (s_X8_doOpeningsAgree) n (sb_X8_doOpeningsAgree (1 : Nat) y1 y2 y3 M) = some r := tvIter_go hq
        refine tv_iload_n C dk_X8_doOpeningsAgree_49 rfl ?_
        refine tv_aload_n C dk_X8_doOpeningsAgree_50 rfl ?_
        refine tv_getR (r := 1) C dk_X8_doOpeningsAgree_51 fl_RX8_12 (Nat.le_of_ble_eq_true rfl) rfl rfl (fun _ _ _ _ => rfl) ?_
        refine tv_getR (r := (1 + 6)) C dk_X8_doOpeningsAgree_54 fl_RX8_75 (tvSB_sh tvSBn_1 0 (by decide)).2 (tvSB_sh tvSBn_1 0 (by decide)).1 (tvSB_rho tvSBn_1 (0, 2, 6) (by decide)) (fun _ _ _ _ => rfl) ?_
        refine tv_getI C dk_X8_doOpeningsAgree_57 fl_RX8_171 (tvSB_sh tvSBn_1 6 (by decide)).2 (tvSB_sh tvSBn_1 6 (by decide)).1 (fun _ _ _ _ => rfl) ?_
        refine tv_icmp_ge C dk_X8_doOpeningsAgree_60 (fun h201 => ?_) (fun h201 => ?_)
        · refine tv_iinc (v := (y2 + 1)) (L' := [_, _, _, _]) (hn := by decide) (hlt := (Nat.le_of_ble_eq_true rfl)) (hno := rfl) C dk_X8_doOpeningsAgree_97 rfl rfl rfl ?_
          refine tv_goto C dk_X8_doOpeningsAgree_100 ?_
          refine tv_drop (L2 := [some (.ref (E.G.2.1 + 0)), some (.int y1), some (.int (y2 + 1)), none]) (by simp [tvSubL]) ?_
          exact (ih 0 y1 (y2 + 1) 0 M (by rw [sb_X8_doOpeningsAgree, if_neg (by decide), if_pos h201] at hs; exact hs)).1 rfl
        refine tv_aload_n C dk_X8_doOpeningsAgree_63 rfl ?_
        refine tv_getR (r := 21) C dk_X8_doOpeningsAgree_64 fl_RX8_16 (Nat.le_of_ble_eq_true rfl) rfl rfl (fun _ _ _ _ => rfl) ?_
        refine tv_iload_n C dk_X8_doOpeningsAgree_67 rfl ?_
        refine tv_cV1 C dk_X8_doOpeningsAgree_68 ml_RX8_392 yk_X6_hasJustOpened yi_X6_hasJustOpened (m_X6_hasJustOpened _ M tvSBn_21 y3) (tvSB_sh tvSBn_21 0 (by decide)).2 (tvSB_sh tvSBn_21 0 (by decide)).1 rfl rfl rfl (Nat.le_of_ble_eq_true rfl) (Nat.le_of_ble_eq_true rfl) (Nat.le_of_ble_eq_true rfl) (Nat.le_of_ble_eq_true rfl) (Nat.le_of_ble_eq_true rfl) ?_
        refine tv_if_eq C dk_X8_doOpeningsAgree_71 (fun h202 => ?_) (fun h202 => ?_)
        · refine tv_iinc (v := (y3 + 1)) (L' := [_, _, _, _]) (hn := by decide) (hlt := (Nat.le_of_ble_eq_true rfl)) (hno := rfl) C dk_X8_doOpeningsAgree_91 rfl rfl rfl ?_
          refine tv_goto C dk_X8_doOpeningsAgree_94 ?_
          exact (ih 1 y1 y2 (y3 + 1) M (by rw [sb_X8_doOpeningsAgree, if_neg (by decide), if_neg h201, if_pos h202] at hs; exact hs)).2 rfl
        refine tv_aload_n C dk_X8_doOpeningsAgree_74 rfl ?_
        refine tv_getR (r := 1) C dk_X8_doOpeningsAgree_75 fl_RX8_12 (Nat.le_of_ble_eq_true rfl) rfl rfl (fun _ _ _ _ => rfl) ?_
        refine tv_iload_n C dk_X8_doOpeningsAgree_78 rfl ?_
        refine tv_cV1 C dk_X8_doOpeningsAgree_79 ml_RX8_203 yk_X6_searchOpening yi_X6_searchOpening (n_X6_searchOpening _ M tvSBn_1 y3) (tvSB_sh tvSBn_1 0 (by decide)).2 (tvSB_sh tvSBn_1 0 (by decide)).1 rfl rfl rfl (Nat.le_of_ble_eq_true rfl) (Nat.le_of_ble_eq_true rfl) (Nat.le_of_ble_eq_true rfl) (Nat.le_of_ble_eq_true rfl) (Nat.le_of_ble_eq_true rfl) ?_
        refine tv_iload_n C dk_X8_doOpeningsAgree_82 rfl ?_
        refine tv_icmp_eq C dk_X8_doOpeningsAgree_83 (fun h203 => ?_) (fun h203 => ?_)
        · refine tv_iinc (v := (y1 + (-1))) (L' := [_, _, _, _]) (hn := by decide) (hlt := (Nat.le_of_ble_eq_true rfl)) (hno := rfl) C dk_X8_doOpeningsAgree_88 rfl rfl rfl ?_
          refine tv_iinc (v := (y3 + 1)) (L' := [_, _, _, _]) (hn := by decide) (hlt := (Nat.le_of_ble_eq_true rfl)) (hno := rfl) C dk_X8_doOpeningsAgree_91 rfl rfl rfl ?_
          refine tv_goto C dk_X8_doOpeningsAgree_94 ?_
          exact (ih 1 (y1 + (-1)) y2 (y3 + 1) M (by rw [sb_X8_doOpeningsAgree, if_neg (by decide), if_neg h201, if_neg h202, if_pos h203] at hs; exact hs)).2 rfl
        refine tv_iconst (v := 0) C dk_X8_doOpeningsAgree_86 (by decide) ?_
        exact tv_iret C hQ dk_X8_doOpeningsAgree_87 rfl (by rw [sb_X8_doOpeningsAgree, if_neg (by decide), if_neg h201, if_neg h202, if_neg h203] at hs; rw [← tvIter_out hs]) (by rw [sb_X8_doOpeningsAgree, if_neg (by decide), if_neg h201, if_neg h202, if_neg h203] at hs; rw [← tvIter_out hs])
  refine tv_aload_n C dk_X8_doOpeningsAgree_0 rfl ?_
  refine tv_getR (r := 21) C dk_X8_doOpeningsAgree_1 fl_RX8_16 (Nat.le_of_ble_eq_true rfl) rfl rfl (fun _ _ _ _ => rfl) ?_
  refine tv_aload_n C dk_X8_doOpeningsAgree_4 rfl ?_
  refine tv_getR (r := 1) C dk_X8_doOpeningsAgree_5 fl_RX8_12 (Nat.le_of_ble_eq_true rfl) rfl rfl (fun _ _ _ _ => rfl) ?_
  refine tv_cV0 C dk_X8_doOpeningsAgree_8 ml_RX8_206 yk_X6_copyFrom yi_X6_copyFrom (m_X6_copyFrom _ M tvSBn_21 tvSBn_1 (by decide)) (tvSB_sh tvSBn_21 0 (by decide)).2 (tvSB_sh tvSBn_21 0 (by decide)).1 rfl rfl rfl (Nat.le_of_ble_eq_true rfl) (Nat.le_of_ble_eq_true rfl) (Nat.le_of_ble_eq_true rfl) (Nat.le_of_ble_eq_true rfl) (Nat.le_of_ble_eq_true rfl) ?_
  refine tv_aload_n C dk_X8_doOpeningsAgree_11 rfl ?_
  refine tv_getR (r := 1) C dk_X8_doOpeningsAgree_12 fl_RX8_12 (Nat.le_of_ble_eq_true rfl) rfl rfl (fun _ _ _ _ => rfl) ?_
  refine tv_getR (r := (1 + 6)) C dk_X8_doOpeningsAgree_15 fl_RX8_75 (tvSB_sh tvSBn_1 0 (by decide)).2 (tvSB_sh tvSBn_1 0 (by decide)).1 (tvSB_rho tvSBn_1 (0, 2, 6) (by decide)) (fun _ _ _ _ => rfl) ?_
  refine tv_bipush (v := 112) C dk_X8_doOpeningsAgree_18 (by decide) ?_
  refine tv_cV1 C dk_X8_doOpeningsAgree_20 ml_RX8_386 yk_X0_countIn yi_X0_countIn (n_X0_countIn _ (f_X6_copyFrom M 21 1) tvSBn_1 112) (tvSB_sh tvSBn_1 6 (by decide)).2 (tvSB_sh tvSBn_1 6 (by decide)).1 rfl rfl rfl (Nat.le_of_ble_eq_true rfl) (Nat.le_of_ble_eq_true rfl) (Nat.le_of_ble_eq_true rfl) (Nat.le_of_ble_eq_true rfl) (Nat.le_of_ble_eq_true rfl) ?_
  refine tv_istore_n (L' := [_, _, _, _]) (hn := by decide) (hlt := (Nat.le_of_ble_eq_true rfl)) (hno := rfl) C dk_X8_doOpeningsAgree_23 rfl ?_
  refine tv_iconst (v := 1) C dk_X8_doOpeningsAgree_24 (by decide) ?_
  refine tv_istore_n (L' := [_, _, _, _]) (hn := by decide) (hlt := (Nat.le_of_ble_eq_true rfl)) (hno := rfl) C dk_X8_doOpeningsAgree_25 rfl ?_
  exact (K n 0 (f_X0_countIn (f_X6_copyFrom M 21 1) 1 112) 1 0 (f_X6_copyFrom M 21 1) (by rw [e_X8_doOpeningsAgree] at hs; exact hs)).1 rfl
def tvOi (M : tvM) (y2 : Int32) : Nat → Nat → Int32 → Option Int32
  | 0, _, y1 => some y1
  | n + 1, i, y1 => if f_X6_hasJustOpened M 21 (nI i) = 0 then tvOi M y2 n (i + 1) y1 else if f_X6_searchOpening M 1 (nI i) = y2 then tvOi M y2 n (i + 1) (y1 + (-1)) else none
def tvO1 (y1 : Int32) : Int32 := if y1 = 0 then 1 else 0
def tvOo : Nat → Nat → Int32 → tvM → Int32 × tvM
  | 0, _, y1, M => (tvO1 y1, M)
  | n + 1, k, y1, M => if y1 ≤ 0 then (tvO1 y1, M) else if (f_X6_minute M 21).1 ≤ 0 then tvOo n (k + 1) y1 (f_X6_minute M 21).2 else match tvOi (f_X6_minute M 21).2 (nI k) (tgi (f_X6_minute M 21).2 7 0).toNatClampNeg 0 y1 with
    | none => (0, (f_X6_minute M 21).2)
    | some z => tvOo n (k + 1) z (f_X6_minute M 21).2
def f_X8_doOpeningsAgree (M : tvM) : Int32 × tvM := tvOo 3840 1 (f_X0_countIn (f_X6_copyFrom M 21 1) 1 112) (f_X6_copyFrom M 21 1)
theorem r_X8_doOpeningsAgree (M : tvM) : ∃ n, tvIter (s_X8_doOpeningsAgree) n (e_X8_doOpeningsAgree M) = some (f_X8_doOpeningsAgree M) := by
  have inner : ∀ n i y1 k (M : tvM) (r : Int32 × tvM), i + n = (tgi M 7 0).toNatClampNeg → (∀ z, tvOi M (nI k) n i y1 = some z → ∃ m, tvIter s_X8_doOpeningsAgree m (.inl (0, z, nI (k + 1), 0, M)) = some r) → (tvOi M (nI k) n i y1 = none → r = (0, M)) → ∃ m, tvIter s_X8_doOpeningsAgree m (.inl (1, y1, nI k, nI i, M)) = some r := by
    intro n
    induction n with
    | zero =>
      intro i y1 k M r hi h1 h2
      have h : tgi M (1 + 6) 0 ≤ nI i := by rw [show i = (tgi M 7 0).toNatClampNeg by omega]; exact tv_le
      refine tvIter_1 ?_ (h1 y1 rfl)
      simp only [s_X8_doOpeningsAgree, sb_X8_doOpeningsAgree, if_neg (show ¬ (1 : Nat) = 0 by decide), if_pos h, nI_1]
    | succ n ih =>
      intro i y1 k M r hi h1 h2
      have h : ¬ tgi M (1 + 6) 0 ≤ nI i := tv_nle (show i < (tgi M 7 0).toNatClampNeg by omega)
      by_cases h3 : f_X6_hasJustOpened M 21 (nI i) = 0
      · rw [tvOi, if_pos h3] at h1 h2
        refine tvIter_1 ?_ (ih (i + 1) y1 k M r (by omega) h1 h2)
        simp only [s_X8_doOpeningsAgree, sb_X8_doOpeningsAgree, if_neg (show ¬ (1 : Nat) = 0 by decide), if_neg h, if_pos h3, nI_1]
      · by_cases h4 : f_X6_searchOpening M 1 (nI i) = nI k
        · rw [tvOi, if_neg h3, if_pos h4] at h1 h2
          refine tvIter_1 ?_ (ih (i + 1) (y1 + (-1)) k M r (by omega) h1 h2)
          simp only [s_X8_doOpeningsAgree, sb_X8_doOpeningsAgree, if_neg (show ¬ (1 : Nat) = 0 by decide), if_neg h, if_neg h3, if_pos h4, nI_1]
        · rw [tvOi, if_neg h3, if_neg h4] at h2
          refine tvIter_e ?_
          rw [h2 rfl]
          simp only [s_X8_doOpeningsAgree, sb_X8_doOpeningsAgree, if_neg (show ¬ (1 : Nat) = 0 by decide), if_neg h, if_neg h3, if_neg h4]
  have key : ∀ n k y1 (M : tvM), k + n = 3841 → ∃ m, tvIter s_X8_doOpeningsAgree m (.inl (0, y1, nI k, 0, M)) = some (tvOo n k y1 M) := by
    intro n
    induction n with
    | zero =>
      intro k y1 M hk
      have h : (3840 : Int32) < nI k := nI_lt (a := 3840) (by omega) (by omega)
      refine tvIter_e ?_
      simp only [s_X8_doOpeningsAgree, sb_X8_doOpeningsAgree, if_true, if_pos h, tvOo, tvO1]
      split <;> split <;> rfl
    | succ n ih =>
      intro k y1 M hk
      have h : ¬ (3840 : Int32) < nI k := nI_nlt (a := 3840) (by omega) (by omega)
      rw [tvOo]
      by_cases h0 : y1 ≤ 0
      · rw [if_pos h0]
        refine tvIter_e ?_
        simp only [s_X8_doOpeningsAgree, sb_X8_doOpeningsAgree, if_true, if_pos h0, tvO1]
        split <;> rfl
      · rw [if_neg h0]
        by_cases h1 : (f_X6_minute M 21).1 ≤ 0
        · rw [if_pos h1]
          refine tvIter_1 ?_ (ih (k + 1) y1 _ (by omega))
          simp only [s_X8_doOpeningsAgree, sb_X8_doOpeningsAgree, if_true, if_neg h0, if_neg h, if_pos h1, nI_1]
        · rw [if_neg h1]
          refine tvIter_1 (s' := (1, y1, nI k, nI 0, (f_X6_minute M 21).2)) ?_ (inner (tgi (f_X6_minute M 21).2 7 0).toNatClampNeg 0 y1 k _ _ (by omega) (fun z hz => ?_) (fun hz => ?_))
          · simp only [s_X8_doOpeningsAgree, sb_X8_doOpeningsAgree, if_true, if_neg h0, if_neg h, if_neg h1]
            rfl
          · rw [hz]
            exact ih (k + 1) z _ (by omega)
          · rw [hz]
  exact key 3840 1 _ _ (by omega)
theorem n_X8_doOpeningsAgree (G : tvG) (M : tvM) : tvRun G yX8_doOpeningsAgree cX8_doOpeningsAgree 4 (some .boolean) 5 0 0 tvP0 tvP0 [.ref (G.2.1 + 0)] M (.inl (some (.int (f_X8_doOpeningsAgree M).1))) ((f_X8_doOpeningsAgree M).2) := by
  obtain ⟨n, hn⟩ := r_X8_doOpeningsAgree M 
  exact m_X8_doOpeningsAgree G M n _ hn
theorem tvO1_z (y : Int32) : narrow .boolean (.int (tvO1 y)) = .int (tvO1 y) := by unfold tvO1; split <;> rfl
theorem tvOo_z : ∀ n k y1 M, narrow .boolean (.int (tvOo n k y1 M).1) = .int (tvOo n k y1 M).1 := by
  intro n
  induction n with
  | zero => intro k y1 M; exact tvO1_z _
  | succ n ih =>
    intro k y1 M
    rw [tvOo]
    split
    · exact tvO1_z _
    · split
      · exact ih _ _ _
      · split
        · rfl
        · exact ih _ _ _
theorem fz_X8_doOpeningsAgree {M : tvM} : narrow .boolean (.int (f_X8_doOpeningsAgree M).1) = .int (f_X8_doOpeningsAgree M).1 := tvOo_z _ _ _ _
/-- TideVault.isConsistent()Z -/
def f_X8_isConsistent (M : tvM) : Int32 × tvM := (if (f_X8_doOpeningsAgree M).1 = 0 then (0, (f_X8_doOpeningsAgree M).2) else (if (f_X6_doLowMinutesAgree ((f_X8_doOpeningsAgree M).2) 1) = 0 then (0, (f_X8_doOpeningsAgree M).2) else (if (lg_cmp (f_X0_sumOfAll ((f_X8_doOpeningsAgree M).2) 1) (tgl ((f_X8_doOpeningsAgree M).2) 1 8)) = 0 then (1, (f_X8_doOpeningsAgree M).2) else (0, (f_X8_doOpeningsAgree M).2))))
theorem m_X8_isConsistent (G : tvG) (M : tvM) : tvRun G yX8_isConsistent cX8_isConsistent 1 (some .boolean) 6 0 0 tvP0 tvP0 [.ref (G.2.1 + 0)] M (.inl (some (.int (f_X8_isConsistent M).1))) ((f_X8_isConsistent M).2) := by
  refine tvRun.of yk_X8_isConsistent rfl [some (.ref (G.2.1 + 0))] rfl (Nat.le_of_ble_eq_true rfl) ?_
  intro E hG C hQ; subst hG
  refine tv_aload_n C dk_X8_isConsistent_0 rfl ?_
  refine tv_cV1 C dk_X8_isConsistent_1 ml_RX8_276 yk_X8_doOpeningsAgree yi_X8_doOpeningsAgree (n_X8_doOpeningsAgree _ M) (Nat.le_of_ble_eq_true rfl) rfl rfl rfl rfl (Nat.le_of_ble_eq_true rfl) (Nat.le_of_ble_eq_true rfl) (Nat.le_of_ble_eq_true rfl) (Nat.le_of_ble_eq_true rfl) (Nat.le_of_ble_eq_true rfl) ?_
  refine tv_if_eq C dk_X8_isConsistent_4 (fun h1 => ?_) (fun h1 => ?_)
  · refine tv_iconst (v := 0) C dk_X8_isConsistent_42 (by decide) ?_
    exact tv_iret C hQ dk_X8_isConsistent_43 rfl (by rw [f_X8_isConsistent, if_pos h1]) (by rw [f_X8_isConsistent, if_pos h1])
  refine tv_aload_n C dk_X8_isConsistent_7 rfl ?_
  refine tv_getR (r := 1) C dk_X8_isConsistent_8 fl_RX8_12 (Nat.le_of_ble_eq_true rfl) rfl rfl (fun _ _ _ _ => rfl) ?_
  refine tv_cV1 C dk_X8_isConsistent_11 ml_RX8_279 yk_X6_doLowMinutesAgree yi_X6_doLowMinutesAgree (n_X6_doLowMinutesAgree _ ((f_X8_doOpeningsAgree M).2) tvSBn_1) (tvSB_sh tvSBn_1 0 (by decide)).2 (tvSB_sh tvSBn_1 0 (by decide)).1 rfl rfl rfl (Nat.le_of_ble_eq_true rfl) (Nat.le_of_ble_eq_true rfl) (Nat.le_of_ble_eq_true rfl) (Nat.le_of_ble_eq_true rfl) (Nat.le_of_ble_eq_true rfl) ?_
  refine tv_if_eq C dk_X8_isConsistent_14 (fun h2 => ?_) (fun h2 => ?_)
  · refine tv_iconst (v := 0) C dk_X8_isConsistent_42 (by decide) ?_
    exact tv_iret C hQ dk_X8_isConsistent_43 rfl (by rw [f_X8_isConsistent, if_neg h1, if_pos h2]) (by rw [f_X8_isConsistent, if_neg h1, if_pos h2])
  refine tv_aload_n C dk_X8_isConsistent_17 rfl ?_
  refine tv_getR (r := 1) C dk_X8_isConsistent_18 fl_RX8_12 (Nat.le_of_ble_eq_true rfl) rfl rfl (fun _ _ _ _ => rfl) ?_
  refine tv_getR (r := (1 + 6)) C dk_X8_isConsistent_21 fl_RX8_75 (tvSB_sh tvSBn_1 0 (by decide)).2 (tvSB_sh tvSBn_1 0 (by decide)).1 (tvSB_rho tvSBn_1 (0, 2, 6) (by decide)) (fun _ _ _ _ => rfl) ?_
  refine tv_cV1 C dk_X8_isConsistent_24 ml_RX8_232 yk_X0_sumOfAll yi_X0_sumOfAll (n_X0_sumOfAll _ ((f_X8_doOpeningsAgree M).2) tvSBn_1) (tvSB_sh tvSBn_1 6 (by decide)).2 (tvSB_sh tvSBn_1 6 (by decide)).1 rfl rfl rfl (Nat.le_of_ble_eq_true rfl) (Nat.le_of_ble_eq_true rfl) (Nat.le_of_ble_eq_true rfl) (Nat.le_of_ble_eq_true rfl) (Nat.le_of_ble_eq_true rfl) ?_
  refine tv_aload_n C dk_X8_isConsistent_27 rfl ?_
  refine tv_getR (r := 1) C dk_X8_isConsistent_28 fl_RX8_12 (Nat.le_of_ble_eq_true rfl) rfl rfl (fun _ _ _ _ => rfl) ?_
  refine tv_getL C dk_X8_isConsistent_31 fl_RX8_236 (tvSB_sh tvSBn_1 0 (by decide)).2 (tvSB_sh tvSBn_1 0 (by decide)).1 (fun _ _ _ _ => rfl) ?_
  refine tv_lcmp C dk_X8_isConsistent_34 ?_
  refine tv_if_ne C dk_X8_isConsistent_35 (fun h3 => ?_) (fun h3 => ?_)
  · refine tv_iconst (v := 0) C dk_X8_isConsistent_42 (by decide) ?_
    exact tv_iret C hQ dk_X8_isConsistent_43 rfl (by rw [f_X8_isConsistent, if_neg h1, if_neg h2, if_neg h3]) (by rw [f_X8_isConsistent, if_neg h1, if_neg h2, if_neg h3])
  refine tv_iconst (v := 1) C dk_X8_isConsistent_38 (by decide) ?_
  refine tv_goto C dk_X8_isConsistent_39 ?_
  exact tv_iret C hQ dk_X8_isConsistent_43 rfl (by rw [f_X8_isConsistent, if_neg h1, if_neg h2, if_pos h3]) (by rw [f_X8_isConsistent, if_neg h1, if_neg h2, if_pos h3])
theorem fz_X8_isConsistent {M : tvM} : narrow .boolean (.int (f_X8_isConsistent M).1) = .int ((f_X8_isConsistent M).1) := by
  unfold f_X8_isConsistent; repeat' split
  all_goals try dsimp only
  all_goals first | rfl
