theorem f_X3_empty_at {M : tvM} {a k : Nat} (h : a ≠ 247) : tgi (f_X3_empty M) a k = tgi M a k := by
  unfold f_X3_empty
  simp only [tgi_pi_ne h]
theorem f_X3_add_at {M : tvM} {x : Int32} {a k : Nat} (h : a ≠ 247) (h2 : a ≠ 248) : tgi (f_X3_add M x) a k = tgi M a k := by
  unfold f_X3_add
  repeat' split
  all_goals simp only [tgi_pi_ne h, tgi_pi_ne h2]
theorem f_X3_addNumber_at {M : tvM} {x : Int32} {a k : Nat} (h : a ≠ 247) (h2 : a ≠ 248) : tgi (f_X3_addNumber M x) a k = tgi M a k := by
  unfold f_X3_addNumber
  repeat' split
  all_goals simp only [f_X3_add_at h h2]
theorem f_X0_pearlsIn_of {M N : tvM} {b : Nat} {x : Int32} (h : ∀ k, tgi M (b + 6) k = tgi N (b + 6) k) (h2 : ∀ k, tgi M (b + 14) k = tgi N (b + 14) k) : f_X0_pearlsIn M b x = f_X0_pearlsIn N b x := by
  unfold f_X0_pearlsIn f_X0_has
  rw [h, h2]
/-- TideVault.writeEvents()I -/
def sb_X8_writeEvents (y1 : Int32) (M : tvM) : (Int32 × tvM) ⊕ (Int32 × tvM) := (if (tgi M (1 + 16) 1) ≤ y1 then .inr ((tgi M 247 1), M) else (if y1 ≤ 0 then .inl ((y1 + 1), (f_X3_addNumber (f_X3_add M (f_X4_kindOf M 1 y1)) (f_X4_numberOf (f_X3_add M (f_X4_kindOf M 1 y1)) 1 y1))) else .inl ((y1 + 1), (f_X3_addNumber (f_X3_add (f_X3_add M 32) (f_X4_kindOf (f_X3_add M 32) 1 y1)) (f_X4_numberOf (f_X3_add (f_X3_add M 32) (f_X4_kindOf (f_X3_add M 32) 1 y1)) 1 y1)))))
def s_X8_writeEvents : (Int32 × tvM) → (Int32 × tvM) ⊕ (Int32 × tvM) := fun q => sb_X8_writeEvents q.1 q.2
def e_X8_writeEvents (M : tvM) : (Int32 × tvM) ⊕ (Int32 × tvM) := .inl (0, (f_X3_empty M))
theorem m_X8_writeEvents (G : tvG) (M : tvM) (n : Nat) (r : (Int32 × tvM)) (hs : tvIter (s_X8_writeEvents) n (e_X8_writeEvents M) = some r) : tvRun G yX8_writeEvents cX8_writeEvents 2 (some .int) 3 0 0 tvP0 tvP0 [.ref (G.2.1 + 0)] M (.inl (some (.int r.1))) r.2 := by
  refine tvRun.of yk_X8_writeEvents rfl [some (.ref (G.2.1 + 0)), none] rfl (Nat.le_of_ble_eq_true rfl) ?_
  intro E hG C hQ; subst hG
  have K : ∀ (n : Nat) (y1 : Int32) (M : tvM), tvIter (s_X8_writeEvents) n (.inl (y1, M)) = some r → tv_W E tvP0 0 0 M 9 [some (.ref (E.G.2.1 + 0)), some (.int y1)] [] := by
    intro n
    induction n with
    | zero => intro y1 M hq; exact (tvIter_0 hq).elim
    | succ n ih =>
      intro y1 M hq
      have hs : tvIter (s_X8_writeEvents) n (sb_X8_writeEvents y1 M) = some r := by have h9 := tvIter_go hq; exact h9
      refine tv_iload_n C dk_X8_writeEvents_9 rfl ?_
      refine tv_aload_n C dk_X8_writeEvents_10 rfl ?_
      refine tv_getR (r := 1) C dk_X8_writeEvents_11 fl_RX8_12 (Nat.le_of_ble_eq_true rfl) rfl rfl (fun _ _ _ _ => rfl) ?_
      refine tv_getR (r := (1 + 16)) C dk_X8_writeEvents_14 fl_RX8_257 (tvSB_sh tvSBn_1 0 (by decide)).2 (tvSB_sh tvSBn_1 0 (by decide)).1 (tvSB_rho tvSBn_1 (0, 3, 16) (by decide)) (fun _ _ _ _ => rfl) ?_
      refine tv_getI C dk_X8_writeEvents_17 fl_RX8_261 (tvSB_sh tvSBn_1 16 (by decide)).2 (tvSB_sh tvSBn_1 16 (by decide)).1 (fun _ _ _ _ => rfl) ?_
      refine tv_icmp_ge C dk_X8_writeEvents_20 (fun h101 => ?_) (fun h101 => ?_)
      · refine tv_aload_n C dk_X8_writeEvents_78 rfl ?_
        refine tv_getR (r := 247) C dk_X8_writeEvents_79 fl_RX8_39 (Nat.le_of_ble_eq_true rfl) rfl rfl (fun _ _ _ _ => rfl) ?_
        refine tv_getI C dk_X8_writeEvents_82 fl_RX8_291 (Nat.le_of_ble_eq_true rfl) rfl (fun _ _ _ _ => rfl) ?_
        exact tv_iret C hQ dk_X8_writeEvents_85 rfl (by rw [sb_X8_writeEvents, if_pos h101] at hs; rw [← tvIter_out hs]) (by rw [sb_X8_writeEvents, if_pos h101] at hs; rw [← tvIter_out hs])
      refine tv_iload_n C dk_X8_writeEvents_23 rfl ?_
      refine tv_if_le C dk_X8_writeEvents_24 (fun h102 => ?_) (fun h102 => ?_)
      · refine tv_aload_n C dk_X8_writeEvents_36 rfl ?_
        refine tv_getR (r := 247) C dk_X8_writeEvents_37 fl_RX8_39 (Nat.le_of_ble_eq_true rfl) rfl rfl (fun _ _ _ _ => rfl) ?_
        refine tv_aload_n C dk_X8_writeEvents_40 rfl ?_
        refine tv_getR (r := 1) C dk_X8_writeEvents_41 fl_RX8_12 (Nat.le_of_ble_eq_true rfl) rfl rfl (fun _ _ _ _ => rfl) ?_
        refine tv_getR (r := (1 + 16)) C dk_X8_writeEvents_44 fl_RX8_257 (tvSB_sh tvSBn_1 0 (by decide)).2 (tvSB_sh tvSBn_1 0 (by decide)).1 (tvSB_rho tvSBn_1 (0, 3, 16) (by decide)) (fun _ _ _ _ => rfl) ?_
        refine tv_iload_n C dk_X8_writeEvents_47 rfl ?_
        refine tv_cV1 C dk_X8_writeEvents_48 ml_RX8_267 yk_X4_kindOf yi_X4_kindOf (m_X4_kindOf _ M tvSBn_1 y1) (tvSB_sh tvSBn_1 16 (by decide)).2 (tvSB_sh tvSBn_1 16 (by decide)).1 rfl rfl rfl (Nat.le_of_ble_eq_true rfl) (Nat.le_of_ble_eq_true rfl) (Nat.le_of_ble_eq_true rfl) (Nat.le_of_ble_eq_true rfl) (Nat.le_of_ble_eq_true rfl) ?_
        refine tv_cV0 C dk_X8_writeEvents_51 ml_RX8_288 yk_X3_add yi_X3_add (m_X3_add _ M (f_X4_kindOf M 1 y1)) (Nat.le_of_ble_eq_true rfl) rfl rfl rfl rfl (Nat.le_of_ble_eq_true rfl) (Nat.le_of_ble_eq_true rfl) (Nat.le_of_ble_eq_true rfl) (Nat.le_of_ble_eq_true rfl) (Nat.le_of_ble_eq_true rfl) ?_
        refine tv_aload_n C dk_X8_writeEvents_54 rfl ?_
        refine tv_getR (r := 247) C dk_X8_writeEvents_55 fl_RX8_39 (Nat.le_of_ble_eq_true rfl) rfl rfl (fun _ _ _ _ => rfl) ?_
        refine tv_aload_n C dk_X8_writeEvents_58 rfl ?_
        refine tv_getR (r := 1) C dk_X8_writeEvents_59 fl_RX8_12 (Nat.le_of_ble_eq_true rfl) rfl rfl (fun _ _ _ _ => rfl) ?_
        refine tv_getR (r := (1 + 16)) C dk_X8_writeEvents_62 fl_RX8_257 (tvSB_sh tvSBn_1 0 (by decide)).2 (tvSB_sh tvSBn_1 0 (by decide)).1 (tvSB_rho tvSBn_1 (0, 3, 16) (by decide)) (fun _ _ _ _ => rfl) ?_
        refine tv_iload_n C dk_X8_writeEvents_65 rfl ?_
        refine tv_cV1 C dk_X8_writeEvents_66 ml_RX8_273 yk_X4_numberOf yi_X4_numberOf (m_X4_numberOf _ (f_X3_add M (f_X4_kindOf M 1 y1)) tvSBn_1 y1) (tvSB_sh tvSBn_1 16 (by decide)).2 (tvSB_sh tvSBn_1 16 (by decide)).1 rfl rfl rfl (Nat.le_of_ble_eq_true rfl) (Nat.le_of_ble_eq_true rfl) (Nat.le_of_ble_eq_true rfl) (Nat.le_of_ble_eq_true rfl) (Nat.le_of_ble_eq_true rfl) ?_
        refine tv_cV0 C dk_X8_writeEvents_69 ml_RX8_285 yk_X3_addNumber yi_X3_addNumber (m_X3_addNumber _ (f_X3_add M (f_X4_kindOf M 1 y1)) (f_X4_numberOf (f_X3_add M (f_X4_kindOf M 1 y1)) 1 y1)) (Nat.le_of_ble_eq_true rfl) rfl rfl rfl rfl (Nat.le_of_ble_eq_true rfl) (Nat.le_of_ble_eq_true rfl) (Nat.le_of_ble_eq_true rfl) (Nat.le_of_ble_eq_true rfl) (Nat.le_of_ble_eq_true rfl) ?_
        refine tv_iinc (v := (y1 + 1)) (L' := [_, _]) (hn := by decide) (hlt := (Nat.le_of_ble_eq_true rfl)) (hno := rfl) C dk_X8_writeEvents_72 rfl rfl rfl ?_
        refine tv_goto C dk_X8_writeEvents_75 ?_
        exact (ih (y1 + 1) (f_X3_addNumber (f_X3_add M (f_X4_kindOf M 1 y1)) (f_X4_numberOf (f_X3_add M (f_X4_kindOf M 1 y1)) 1 y1)) (by rw [sb_X8_writeEvents, if_neg h101, if_pos h102] at hs; exact hs))
      refine tv_aload_n C dk_X8_writeEvents_27 rfl ?_
      refine tv_getR (r := 247) C dk_X8_writeEvents_28 fl_RX8_39 (Nat.le_of_ble_eq_true rfl) rfl rfl (fun _ _ _ _ => rfl) ?_
      refine tv_bipush (v := 32) C dk_X8_writeEvents_31 (by decide) ?_
      refine tv_cV0 C dk_X8_writeEvents_33 ml_RX8_288 yk_X3_add yi_X3_add (m_X3_add _ M 32) (Nat.le_of_ble_eq_true rfl) rfl rfl rfl rfl (Nat.le_of_ble_eq_true rfl) (Nat.le_of_ble_eq_true rfl) (Nat.le_of_ble_eq_true rfl) (Nat.le_of_ble_eq_true rfl) (Nat.le_of_ble_eq_true rfl) ?_
      refine tv_aload_n C dk_X8_writeEvents_36 rfl ?_
      refine tv_getR (r := 247) C dk_X8_writeEvents_37 fl_RX8_39 (Nat.le_of_ble_eq_true rfl) rfl rfl (fun _ _ _ _ => rfl) ?_
      refine tv_aload_n C dk_X8_writeEvents_40 rfl ?_
      refine tv_getR (r := 1) C dk_X8_writeEvents_41 fl_RX8_12 (Nat.le_of_ble_eq_true rfl) rfl rfl (fun _ _ _ _ => rfl) ?_
      refine tv_getR (r := (1 + 16)) C dk_X8_writeEvents_44 fl_RX8_257 (tvSB_sh tvSBn_1 0 (by decide)).2 (tvSB_sh tvSBn_1 0 (by decide)).1 (tvSB_rho tvSBn_1 (0, 3, 16) (by decide)) (fun _ _ _ _ => rfl) ?_
      refine tv_iload_n C dk_X8_writeEvents_47 rfl ?_
      refine tv_cV1 C dk_X8_writeEvents_48 ml_RX8_267 yk_X4_kindOf yi_X4_kindOf (m_X4_kindOf _ (f_X3_add M 32) tvSBn_1 y1) (tvSB_sh tvSBn_1 16 (by decide)).2 (tvSB_sh tvSBn_1 16 (by decide)).1 rfl rfl rfl (Nat.le_of_ble_eq_true rfl) (Nat.le_of_ble_eq_true rfl) (Nat.le_of_ble_eq_true rfl) (Nat.le_of_ble_eq_true rfl) (Nat.le_of_ble_eq_true rfl) ?_
      refine tv_cV0 C dk_X8_writeEvents_51 ml_RX8_288 yk_X3_add yi_X3_add (m_X3_add _ (f_X3_add M 32) (f_X4_kindOf (f_X3_add M 32) 1 y1)) (Nat.le_of_ble_eq_true rfl) rfl rfl rfl rfl (Nat.le_of_ble_eq_true rfl) (Nat.le_of_ble_eq_true rfl) (Nat.le_of_ble_eq_true rfl) (Nat.le_of_ble_eq_true rfl) (Nat.le_of_ble_eq_true rfl) ?_
      refine tv_aload_n C dk_X8_writeEvents_54 rfl ?_
      refine tv_getR (r := 247) C dk_X8_writeEvents_55 fl_RX8_39 (Nat.le_of_ble_eq_true rfl) rfl rfl (fun _ _ _ _ => rfl) ?_
      refine tv_aload_n C dk_X8_writeEvents_58 rfl ?_
      refine tv_getR (r := 1) C dk_X8_writeEvents_59 fl_RX8_12 (Nat.le_of_ble_eq_true rfl) rfl rfl (fun _ _ _ _ => rfl) ?_
      refine tv_getR (r := (1 + 16)) C dk_X8_writeEvents_62 fl_RX8_257 (tvSB_sh tvSBn_1 0 (by decide)).2 (tvSB_sh tvSBn_1 0 (by decide)).1 (tvSB_rho tvSBn_1 (0, 3, 16) (by decide)) (fun _ _ _ _ => rfl) ?_
      refine tv_iload_n C dk_X8_writeEvents_65 rfl ?_
      refine tv_cV1 C dk_X8_writeEvents_66 ml_RX8_273 yk_X4_numberOf yi_X4_numberOf (m_X4_numberOf _ (f_X3_add (f_X3_add M 32) (f_X4_kindOf (f_X3_add M 32) 1 y1)) tvSBn_1 y1) (tvSB_sh tvSBn_1 16 (by decide)).2 (tvSB_sh tvSBn_1 16 (by decide)).1 rfl rfl rfl (Nat.le_of_ble_eq_true rfl) (Nat.le_of_ble_eq_true rfl) (Nat.le_of_ble_eq_true rfl) (Nat.le_of_ble_eq_true rfl) (Nat.le_of_ble_eq_true rfl) ?_
      refine tv_cV0 C dk_X8_writeEvents_69 ml_RX8_285 yk_X3_addNumber yi_X3_addNumber (m_X3_addNumber _ (f_X3_add (f_X3_add M 32) (f_X4_kindOf (f_X3_add M 32) 1 y1)) (f_X4_numberOf (f_X3_add (f_X3_add M 32) (f_X4_kindOf (f_X3_add M 32) 1 y1)) 1 y1)) (Nat.le_of_ble_eq_true rfl) rfl rfl rfl rfl (Nat.le_of_ble_eq_true rfl) (Nat.le_of_ble_eq_true rfl) (Nat.le_of_ble_eq_true rfl) (Nat.le_of_ble_eq_true rfl) (Nat.le_of_ble_eq_true rfl) ?_
      refine tv_iinc (v := (y1 + 1)) (L' := [_, _]) (hn := by decide) (hlt := (Nat.le_of_ble_eq_true rfl)) (hno := rfl) C dk_X8_writeEvents_72 rfl rfl rfl ?_
      refine tv_goto C dk_X8_writeEvents_75 ?_
      exact (ih (y1 + 1) (f_X3_addNumber (f_X3_add (f_X3_add M 32) (f_X4_kindOf (f_X3_add M 32) 1 y1)) (f_X4_numberOf (f_X3_add (f_X3_add M 32) (f_X4_kindOf (f_X3_add M 32) 1 y1)) 1 y1)) (by rw [sb_X8_writeEvents, if_neg h101, if_neg h102] at hs; exact hs))
  refine tv_aload_n C dk_X8_writeEvents_0 rfl ?_
  refine tv_getR (r := 247) C dk_X8_writeEvents_1 fl_RX8_39 (Nat.le_of_ble_eq_true rfl) rfl rfl (fun _ _ _ _ => rfl) ?_
  refine tv_cV0 C dk_X8_writeEvents_4 ml_RX8_282 yk_X3_empty yi_X3_empty (m_X3_empty _ M) (Nat.le_of_ble_eq_true rfl) rfl rfl rfl rfl (Nat.le_of_ble_eq_true rfl) (Nat.le_of_ble_eq_true rfl) (Nat.le_of_ble_eq_true rfl) (Nat.le_of_ble_eq_true rfl) (Nat.le_of_ble_eq_true rfl) ?_
  refine tv_iconst (v := 0) C dk_X8_writeEvents_7 (by decide) ?_
  refine tv_istore_n (L' := [_, _]) (hn := by decide) (hlt := (Nat.le_of_ble_eq_true rfl)) (hno := rfl) C dk_X8_writeEvents_8 rfl ?_
  exact (K n 0 (f_X3_empty M) (by rw [e_X8_writeEvents] at hs; exact hs))
