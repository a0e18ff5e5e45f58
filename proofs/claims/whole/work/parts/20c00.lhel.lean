/-- addHolder -/
def f_L_addHolder (M : tvM) (x1 : Int32) : Int32 × tvM := (if (f_X8_addHolder M x1).1 = none then (0, (tpl ((f_X8_addHolder M x1).2.2) 257 0 (((f_X8_addHolder M x1).2.1).toInt64))) else (if (f_X8_addHolder M x1).1 = some "java/lang/IllegalArgumentException" then (1, (f_X8_addHolder M x1).2.2) else (2, (f_X8_addHolder M x1).2.2)))
def q_L_addHolder (M : tvM) (x1 : Int32) : Prop := (∀ e : String, (f_X8_addHolder M x1).1 = some e → e = "java/lang/IllegalArgumentException" ∨ e = "java/lang/IllegalStateException") ∧ True
theorem m_L_addHolder (G : tvG) (M : tvM) (x1 : Int32) (hq : q_L_addHolder M x1) : tvRunW G yL_addHolder cL_addHolder 4 (some .int) hh_L_addHolder 8 1 6 tvP0 tvP0 [.ref (G.2.1 + 0), .int x1, .ref (G.2.1 + 257)] M (.inl (some (.int (f_L_addHolder M x1).1))) ((f_L_addHolder M x1).2) := by
  refine tvRunW.of yw_L_addHolder rfl [some (.ref (G.2.1 + 0)), some (.int x1), some (.ref (G.2.1 + 257)), none] rfl (Nat.le_of_ble_eq_true rfl) ?_
  intro E hG C hN hQ; subst hG
  refine tv_aload_n C dk_L_addHolder_0 rfl ?_
  refine tv_iconst (v := 0) C dk_L_addHolder_1 (by decide) ?_
  refine tv_aload_n C dk_L_addHolder_2 rfl ?_
  refine tv_iload_n C dk_L_addHolder_3 rfl ?_
  refine tv_cVx C dk_L_addHolder_4 ml_RL_7 yk_X8_addHolder yi_X8_addHolder (m_X8_addHolder _ M x1) (Nat.le_of_ble_eq_true rfl) rfl rfl rfl rfl (Nat.le_of_ble_eq_true rfl) (Nat.le_of_ble_eq_true rfl) (Nat.le_of_ble_eq_true rfl) (Nat.le_of_ble_eq_true rfl) (Nat.le_of_ble_eq_true rfl) rfl rfl rfl (fun e he => ?_) (fun h1 => ?_)
  · rcases hq.1 e he with rfl | rfl
    · refine tv_catch (e := "java/lang/IllegalArgumentException") C hN [] ⟨0, 9, 12, 13⟩ [⟨0, 9, 15, 15⟩] rfl (fun z hz => nomatch hz) (by decide) (by decide) cl_RL_13 ct_1 (fun q => ?_)
      refine tv_astore_n (L' := [_, _, _, _]) (hn := by decide) (hlt := (Nat.le_of_ble_eq_true rfl)) (hno := rfl) C dk_L_addHolder_12 rfl ?_
      refine tv_iconst (v := 1) C dk_L_addHolder_13 (by decide) ?_
      exact tv_iret C hQ dk_L_addHolder_14 rfl (by rw [f_L_addHolder, if_neg (tv_sn he), if_pos he]) (by rw [f_L_addHolder, if_neg (tv_sn he), if_pos he])
    · refine tv_catch (e := "java/lang/IllegalStateException") C hN [⟨0, 9, 12, 13⟩] ⟨0, 9, 15, 15⟩ [] rfl (List.forall_mem_cons.mpr ⟨⟨by decide, "java/lang/IllegalArgumentException", cl_RL_13, List.mem_of_getElem? (i := 11) rfl⟩, (fun z hz => nomatch hz)⟩) (by decide) (by decide) cl_RL_15 ct_2 (fun q => ?_)
      refine tv_astore_n (L' := [_, _, _, _]) (hn := by decide) (hlt := (Nat.le_of_ble_eq_true rfl)) (hno := rfl) C dk_L_addHolder_15 rfl ?_
      refine tv_iconst (v := 2) C dk_L_addHolder_16 (by decide) ?_
      exact tv_iret C hQ dk_L_addHolder_17 rfl (by rw [f_L_addHolder, if_neg (tv_sn he), if_neg (fun q => absurd (Option.some.inj (he.symm.trans q)) (by decide))]) (by rw [f_L_addHolder, if_neg (tv_sn he), if_neg (fun q => absurd (Option.some.inj (he.symm.trans q)) (by decide))])
  refine tv_i2l C dk_L_addHolder_7 ?_
  refine tv_last (j := 0) rfl C tvP0_ex dk_L_addHolder_8 (Nat.le_of_ble_eq_true rfl) rfl (vp_in_nI (n := 0) (by decide) (by decide)) ?_
  refine tv_goto C dk_L_addHolder_9 ?_
  refine tv_iconst (v := 0) C dk_L_addHolder_18 (by decide) ?_
  exact tv_iret C hQ dk_L_addHolder_19 rfl (by rw [f_L_addHolder, if_pos h1]) (by rw [f_L_addHolder, if_pos h1])
/-- addBox -/
def f_L_addBox (M : tvM) (x1 : Int32) (x2 : Int32) (x3 : Int32) : Int32 × tvM := (if (f_X8_addBox M x1 x2 x3).1 = none then (0, (tpl ((f_X8_addBox M x1 x2 x3).2.2) 257 0 (((f_X8_addBox M x1 x2 x3).2.1).toInt64))) else (if (f_X8_addBox M x1 x2 x3).1 = some "java/lang/IndexOutOfBoundsException" then (1, (f_X8_addBox M x1 x2 x3).2.2) else (if (f_X8_addBox M x1 x2 x3).1 = some "java/lang/IllegalArgumentException" then (2, (f_X8_addBox M x1 x2 x3).2.2) else (3, (f_X8_addBox M x1 x2 x3).2.2))))
def q_L_addBox (M : tvM) (x1 : Int32) (x2 : Int32) (x3 : Int32) : Prop := (∀ e : String, (f_X8_addBox M x1 x2 x3).1 = some e → e = "java/lang/IndexOutOfBoundsException" ∨ e = "java/lang/IllegalArgumentException" ∨ e = "java/lang/IllegalStateException") ∧ True
theorem m_L_addBox (G : tvG) (M : tvM) (x1 : Int32) (x2 : Int32) (x3 : Int32) (hq : q_L_addBox M x1 x2 x3) : tvRunW G yL_addBox cL_addBox 6 (some .int) hh_L_addBox 8 1 6 tvP0 tvP0 [.ref (G.2.1 + 0), .int x1, .int x2, .int x3, .ref (G.2.1 + 257)] M (.inl (some (.int (f_L_addBox M x1 x2 x3).1))) ((f_L_addBox M x1 x2 x3).2) := by
  refine tvRunW.of yw_L_addBox rfl [some (.ref (G.2.1 + 0)), some (.int x1), some (.int x2), some (.int x3), some (.ref (G.2.1 + 257)), none] rfl (Nat.le_of_ble_eq_true rfl) ?_
  intro E hG C hN hQ; subst hG
  refine tv_aload C dk_L_addBox_0 rfl ?_
  refine tv_iconst (v := 0) C dk_L_addBox_2 (by decide) ?_
  refine tv_aload_n C dk_L_addBox_3 rfl ?_
  refine tv_iload_n C dk_L_addBox_4 rfl ?_
  refine tv_iload_n C dk_L_addBox_5 rfl ?_
  refine tv_iload_n C dk_L_addBox_6 rfl ?_
  refine tv_cVx C dk_L_addBox_7 ml_RL_17 yk_X8_addBox yi_X8_addBox (m_X8_addBox _ M x1 x2 x3) (Nat.le_of_ble_eq_true rfl) rfl rfl rfl rfl (Nat.le_of_ble_eq_true rfl) (Nat.le_of_ble_eq_true rfl) (Nat.le_of_ble_eq_true rfl) (Nat.le_of_ble_eq_true rfl) (Nat.le_of_ble_eq_true rfl) rfl rfl rfl (fun e he => ?_) (fun h1 => ?_)
  · rcases hq.1 e he with rfl | rfl | rfl
    · refine tv_catch (e := "java/lang/IndexOutOfBoundsException") C hN [] ⟨0, 12, 15, 21⟩ [⟨0, 12, 19, 13⟩, ⟨0, 12, 23, 15⟩] rfl (fun z hz => nomatch hz) (by decide) (by decide) cl_RL_21 ct_0 (fun q => ?_)
      refine tv_astore (L' := [_, _, _, _, _, _]) (hn := by decide) (hlt := (Nat.le_of_ble_eq_true rfl)) (hno := rfl) C dk_L_addBox_15 rfl ?_
      refine tv_iconst (v := 1) C dk_L_addBox_17 (by decide) ?_
      exact tv_iret C hQ dk_L_addBox_18 rfl (by rw [f_L_addBox, if_neg (tv_sn he), if_pos he]) (by rw [f_L_addBox, if_neg (tv_sn he), if_pos he])
    · refine tv_catch (e := "java/lang/IllegalArgumentException") C hN [⟨0, 12, 15, 21⟩] ⟨0, 12, 19, 13⟩ [⟨0, 12, 23, 15⟩] rfl (List.forall_mem_cons.mpr ⟨⟨by decide, "java/lang/IndexOutOfBoundsException", cl_RL_21, List.mem_of_getElem? (i := 5) rfl⟩, (fun z hz => nomatch hz)⟩) (by decide) (by decide) cl_RL_13 ct_1 (fun q => ?_)
      refine tv_astore (L' := [_, _, _, _, _, _]) (hn := by decide) (hlt := (Nat.le_of_ble_eq_true rfl)) (hno := rfl) C dk_L_addBox_19 rfl ?_
      refine tv_iconst (v := 2) C dk_L_addBox_21 (by decide) ?_
      exact tv_iret C hQ dk_L_addBox_22 rfl (by rw [f_L_addBox, if_neg (tv_sn he), if_neg (fun q => absurd (Option.some.inj (he.symm.trans q)) (by decide)), if_pos he]) (by rw [f_L_addBox, if_neg (tv_sn he), if_neg (fun q => absurd (Option.some.inj (he.symm.trans q)) (by decide)), if_pos he])
    · refine tv_catch (e := "java/lang/IllegalStateException") C hN [⟨0, 12, 15, 21⟩, ⟨0, 12, 19, 13⟩] ⟨0, 12, 23, 15⟩ [] rfl (List.forall_mem_cons.mpr ⟨⟨by decide, "java/lang/IndexOutOfBoundsException", cl_RL_21, List.mem_of_getElem? (i := 10) rfl⟩, (List.forall_mem_cons.mpr ⟨⟨by decide, "java/lang/IllegalArgumentException", cl_RL_13, List.mem_of_getElem? (i := 11) rfl⟩, (fun z hz => nomatch hz)⟩)⟩) (by decide) (by decide) cl_RL_15 ct_2 (fun q => ?_)
      refine tv_astore (L' := [_, _, _, _, _, _]) (hn := by decide) (hlt := (Nat.le_of_ble_eq_true rfl)) (hno := rfl) C dk_L_addBox_23 rfl ?_
      refine tv_iconst (v := 3) C dk_L_addBox_25 (by decide) ?_
      exact tv_iret C hQ dk_L_addBox_26 rfl (by rw [f_L_addBox, if_neg (tv_sn he), if_neg (fun q => absurd (Option.some.inj (he.symm.trans q)) (by decide)), if_neg (fun q => absurd (Option.some.inj (he.symm.trans q)) (by decide))]) (by rw [f_L_addBox, if_neg (tv_sn he), if_neg (fun q => absurd (Option.some.inj (he.symm.trans q)) (by decide)), if_neg (fun q => absurd (Option.some.inj (he.symm.trans q)) (by decide))])
  refine tv_i2l C dk_L_addBox_10 ?_
  refine tv_last (j := 0) rfl C tvP0_ex dk_L_addBox_11 (Nat.le_of_ble_eq_true rfl) rfl (vp_in_nI (n := 0) (by decide) (by decide)) ?_
  refine tv_goto C dk_L_addBox_12 ?_
  refine tv_iconst (v := 0) C dk_L_addBox_27 (by decide) ?_
  exact tv_iret C hQ dk_L_addBox_28 rfl (by rw [f_L_addBox, if_pos h1]) (by rw [f_L_addBox, if_pos h1])
/-- setTide -/
def f_L_setTide (M : tvM) (x1 : Int32) (x2 : Int32) : Int32 × tvM := (if (f_X8_setTide M x1 x2).1 = none then (0, (tpl ((f_X8_setTide M x1 x2).2.2) 257 0 (((f_X8_setTide M x1 x2).2.1).toInt64))) else (1, (f_X8_setTide M x1 x2).2.2))
def q_L_setTide (M : tvM) (x1 : Int32) (x2 : Int32) : Prop := (∀ e : String, (f_X8_setTide M x1 x2).1 = some e → e = "java/lang/IllegalArgumentException") ∧ True
theorem m_L_setTide (G : tvG) (M : tvM) (x1 : Int32) (x2 : Int32) (hq : q_L_setTide M x1 x2) : tvRunW G yL_setTide cL_setTide 5 (some .int) hh_L_setTide 8 1 6 tvP0 tvP0 [.ref (G.2.1 + 0), .int x1, .int x2, .ref (G.2.1 + 257)] M (.inl (some (.int (f_L_setTide M x1 x2).1))) ((f_L_setTide M x1 x2).2) := by
  refine tvRunW.of yw_L_setTide rfl [some (.ref (G.2.1 + 0)), some (.int x1), some (.int x2), some (.ref (G.2.1 + 257)), none] rfl (Nat.le_of_ble_eq_true rfl) ?_
  intro E hG C hN hQ; subst hG
  refine tv_aload_n C dk_L_setTide_0 rfl ?_
  refine tv_iconst (v := 0) C dk_L_setTide_1 (by decide) ?_
  refine tv_aload_n C dk_L_setTide_2 rfl ?_
  refine tv_iload_n C dk_L_setTide_3 rfl ?_
  refine tv_iload_n C dk_L_setTide_4 rfl ?_
  refine tv_cVx C dk_L_setTide_5 ml_RL_23 yk_X8_setTide yi_X8_setTide (m_X8_setTide _ M x1 x2) (Nat.le_of_ble_eq_true rfl) rfl rfl rfl rfl (Nat.le_of_ble_eq_true rfl) (Nat.le_of_ble_eq_true rfl) (Nat.le_of_ble_eq_true rfl) (Nat.le_of_ble_eq_true rfl) (Nat.le_of_ble_eq_true rfl) rfl rfl rfl (fun e he => ?_) (fun h1 => ?_)
  · rcases hq.1 e he with rfl
    · refine tv_catch (e := "java/lang/IllegalArgumentException") C hN [] ⟨0, 10, 13, 13⟩ [] rfl (fun z hz => nomatch hz) (by decide) (by decide) cl_RL_13 ct_1 (fun q => ?_)
      refine tv_astore (L' := [_, _, _, _, _]) (hn := by decide) (hlt := (Nat.le_of_ble_eq_true rfl)) (hno := rfl) C dk_L_setTide_13 rfl ?_
      refine tv_iconst (v := 1) C dk_L_setTide_15 (by decide) ?_
      exact tv_iret C hQ dk_L_setTide_16 rfl (by rw [f_L_setTide, if_neg (tv_sn he)]) (by rw [f_L_setTide, if_neg (tv_sn he)])
  refine tv_i2l C dk_L_setTide_8 ?_
  refine tv_last (j := 0) rfl C tvP0_ex dk_L_setTide_9 (Nat.le_of_ble_eq_true rfl) rfl (vp_in_nI (n := 0) (by decide) (by decide)) ?_
  refine tv_goto C dk_L_setTide_10 ?_
  refine tv_iconst (v := 0) C dk_L_setTide_17 (by decide) ?_
  exact tv_iret C hQ dk_L_setTide_18 rfl (by rw [f_L_setTide, if_pos h1]) (by rw [f_L_setTide, if_pos h1])
/-- turnKey -/
def f_L_turnKey (M : tvM) (x1 : Int32) (x2 : Int32) (x3 : Int32) : Int32 × tvM := (if (f_X8_turnKey M x1 x2 x3).1 = none then (0, (tpl ((f_X8_turnKey M x1 x2 x3).2.2) 257 0 (((f_X8_turnKey M x1 x2 x3).2.1).toInt64))) else (if (f_X8_turnKey M x1 x2 x3).1 = some "java/lang/IndexOutOfBoundsException" then (1, (f_X8_turnKey M x1 x2 x3).2.2) else (if (f_X8_turnKey M x1 x2 x3).1 = some "java/lang/IllegalArgumentException" then (2, (f_X8_turnKey M x1 x2 x3).2.2) else (if (f_X8_turnKey M x1 x2 x3).1 = some "java/lang/IllegalStateException" then (3, (f_X8_turnKey M x1 x2 x3).2.2) else (4, (f_X8_turnKey M x1 x2 x3).2.2)))))
def q_L_turnKey (M : tvM) (x1 : Int32) (x2 : Int32) (x3 : Int32) : Prop := (∀ e : String, (f_X8_turnKey M x1 x2 x3).1 = some e → e = "java/lang/IndexOutOfBoundsException" ∨ e = "java/lang/IllegalArgumentException" ∨ e = "java/lang/IllegalStateException" ∨ e = "java/lang/UnsupportedOperationException") ∧ True
theorem m_L_turnKey (G : tvG) (M : tvM) (x1 : Int32) (x2 : Int32) (x3 : Int32) (hq : q_L_turnKey M x1 x2 x3) : tvRunW G yL_turnKey cL_turnKey 6 (some .int) hh_L_turnKey 9 1 6 tvP0 tvP0 [.ref (G.2.1 + 0), .int x1, .int x2, .int x3, .ref (G.2.1 + 257)] M (.inl (some (.int (f_L_turnKey M x1 x2 x3).1))) ((f_L_turnKey M x1 x2 x3).2) := by
  refine tvRunW.of yw_L_turnKey rfl [some (.ref (G.2.1 + 0)), some (.int x1), some (.int x2), some (.int x3), some (.ref (G.2.1 + 257)), none] rfl (Nat.le_of_ble_eq_true rfl) ?_
  intro E hG C hN hQ; subst hG
  refine tv_aload C dk_L_turnKey_0 rfl ?_
  refine tv_iconst (v := 0) C dk_L_turnKey_2 (by decide) ?_
  refine tv_aload_n C dk_L_turnKey_3 rfl ?_
  refine tv_iload_n C dk_L_turnKey_4 rfl ?_
  refine tv_iload_n C dk_L_turnKey_5 rfl ?_
  refine tv_iload_n C dk_L_turnKey_6 rfl ?_
  refine tv_cVx C dk_L_turnKey_7 ml_RL_27 yk_X8_turnKey yi_X8_turnKey (m_X8_turnKey _ M x1 x2 x3) (Nat.le_of_ble_eq_true rfl) rfl rfl rfl rfl (Nat.le_of_ble_eq_true rfl) (Nat.le_of_ble_eq_true rfl) (Nat.le_of_ble_eq_true rfl) (Nat.le_of_ble_eq_true rfl) (Nat.le_of_ble_eq_true rfl) rfl rfl rfl (fun e he => ?_) (fun h1 => ?_)
  · rcases hq.1 e he with rfl | rfl | rfl | rfl
    · refine tv_catch (e := "java/lang/IndexOutOfBoundsException") C hN [] ⟨0, 12, 15, 21⟩ [⟨0, 12, 19, 13⟩, ⟨0, 12, 23, 15⟩, ⟨0, 12, 27, 31⟩] rfl (fun z hz => nomatch hz) (by decide) (by decide) cl_RL_21 ct_0 (fun q => ?_)
      refine tv_astore (L' := [_, _, _, _, _, _]) (hn := by decide) (hlt := (Nat.le_of_ble_eq_true rfl)) (hno := rfl) C dk_L_turnKey_15 rfl ?_
      refine tv_iconst (v := 1) C dk_L_turnKey_17 (by decide) ?_
      exact tv_iret C hQ dk_L_turnKey_18 rfl (by rw [f_L_turnKey, if_neg (tv_sn he), if_pos he]) (by rw [f_L_turnKey, if_neg (tv_sn he), if_pos he])
    · refine tv_catch (e := "java/lang/IllegalArgumentException") C hN [⟨0, 12, 15, 21⟩] ⟨0, 12, 19, 13⟩ [⟨0, 12, 23, 15⟩, ⟨0, 12, 27, 31⟩] rfl (List.forall_mem_cons.mpr ⟨⟨by decide, "java/lang/IndexOutOfBoundsException", cl_RL_21, List.mem_of_getElem? (i := 5) rfl⟩, (fun z hz => nomatch hz)⟩) (by decide) (by decide) cl_RL_13 ct_1 (fun q => ?_)
      refine tv_astore (L' := [_, _, _, _, _, _]) (hn := by decide) (hlt := (Nat.le_of_ble_eq_true rfl)) (hno := rfl) C dk_L_turnKey_19 rfl ?_
      refine tv_iconst (v := 2) C dk_L_turnKey_21 (by decide) ?_
      exact tv_iret C hQ dk_L_turnKey_22 rfl (by rw [f_L_turnKey, if_neg (tv_sn he), if_neg (fun q => absurd (Option.some.inj (he.symm.trans q)) (by decide)), if_pos he]) (by rw [f_L_turnKey, if_neg (tv_sn he), if_neg (fun q => absurd (Option.some.inj (he.symm.trans q)) (by decide)), if_pos he])
    · refine tv_catch (e := "java/lang/IllegalStateException") C hN [⟨0, 12, 15, 21⟩, ⟨0, 12, 19, 13⟩] ⟨0, 12, 23, 15⟩ [⟨0, 12, 27, 31⟩] rfl (List.forall_mem_cons.mpr ⟨⟨by decide, "java/lang/IndexOutOfBoundsException", cl_RL_21, List.mem_of_getElem? (i := 10) rfl⟩, (List.forall_mem_cons.mpr ⟨⟨by decide, "java/lang/IllegalArgumentException", cl_RL_13, List.mem_of_getElem? (i := 11) rfl⟩, (fun z hz => nomatch hz)⟩)⟩) (by decide) (by decide) cl_RL_15 ct_2 (fun q => ?_)
      refine tv_astore (L' := [_, _, _, _, _, _]) (hn := by decide) (hlt := (Nat.le_of_ble_eq_true rfl)) (hno := rfl) C dk_L_turnKey_23 rfl ?_
      refine tv_iconst (v := 3) C dk_L_turnKey_25 (by decide) ?_
      exact tv_iret C hQ dk_L_turnKey_26 rfl (by rw [f_L_turnKey, if_neg (tv_sn he), if_neg (fun q => absurd (Option.some.inj (he.symm.trans q)) (by decide)), if_neg (fun q => absurd (Option.some.inj (he.symm.trans q)) (by decide)), if_pos he]) (by rw [f_L_turnKey, if_neg (tv_sn he), if_neg (fun q => absurd (Option.some.inj (he.symm.trans q)) (by decide)), if_neg (fun q => absurd (Option.some.inj (he.symm.trans q)) (by decide)), if_pos he])
    · refine tv_catch (e := "java/lang/UnsupportedOperationException") C hN [⟨0, 12, 15, 21⟩, ⟨0, 12, 19, 13⟩, ⟨0, 12, 23, 15⟩] ⟨0, 12, 27, 31⟩ [] rfl (List.forall_mem_cons.mpr ⟨⟨by decide, "java/lang/IndexOutOfBoundsException", cl_RL_21, List.mem_of_getElem? (i := 15) rfl⟩, (List.forall_mem_cons.mpr ⟨⟨by decide, "java/lang/IllegalArgumentException", cl_RL_13, List.mem_of_getElem? (i := 16) rfl⟩, (List.forall_mem_cons.mpr ⟨⟨by decide, "java/lang/IllegalStateException", cl_RL_15, List.mem_of_getElem? (i := 17) rfl⟩, (fun z hz => nomatch hz)⟩)⟩)⟩) (by decide) (by decide) cl_RL_31 ct_3 (fun q => ?_)
      refine tv_astore (L' := [_, _, _, _, _, _]) (hn := by decide) (hlt := (Nat.le_of_ble_eq_true rfl)) (hno := rfl) C dk_L_turnKey_27 rfl ?_
      refine tv_iconst (v := 4) C dk_L_turnKey_29 (by decide) ?_
      exact tv_iret C hQ dk_L_turnKey_30 rfl (by rw [f_L_turnKey, if_neg (tv_sn he), if_neg (fun q => absurd (Option.some.inj (he.symm.trans q)) (by decide)), if_neg (fun q => absurd (Option.some.inj (he.symm.trans q)) (by decide)), if_neg (fun q => absurd (Option.some.inj (he.symm.trans q)) (by decide))]) (by rw [f_L_turnKey, if_neg (tv_sn he), if_neg (fun q => absurd (Option.some.inj (he.symm.trans q)) (by decide)), if_neg (fun q => absurd (Option.some.inj (he.symm.trans q)) (by decide)), if_neg (fun q => absurd (Option.some.inj (he.symm.trans q)) (by decide))])
  refine tv_i2l C dk_L_turnKey_10 ?_
  refine tv_last (j := 0) rfl C tvP0_ex dk_L_turnKey_11 (Nat.le_of_ble_eq_true rfl) rfl (vp_in_nI (n := 0) (by decide) (by decide)) ?_
  refine tv_goto C dk_L_turnKey_12 ?_
  refine tv_iconst (v := 0) C dk_L_turnKey_31 (by decide) ?_
  exact tv_iret C hQ dk_L_turnKey_32 rfl (by rw [f_L_turnKey, if_pos h1]) (by rw [f_L_turnKey, if_pos h1])
/-- changeCode -/
def f_L_changeCode (M : tvM) (x1 : Int32) (x2 : Int32) (x3 : Int32) : Int32 × tvM := (if (f_X8_changeCode M x1 x2 x3).1 = none then (0, (tpl ((f_X8_changeCode M x1 x2 x3).2.2) 257 0 (((f_X8_changeCode M x1 x2 x3).2.1).toInt64))) else (if (f_X8_changeCode M x1 x2 x3).1 = some "java/lang/IndexOutOfBoundsException" then (1, (f_X8_changeCode M x1 x2 x3).2.2) else (if (f_X8_changeCode M x1 x2 x3).1 = some "java/lang/IllegalArgumentException" then (2, (f_X8_changeCode M x1 x2 x3).2.2) else (if (f_X8_changeCode M x1 x2 x3).1 = some "java/lang/IllegalStateException" then (3, (f_X8_changeCode M x1 x2 x3).2.2) else (4, (f_X8_changeCode M x1 x2 x3).2.2)))))
def q_L_changeCode (M : tvM) (x1 : Int32) (x2 : Int32) (x3 : Int32) : Prop := (∀ e : String, (f_X8_changeCode M x1 x2 x3).1 = some e → e = "java/lang/IndexOutOfBoundsException" ∨ e = "java/lang/IllegalArgumentException" ∨ e = "java/lang/IllegalStateException" ∨ e = "java/lang/UnsupportedOperationException") ∧ True
theorem m_L_changeCode (G : tvG) (M : tvM) (x1 : Int32) (x2 : Int32) (x3 : Int32) (hq : q_L_changeCode M x1 x2 x3) : tvRunW G yL_changeCode cL_changeCode 6 (some .int) hh_L_changeCode 9 1 6 tvP0 tvP0 [.ref (G.2.1 + 0), .int x1, .int x2, .int x3, .ref (G.2.1 + 257)] M (.inl (some (.int (f_L_changeCode M x1 x2 x3).1))) ((f_L_changeCode M x1 x2 x3).2) := by
  refine tvRunW.of yw_L_changeCode rfl [some (.ref (G.2.1 + 0)), some (.int x1), some (.int x2), some (.int x3), some (.ref (G.2.1 + 257)), none] rfl (Nat.le_of_ble_eq_true rfl) ?_
  intro E hG C hN hQ; subst hG
  refine tv_aload C dk_L_changeCode_0 rfl ?_
  refine tv_iconst (v := 0) C dk_L_changeCode_2 (by decide) ?_
  refine tv_aload_n C dk_L_changeCode_3 rfl ?_
  refine tv_iload_n C dk_L_changeCode_4 rfl ?_
  refine tv_iload_n C dk_L_changeCode_5 rfl ?_
  refine tv_iload_n C dk_L_changeCode_6 rfl ?_
  refine tv_cVx C dk_L_changeCode_7 ml_RL_33 yk_X8_changeCode yi_X8_changeCode (m_X8_changeCode _ M x1 x2 x3) (Nat.le_of_ble_eq_true rfl) rfl rfl rfl rfl (Nat.le_of_ble_eq_true rfl) (Nat.le_of_ble_eq_true rfl) (Nat.le_of_ble_eq_true rfl) (Nat.le_of_ble_eq_true rfl) (Nat.le_of_ble_eq_true rfl) rfl rfl rfl (fun e he => ?_) (fun h1 => ?_)
  · rcases hq.1 e he with rfl | rfl | rfl | rfl
    · refine tv_catch (e := "java/lang/IndexOutOfBoundsException") C hN [] ⟨0, 12, 15, 21⟩ [⟨0, 12, 19, 13⟩, ⟨0, 12, 23, 15⟩, ⟨0, 12, 27, 31⟩] rfl (fun z hz => nomatch hz) (by decide) (by decide) cl_RL_21 ct_0 (fun q => ?_)
      refine tv_astore (L' := [_, _, _, _, _, _]) (hn := by decide) (hlt := (Nat.le_of_ble_eq_true rfl)) (hno := rfl) C dk_L_changeCode_15 rfl ?_
      refine tv_iconst (v := 1) C dk_L_changeCode_17 (by decide) ?_
      exact tv_iret C hQ dk_L_changeCode_18 rfl (by rw [f_L_changeCode, if_neg (tv_sn he), if_pos he]) (by rw [f_L_changeCode, if_neg (tv_sn he), if_pos he])
    · refine tv_catch (e := "java/lang/IllegalArgumentException") C hN [⟨0, 12, 15, 21⟩] ⟨0, 12, 19, 13⟩ [⟨0, 12, 23, 15⟩, ⟨0, 12, 27, 31⟩] rfl (List.forall_mem_cons.mpr ⟨⟨by decide, "java/lang/IndexOutOfBoundsException", cl_RL_21, List.mem_of_getElem? (i := 5) rfl⟩, (fun z hz => nomatch hz)⟩) (by decide) (by decide) cl_RL_13 ct_1 (fun q => ?_)
      refine tv_astore (L' := [_, _, _, _, _, _]) (hn := by decide) (hlt := (Nat.le_of_ble_eq_true rfl)) (hno := rfl) C dk_L_changeCode_19 rfl ?_
      refine tv_iconst (v := 2) C dk_L_changeCode_21 (by decide) ?_
      exact tv_iret C hQ dk_L_changeCode_22 rfl (by rw [f_L_changeCode, if_neg (tv_sn he), if_neg (fun q => absurd (Option.some.inj (he.symm.trans q)) (by decide)), if_pos he]) (by rw [f_L_changeCode, if_neg (tv_sn he), if_neg (fun q => absurd (Option.some.inj (he.symm.trans q)) (by decide)), if_pos he])
    · refine tv_catch (e := "java/lang/IllegalStateException") C hN [⟨0, 12, 15, 21⟩, ⟨0, 12, 19, 13⟩] ⟨0, 12, 23, 15⟩ [⟨0, 12, 27, 31⟩] rfl (List.forall_mem_cons.mpr ⟨⟨by decide, "java/lang/IndexOutOfBoundsException", cl_RL_21, List.mem_of_getElem? (i := 10) rfl⟩, (List.forall_mem_cons.mpr ⟨⟨by decide, "java/lang/IllegalArgumentException", cl_RL_13, List.mem_of_getElem? (i := 11) rfl⟩, (fun z hz => nomatch hz)⟩)⟩) (by decide) (by decide) cl_RL_15 ct_2 (fun q => ?_)
      refine tv_astore (L' := [_, _, _, _, _, _]) (hn := by decide) (hlt := (Nat.le_of_ble_eq_true rfl)) (hno := rfl) C dk_L_changeCode_23 rfl ?_
      refine tv_iconst (v := 3) C dk_L_changeCode_25 (by decide) ?_
      exact tv_iret C hQ dk_L_changeCode_26 rfl (by rw [f_L_changeCode, if_neg (tv_sn he), if_neg (fun q => absurd (Option.some.inj (he.symm.trans q)) (by decide)), if_neg (fun q => absurd (Option.some.inj (he.symm.trans q)) (by decide)), if_pos he]) (by rw [f_L_changeCode, if_neg (tv_sn he), if_neg (fun q => absurd (Option.some.inj (he.symm.trans q)) (by decide)), if_neg (fun q => absurd (Option.some.inj (he.symm.trans q)) (by decide)), if_pos he])
    · refine tv_catch (e := "java/lang/UnsupportedOperationException") C hN [⟨0, 12, 15, 21⟩, ⟨0, 12, 19, 13⟩, ⟨0, 12, 23, 15⟩] ⟨0, 12, 27, 31⟩ [] rfl (List.forall_mem_cons.mpr ⟨⟨by decide, "java/lang/IndexOutOfBoundsException", cl_RL_21, List.mem_of_getElem? (i := 15) rfl⟩, (List.forall_mem_cons.mpr ⟨⟨by decide, "java/lang/IllegalArgumentException", cl_RL_13, List.mem_of_getElem? (i := 16) rfl⟩, (List.forall_mem_cons.mpr ⟨⟨by decide, "java/lang/IllegalStateException", cl_RL_15, List.mem_of_getElem? (i := 17) rfl⟩, (fun z hz => nomatch hz)⟩)⟩)⟩) (by decide) (by decide) cl_RL_31 ct_3 (fun q => ?_)
      refine tv_astore (L' := [_, _, _, _, _, _]) (hn := by decide) (hlt := (Nat.le_of_ble_eq_true rfl)) (hno := rfl) C dk_L_changeCode_27 rfl ?_
      refine tv_iconst (v := 4) C dk_L_changeCode_29 (by decide) ?_
      exact tv_iret C hQ dk_L_changeCode_30 rfl (by rw [f_L_changeCode, if_neg (tv_sn he), if_neg (fun q => absurd (Option.some.inj (he.symm.trans q)) (by decide)), if_neg (fun q => absurd (Option.some.inj (he.symm.trans q)) (by decide)), if_neg (fun q => absurd (Option.some.inj (he.symm.trans q)) (by decide))]) (by rw [f_L_changeCode, if_neg (tv_sn he), if_neg (fun q => absurd (Option.some.inj (he.symm.trans q)) (by decide)), if_neg (fun q => absurd (Option.some.inj (he.symm.trans q)) (by decide)), if_neg (fun q => absurd (Option.some.inj (he.symm.trans q)) (by decide))])
  refine tv_i2l C dk_L_changeCode_10 ?_
  refine tv_last (j := 0) rfl C tvP0_ex dk_L_changeCode_11 (Nat.le_of_ble_eq_true rfl) rfl (vp_in_nI (n := 0) (by decide) (by decide)) ?_
  refine tv_goto C dk_L_changeCode_12 ?_
  refine tv_iconst (v := 0) C dk_L_changeCode_31 (by decide) ?_
  exact tv_iret C hQ dk_L_changeCode_32 rfl (by rw [f_L_changeCode, if_pos h1]) (by rw [f_L_changeCode, if_pos h1])
/-- deposit -/
def f_L_deposit (M : tvM) (x1 : Int32) (x2 : Int32) : Int32 × tvM := (if (f_X8_deposit M x1 x2).1 = none then (0, (tpl ((f_X8_deposit M x1 x2).2.2) 257 0 (((f_X8_deposit M x1 x2).2.1).toInt64))) else (if (f_X8_deposit M x1 x2).1 = some "java/lang/IndexOutOfBoundsException" then (1, (f_X8_deposit M x1 x2).2.2) else (if (f_X8_deposit M x1 x2).1 = some "java/lang/IllegalArgumentException" then (2, (f_X8_deposit M x1 x2).2.2) else (3, (f_X8_deposit M x1 x2).2.2))))
def q_L_deposit (M : tvM) (x1 : Int32) (x2 : Int32) : Prop := (∀ e : String, (f_X8_deposit M x1 x2).1 = some e → e = "java/lang/IndexOutOfBoundsException" ∨ e = "java/lang/IllegalArgumentException" ∨ e = "java/lang/IllegalStateException") ∧ True
theorem m_L_deposit (G : tvG) (M : tvM) (x1 : Int32) (x2 : Int32) (hq : q_L_deposit M x1 x2) : tvRunW G yL_deposit cL_deposit 5 (some .int) hh_L_deposit 8 1 6 tvP0 tvP0 [.ref (G.2.1 + 0), .int x1, .int x2, .ref (G.2.1 + 257)] M (.inl (some (.int (f_L_deposit M x1 x2).1))) ((f_L_deposit M x1 x2).2) := by
  refine tvRunW.of yw_L_deposit rfl [some (.ref (G.2.1 + 0)), some (.int x1), some (.int x2), some (.ref (G.2.1 + 257)), none] rfl (Nat.le_of_ble_eq_true rfl) ?_
  intro E hG C hN hQ; subst hG
  refine tv_aload_n C dk_L_deposit_0 rfl ?_
  refine tv_iconst (v := 0) C dk_L_deposit_1 (by decide) ?_
  refine tv_aload_n C dk_L_deposit_2 rfl ?_
  refine tv_iload_n C dk_L_deposit_3 rfl ?_
  refine tv_iload_n C dk_L_deposit_4 rfl ?_
  refine tv_cVx C dk_L_deposit_5 ml_RL_36 yk_X8_deposit yi_X8_deposit (m_X8_deposit _ M x1 x2) (Nat.le_of_ble_eq_true rfl) rfl rfl rfl rfl (Nat.le_of_ble_eq_true rfl) (Nat.le_of_ble_eq_true rfl) (Nat.le_of_ble_eq_true rfl) (Nat.le_of_ble_eq_true rfl) (Nat.le_of_ble_eq_true rfl) rfl rfl rfl (fun e he => ?_) (fun h1 => ?_)
  · rcases hq.1 e he with rfl | rfl | rfl
    · refine tv_catch (e := "java/lang/IndexOutOfBoundsException") C hN [] ⟨0, 10, 13, 21⟩ [⟨0, 10, 17, 13⟩, ⟨0, 10, 21, 15⟩] rfl (fun z hz => nomatch hz) (by decide) (by decide) cl_RL_21 ct_0 (fun q => ?_)
      refine tv_astore (L' := [_, _, _, _, _]) (hn := by decide) (hlt := (Nat.le_of_ble_eq_true rfl)) (hno := rfl) C dk_L_deposit_13 rfl ?_
      refine tv_iconst (v := 1) C dk_L_deposit_15 (by decide) ?_
      exact tv_iret C hQ dk_L_deposit_16 rfl (by rw [f_L_deposit, if_neg (tv_sn he), if_pos he]) (by rw [f_L_deposit, if_neg (tv_sn he), if_pos he])
    · refine tv_catch (e := "java/lang/IllegalArgumentException") C hN [⟨0, 10, 13, 21⟩] ⟨0, 10, 17, 13⟩ [⟨0, 10, 21, 15⟩] rfl (List.forall_mem_cons.mpr ⟨⟨by decide, "java/lang/IndexOutOfBoundsException", cl_RL_21, List.mem_of_getElem? (i := 5) rfl⟩, (fun z hz => nomatch hz)⟩) (by decide) (by decide) cl_RL_13 ct_1 (fun q => ?_)
      refine tv_astore (L' := [_, _, _, _, _]) (hn := by decide) (hlt := (Nat.le_of_ble_eq_true rfl)) (hno := rfl) C dk_L_deposit_17 rfl ?_
      refine tv_iconst (v := 2) C dk_L_deposit_19 (by decide) ?_
      exact tv_iret C hQ dk_L_deposit_20 rfl (by rw [f_L_deposit, if_neg (tv_sn he), if_neg (fun q => absurd (Option.some.inj (he.symm.trans q)) (by decide)), if_pos he]) (by rw [f_L_deposit, if_neg (tv_sn he), if_neg (fun q => absurd (Option.some.inj (he.symm.trans q)) (by decide)), if_pos he])
    · refine tv_catch (e := "java/lang/IllegalStateException") C hN [⟨0, 10, 13, 21⟩, ⟨0, 10, 17, 13⟩] ⟨0, 10, 21, 15⟩ [] rfl (List.forall_mem_cons.mpr ⟨⟨by decide, "java/lang/IndexOutOfBoundsException", cl_RL_21, List.mem_of_getElem? (i := 10) rfl⟩, (List.forall_mem_cons.mpr ⟨⟨by decide, "java/lang/IllegalArgumentException", cl_RL_13, List.mem_of_getElem? (i := 11) rfl⟩, (fun z hz => nomatch hz)⟩)⟩) (by decide) (by decide) cl_RL_15 ct_2 (fun q => ?_)
      refine tv_astore (L' := [_, _, _, _, _]) (hn := by decide) (hlt := (Nat.le_of_ble_eq_true rfl)) (hno := rfl) C dk_L_deposit_21 rfl ?_
      refine tv_iconst (v := 3) C dk_L_deposit_23 (by decide) ?_
      exact tv_iret C hQ dk_L_deposit_24 rfl (by rw [f_L_deposit, if_neg (tv_sn he), if_neg (fun q => absurd (Option.some.inj (he.symm.trans q)) (by decide)), if_neg (fun q => absurd (Option.some.inj (he.symm.trans q)) (by decide))]) (by rw [f_L_deposit, if_neg (tv_sn he), if_neg (fun q => absurd (Option.some.inj (he.symm.trans q)) (by decide)), if_neg (fun q => absurd (Option.some.inj (he.symm.trans q)) (by decide))])
  refine tv_i2l C dk_L_deposit_8 ?_
  refine tv_last (j := 0) rfl C tvP0_ex dk_L_deposit_9 (Nat.le_of_ble_eq_true rfl) rfl (vp_in_nI (n := 0) (by decide) (by decide)) ?_
  refine tv_goto C dk_L_deposit_10 ?_
  refine tv_iconst (v := 0) C dk_L_deposit_25 (by decide) ?_
  exact tv_iret C hQ dk_L_deposit_26 rfl (by rw [f_L_deposit, if_pos h1]) (by rw [f_L_deposit, if_pos h1])
/-- withdraw -/
def f_L_withdraw (M : tvM) (x1 : Int32) : Int32 × tvM := (if (f_X8_withdraw M x1).1 = none then (0, (tpl ((f_X8_withdraw M x1).2.2) 257 0 (((f_X8_withdraw M x1).2.1).toInt64))) else (if (f_X8_withdraw M x1).1 = some "java/lang/IndexOutOfBoundsException" then (1, (f_X8_withdraw M x1).2.2) else (if (f_X8_withdraw M x1).1 = some "java/lang/IllegalStateException" then (2, (f_X8_withdraw M x1).2.2) else (3, (f_X8_withdraw M x1).2.2))))
def q_L_withdraw (M : tvM) (x1 : Int32) : Prop := (∀ e : String, (f_X8_withdraw M x1).1 = some e → e = "java/lang/IndexOutOfBoundsException" ∨ e = "java/lang/IllegalStateException" ∨ e = "java/util/NoSuchElementException") ∧ True
theorem m_L_withdraw (G : tvG) (M : tvM) (x1 : Int32) (hq : q_L_withdraw M x1) : tvRunW G yL_withdraw cL_withdraw 4 (some .int) hh_L_withdraw 8 1 6 tvP0 tvP0 [.ref (G.2.1 + 0), .int x1, .ref (G.2.1 + 257)] M (.inl (some (.int (f_L_withdraw M x1).1))) ((f_L_withdraw M x1).2) := by
  refine tvRunW.of yw_L_withdraw rfl [some (.ref (G.2.1 + 0)), some (.int x1), some (.ref (G.2.1 + 257)), none] rfl (Nat.le_of_ble_eq_true rfl) ?_
  intro E hG C hN hQ; subst hG
  refine tv_aload_n C dk_L_withdraw_0 rfl ?_
  refine tv_iconst (v := 0) C dk_L_withdraw_1 (by decide) ?_
  refine tv_aload_n C dk_L_withdraw_2 rfl ?_
  refine tv_iload_n C dk_L_withdraw_3 rfl ?_
  refine tv_cVx C dk_L_withdraw_4 ml_RL_39 yk_X8_withdraw yi_X8_withdraw (m_X8_withdraw _ M x1) (Nat.le_of_ble_eq_true rfl) rfl rfl rfl rfl (Nat.le_of_ble_eq_true rfl) (Nat.le_of_ble_eq_true rfl) (Nat.le_of_ble_eq_true rfl) (Nat.le_of_ble_eq_true rfl) (Nat.le_of_ble_eq_true rfl) rfl rfl rfl (fun e he => ?_) (fun h1 => ?_)
  · rcases hq.1 e he with rfl | rfl | rfl
    · refine tv_catch (e := "java/lang/IndexOutOfBoundsException") C hN [] ⟨0, 9, 12, 21⟩ [⟨0, 9, 15, 15⟩, ⟨0, 9, 18, 42⟩] rfl (fun z hz => nomatch hz) (by decide) (by decide) cl_RL_21 ct_0 (fun q => ?_)
      refine tv_astore_n (L' := [_, _, _, _]) (hn := by decide) (hlt := (Nat.le_of_ble_eq_true rfl)) (hno := rfl) C dk_L_withdraw_12 rfl ?_
      refine tv_iconst (v := 1) C dk_L_withdraw_13 (by decide) ?_
      exact tv_iret C hQ dk_L_withdraw_14 rfl (by rw [f_L_withdraw, if_neg (tv_sn he), if_pos he]) (by rw [f_L_withdraw, if_neg (tv_sn he), if_pos he])
    · refine tv_catch (e := "java/lang/IllegalStateException") C hN [⟨0, 9, 12, 21⟩] ⟨0, 9, 15, 15⟩ [⟨0, 9, 18, 42⟩] rfl (List.forall_mem_cons.mpr ⟨⟨by decide, "java/lang/IndexOutOfBoundsException", cl_RL_21, List.mem_of_getElem? (i := 10) rfl⟩, (fun z hz => nomatch hz)⟩) (by decide) (by decide) cl_RL_15 ct_2 (fun q => ?_)
      refine tv_astore_n (L' := [_, _, _, _]) (hn := by decide) (hlt := (Nat.le_of_ble_eq_true rfl)) (hno := rfl) C dk_L_withdraw_15 rfl ?_
      refine tv_iconst (v := 2) C dk_L_withdraw_16 (by decide) ?_
      exact tv_iret C hQ dk_L_withdraw_17 rfl (by rw [f_L_withdraw, if_neg (tv_sn he), if_neg (fun q => absurd (Option.some.inj (he.symm.trans q)) (by decide)), if_pos he]) (by rw [f_L_withdraw, if_neg (tv_sn he), if_neg (fun q => absurd (Option.some.inj (he.symm.trans q)) (by decide)), if_pos he])
    · refine tv_catch (e := "java/util/NoSuchElementException") C hN [⟨0, 9, 12, 21⟩, ⟨0, 9, 15, 15⟩] ⟨0, 9, 18, 42⟩ [] rfl (List.forall_mem_cons.mpr ⟨⟨by decide, "java/lang/IndexOutOfBoundsException", cl_RL_21, List.mem_of_getElem? (i := 20) rfl⟩, (List.forall_mem_cons.mpr ⟨⟨by decide, "java/lang/IllegalStateException", cl_RL_15, List.mem_of_getElem? (i := 22) rfl⟩, (fun z hz => nomatch hz)⟩)⟩) (by decide) (by decide) cl_RL_42 ct_4 (fun q => ?_)
      refine tv_astore_n (L' := [_, _, _, _]) (hn := by decide) (hlt := (Nat.le_of_ble_eq_true rfl)) (hno := rfl) C dk_L_withdraw_18 rfl ?_
      refine tv_iconst (v := 3) C dk_L_withdraw_19 (by decide) ?_
      exact tv_iret C hQ dk_L_withdraw_20 rfl (by rw [f_L_withdraw, if_neg (tv_sn he), if_neg (fun q => absurd (Option.some.inj (he.symm.trans q)) (by decide)), if_neg (fun q => absurd (Option.some.inj (he.symm.trans q)) (by decide))]) (by rw [f_L_withdraw, if_neg (tv_sn he), if_neg (fun q => absurd (Option.some.inj (he.symm.trans q)) (by decide)), if_neg (fun q => absurd (Option.some.inj (he.symm.trans q)) (by decide))])
  refine tv_i2l C dk_L_withdraw_7 ?_
  refine tv_last (j := 0) rfl C tvP0_ex dk_L_withdraw_8 (Nat.le_of_ble_eq_true rfl) rfl (vp_in_nI (n := 0) (by decide) (by decide)) ?_
  refine tv_goto C dk_L_withdraw_9 ?_
  refine tv_iconst (v := 0) C dk_L_withdraw_21 (by decide) ?_
  exact tv_iret C hQ dk_L_withdraw_22 rfl (by rw [f_L_withdraw, if_pos h1]) (by rw [f_L_withdraw, if_pos h1])
/-- close -/
def f_L_close (M : tvM) (x1 : Int32) : Int32 × tvM := (if (f_X8_close M x1).1 = none then (0, (tpl ((f_X8_close M x1).2.2) 257 0 (((f_X8_close M x1).2.1).toInt64))) else (if (f_X8_close M x1).1 = some "java/lang/IndexOutOfBoundsException" then (1, (f_X8_close M x1).2.2) else (2, (f_X8_close M x1).2.2)))
def q_L_close (M : tvM) (x1 : Int32) : Prop := (∀ e : String, (f_X8_close M x1).1 = some e → e = "java/lang/IndexOutOfBoundsException" ∨ e = "java/lang/IllegalStateException") ∧ True
theorem m_L_close (G : tvG) (M : tvM) (x1 : Int32) (hq : q_L_close M x1) : tvRunW G yL_close cL_close 4 (some .int) hh_L_close 8 1 6 tvP0 tvP0 [.ref (G.2.1 + 0), .int x1, .ref (G.2.1 + 257)] M (.inl (some (.int (f_L_close M x1).1))) ((f_L_close M x1).2) := by
  refine tvRunW.of yw_L_close rfl [some (.ref (G.2.1 + 0)), some (.int x1), some (.ref (G.2.1 + 257)), none] rfl (Nat.le_of_ble_eq_true rfl) ?_
  intro E hG C hN hQ; subst hG
  refine tv_aload_n C dk_L_close_0 rfl ?_
  refine tv_iconst (v := 0) C dk_L_close_1 (by decide) ?_
  refine tv_aload_n C dk_L_close_2 rfl ?_
  refine tv_iload_n C dk_L_close_3 rfl ?_
  refine tv_cVx C dk_L_close_4 ml_RL_44 yk_X8_close yi_X8_close (m_X8_close _ M x1) (Nat.le_of_ble_eq_true rfl) rfl rfl rfl rfl (Nat.le_of_ble_eq_true rfl) (Nat.le_of_ble_eq_true rfl) (Nat.le_of_ble_eq_true rfl) (Nat.le_of_ble_eq_true rfl) (Nat.le_of_ble_eq_true rfl) rfl rfl rfl (fun e he => ?_) (fun h1 => ?_)
  · rcases hq.1 e he with rfl | rfl
    · refine tv_catch (e := "java/lang/IndexOutOfBoundsException") C hN [] ⟨0, 9, 12, 21⟩ [⟨0, 9, 15, 15⟩] rfl (fun z hz => nomatch hz) (by decide) (by decide) cl_RL_21 ct_0 (fun q => ?_)
      refine tv_astore_n (L' := [_, _, _, _]) (hn := by decide) (hlt := (Nat.le_of_ble_eq_true rfl)) (hno := rfl) C dk_L_close_12 rfl ?_
      refine tv_iconst (v := 1) C dk_L_close_13 (by decide) ?_
      exact tv_iret C hQ dk_L_close_14 rfl (by rw [f_L_close, if_neg (tv_sn he), if_pos he]) (by rw [f_L_close, if_neg (tv_sn he), if_pos he])
    · refine tv_catch (e := "java/lang/IllegalStateException") C hN [⟨0, 9, 12, 21⟩] ⟨0, 9, 15, 15⟩ [] rfl (List.forall_mem_cons.mpr ⟨⟨by decide, "java/lang/IndexOutOfBoundsException", cl_RL_21, List.mem_of_getElem? (i := 10) rfl⟩, (fun z hz => nomatch hz)⟩) (by decide) (by decide) cl_RL_15 ct_2 (fun q => ?_)
      refine tv_astore_n (L' := [_, _, _, _]) (hn := by decide) (hlt := (Nat.le_of_ble_eq_true rfl)) (hno := rfl) C dk_L_close_15 rfl ?_
      refine tv_iconst (v := 2) C dk_L_close_16 (by decide) ?_
      exact tv_iret C hQ dk_L_close_17 rfl (by rw [f_L_close, if_neg (tv_sn he), if_neg (fun q => absurd (Option.some.inj (he.symm.trans q)) (by decide))]) (by rw [f_L_close, if_neg (tv_sn he), if_neg (fun q => absurd (Option.some.inj (he.symm.trans q)) (by decide))])
  refine tv_i2l C dk_L_close_7 ?_
  refine tv_last (j := 0) rfl C tvP0_ex dk_L_close_8 (Nat.le_of_ble_eq_true rfl) rfl (vp_in_nI (n := 0) (by decide) (by decide)) ?_
  refine tv_goto C dk_L_close_9 ?_
  refine tv_iconst (v := 0) C dk_L_close_18 (by decide) ?_
  exact tv_iret C hQ dk_L_close_19 rfl (by rw [f_L_close, if_pos h1]) (by rw [f_L_close, if_pos h1])
/-- pass -/
def f_L_pass (M : tvM) (x1 : Int32) : Int32 × tvM := (if (f_X8_pass M x1).1 = none then (0, (tpl ((f_X8_pass M x1).2.2) 257 0 (((f_X8_pass M x1).2.1).toInt64))) else (1, (f_X8_pass M x1).2.2))
def q_L_pass (M : tvM) (x1 : Int32) : Prop := (∀ e : String, (f_X8_pass M x1).1 = some e → e = "java/lang/IllegalArgumentException") ∧ True
theorem m_L_pass (G : tvG) (M : tvM) (x1 : Int32) (hq : q_L_pass M x1) : tvRunW G yL_pass cL_pass 4 (some .int) hh_L_pass 8 1 6 tvP0 tvP0 [.ref (G.2.1 + 0), .int x1, .ref (G.2.1 + 257)] M (.inl (some (.int (f_L_pass M x1).1))) ((f_L_pass M x1).2) := by
  refine tvRunW.of yw_L_pass rfl [some (.ref (G.2.1 + 0)), some (.int x1), some (.ref (G.2.1 + 257)), none] rfl (Nat.le_of_ble_eq_true rfl) ?_
  intro E hG C hN hQ; subst hG
  refine tv_aload_n C dk_L_pass_0 rfl ?_
  refine tv_iconst (v := 0) C dk_L_pass_1 (by decide) ?_
  refine tv_aload_n C dk_L_pass_2 rfl ?_
  refine tv_iload_n C dk_L_pass_3 rfl ?_
  refine tv_cVx C dk_L_pass_4 ml_RL_47 yk_X8_pass yi_X8_pass (m_X8_pass _ M x1) (Nat.le_of_ble_eq_true rfl) rfl rfl rfl rfl (Nat.le_of_ble_eq_true rfl) (Nat.le_of_ble_eq_true rfl) (Nat.le_of_ble_eq_true rfl) (Nat.le_of_ble_eq_true rfl) (Nat.le_of_ble_eq_true rfl) rfl rfl rfl (fun e he => ?_) (fun h1 => ?_)
  · rcases hq.1 e he with rfl
    · refine tv_catch (e := "java/lang/IllegalArgumentException") C hN [] ⟨0, 9, 12, 13⟩ [] rfl (fun z hz => nomatch hz) (by decide) (by decide) cl_RL_13 ct_1 (fun q => ?_)
      refine tv_astore_n (L' := [_, _, _, _]) (hn := by decide) (hlt := (Nat.le_of_ble_eq_true rfl)) (hno := rfl) C dk_L_pass_12 rfl ?_
      refine tv_iconst (v := 1) C dk_L_pass_13 (by decide) ?_
      exact tv_iret C hQ dk_L_pass_14 rfl (by rw [f_L_pass, if_neg (tv_sn he)]) (by rw [f_L_pass, if_neg (tv_sn he)])
  refine tv_i2l C dk_L_pass_7 ?_
  refine tv_last (j := 0) rfl C tvP0_ex dk_L_pass_8 (Nat.le_of_ble_eq_true rfl) rfl (vp_in_nI (n := 0) (by decide) (by decide)) ?_
  refine tv_goto C dk_L_pass_9 ?_
  refine tv_iconst (v := 0) C dk_L_pass_15 (by decide) ?_
  exact tv_iret C hQ dk_L_pass_16 rfl (by rw [f_L_pass, if_pos h1]) (by rw [f_L_pass, if_pos h1])
/-- lowMinutes -/
def f_L_lowMinutes (M : tvM) (x1 : Int32) : Int32 × tvM := (if (f_X8_lowMinutes M x1).1 = none then (0, (tpl M 257 0 (((f_X8_lowMinutes M x1).2.1).toInt64))) else (1, M))
def q_L_lowMinutes (M : tvM) (x1 : Int32) : Prop := (∀ e : String, (f_X8_lowMinutes M x1).1 = some e → e = "java/lang/IllegalArgumentException") ∧ True
theorem m_L_lowMinutes (G : tvG) (M : tvM) (x1 : Int32) (hq : q_L_lowMinutes M x1) : tvRunW G yL_lowMinutes cL_lowMinutes 4 (some .int) hh_L_lowMinutes 8 1 6 tvP0 tvP0 [.ref (G.2.1 + 0), .int x1, .ref (G.2.1 + 257)] M (.inl (some (.int (f_L_lowMinutes M x1).1))) ((f_L_lowMinutes M x1).2) := by
  refine tvRunW.of yw_L_lowMinutes rfl [some (.ref (G.2.1 + 0)), some (.int x1), some (.ref (G.2.1 + 257)), none] rfl (Nat.le_of_ble_eq_true rfl) ?_
  intro E hG C hN hQ; subst hG
  refine tv_aload_n C dk_L_lowMinutes_0 rfl ?_
  refine tv_iconst (v := 0) C dk_L_lowMinutes_1 (by decide) ?_
  refine tv_aload_n C dk_L_lowMinutes_2 rfl ?_
  refine tv_iload_n C dk_L_lowMinutes_3 rfl ?_
  refine tv_cVx C dk_L_lowMinutes_4 ml_RL_50 yk_X8_lowMinutes yi_X8_lowMinutes (m_X8_lowMinutes _ M x1) (Nat.le_of_ble_eq_true rfl) rfl rfl rfl rfl (Nat.le_of_ble_eq_true rfl) (Nat.le_of_ble_eq_true rfl) (Nat.le_of_ble_eq_true rfl) (Nat.le_of_ble_eq_true rfl) (Nat.le_of_ble_eq_true rfl) rfl rfl rfl (fun e he => ?_) (fun h1 => ?_)
  · rcases hq.1 e he with rfl
    · refine tv_catch (e := "java/lang/IllegalArgumentException") C hN [] ⟨0, 9, 12, 13⟩ [] rfl (fun z hz => nomatch hz) (by decide) (by decide) cl_RL_13 ct_1 (fun q => ?_)
      refine tv_astore_n (L' := [_, _, _, _]) (hn := by decide) (hlt := (Nat.le_of_ble_eq_true rfl)) (hno := rfl) C dk_L_lowMinutes_12 rfl ?_
      refine tv_iconst (v := 1) C dk_L_lowMinutes_13 (by decide) ?_
      exact tv_iret C hQ dk_L_lowMinutes_14 rfl (by rw [f_L_lowMinutes, if_neg (tv_sn he)]) (by rw [f_L_lowMinutes, if_neg (tv_sn he)])
  refine tv_i2l C dk_L_lowMinutes_7 ?_
  refine tv_last (j := 0) rfl C tvP0_ex dk_L_lowMinutes_8 (Nat.le_of_ble_eq_true rfl) rfl (vp_in_nI (n := 0) (by decide) (by decide)) ?_
  refine tv_goto C dk_L_lowMinutes_9 ?_
  refine tv_iconst (v := 0) C dk_L_lowMinutes_15 (by decide) ?_
  exact tv_iret C hQ dk_L_lowMinutes_16 rfl (by rw [f_L_lowMinutes, if_pos h1]) (by rw [f_L_lowMinutes, if_pos h1])
/-- lowMinutesByCounting -/
def f_L_lowMinutesByCounting (M : tvM) (x1 : Int32) : Int32 × tvM := (if (f_X8_lowMinutesByCounting M x1).1 = none then (0, (tpl M 257 0 (((f_X8_lowMinutesByCounting M x1).2.1).toInt64))) else (1, M))
def q_L_lowMinutesByCounting (M : tvM) (x1 : Int32) : Prop := (∀ e : String, (f_X8_lowMinutesByCounting M x1).1 = some e → e = "java/lang/IllegalArgumentException") ∧ True
theorem m_L_lowMinutesByCounting (G : tvG) (M : tvM) (x1 : Int32) (hq : q_L_lowMinutesByCounting M x1) : tvRunW G yL_lowMinutesByCounting cL_lowMinutesByCounting 4 (some .int) hh_L_lowMinutesByCounting 8 1 6 tvP0 tvP0 [.ref (G.2.1 + 0), .int x1, .ref (G.2.1 + 257)] M (.inl (some (.int (f_L_lowMinutesByCounting M x1).1))) ((f_L_lowMinutesByCounting M x1).2) := by
  refine tvRunW.of yw_L_lowMinutesByCounting rfl [some (.ref (G.2.1 + 0)), some (.int x1), some (.ref (G.2.1 + 257)), none] rfl (Nat.le_of_ble_eq_true rfl) ?_
  intro E hG C hN hQ; subst hG
  refine tv_aload_n C dk_L_lowMinutesByCounting_0 rfl ?_
  refine tv_iconst (v := 0) C dk_L_lowMinutesByCounting_1 (by decide) ?_
  refine tv_aload_n C dk_L_lowMinutesByCounting_2 rfl ?_
  refine tv_iload_n C dk_L_lowMinutesByCounting_3 rfl ?_
  refine tv_cVx C dk_L_lowMinutesByCounting_4 ml_RL_53 yk_X8_lowMinutesByCounting yi_X8_lowMinutesByCounting (m_X8_lowMinutesByCounting _ M x1) (Nat.le_of_ble_eq_true rfl) rfl rfl rfl rfl (Nat.le_of_ble_eq_true rfl) (Nat.le_of_ble_eq_true rfl) (Nat.le_of_ble_eq_true rfl) (Nat.le_of_ble_eq_true rfl) (Nat.le_of_ble_eq_true rfl) rfl rfl rfl (fun e he => ?_) (fun h1 => ?_)
  · rcases hq.1 e he with rfl
    · refine tv_catch (e := "java/lang/IllegalArgumentException") C hN [] ⟨0, 9, 12, 13⟩ [] rfl (fun z hz => nomatch hz) (by decide) (by decide) cl_RL_13 ct_1 (fun q => ?_)
      refine tv_astore_n (L' := [_, _, _, _]) (hn := by decide) (hlt := (Nat.le_of_ble_eq_true rfl)) (hno := rfl) C dk_L_lowMinutesByCounting_12 rfl ?_
      refine tv_iconst (v := 1) C dk_L_lowMinutesByCounting_13 (by decide) ?_
      exact tv_iret C hQ dk_L_lowMinutesByCounting_14 rfl (by rw [f_L_lowMinutesByCounting, if_neg (tv_sn he)]) (by rw [f_L_lowMinutesByCounting, if_neg (tv_sn he)])
  refine tv_i2l C dk_L_lowMinutesByCounting_7 ?_
  refine tv_last (j := 0) rfl C tvP0_ex dk_L_lowMinutesByCounting_8 (Nat.le_of_ble_eq_true rfl) rfl (vp_in_nI (n := 0) (by decide) (by decide)) ?_
  refine tv_goto C dk_L_lowMinutesByCounting_9 ?_
  refine tv_iconst (v := 0) C dk_L_lowMinutesByCounting_15 (by decide) ?_
  exact tv_iret C hQ dk_L_lowMinutesByCounting_16 rfl (by rw [f_L_lowMinutesByCounting, if_pos h1]) (by rw [f_L_lowMinutesByCounting, if_pos h1])
/-- attempts -/
def f_L_attempts (M : tvM) (x1 : Int32) : Int32 × tvM := (if (f_X8_attempts M x1).1 = none then (0, (tpl M 257 0 (((f_X8_attempts M x1).2.1).toInt64))) else (1, M))
def q_L_attempts (M : tvM) (x1 : Int32) : Prop := (∀ e : String, (f_X8_attempts M x1).1 = some e → e = "java/lang/IndexOutOfBoundsException") ∧ True
theorem m_L_attempts (G : tvG) (M : tvM) (x1 : Int32) (hq : q_L_attempts M x1) : tvRunW G yL_attempts cL_attempts 4 (some .int) hh_L_attempts 8 1 6 tvP0 tvP0 [.ref (G.2.1 + 0), .int x1, .ref (G.2.1 + 257)] M (.inl (some (.int (f_L_attempts M x1).1))) ((f_L_attempts M x1).2) := by
  refine tvRunW.of yw_L_attempts rfl [some (.ref (G.2.1 + 0)), some (.int x1), some (.ref (G.2.1 + 257)), none] rfl (Nat.le_of_ble_eq_true rfl) ?_
  intro E hG C hN hQ; subst hG
  refine tv_aload_n C dk_L_attempts_0 rfl ?_
  refine tv_iconst (v := 0) C dk_L_attempts_1 (by decide) ?_
  refine tv_aload_n C dk_L_attempts_2 rfl ?_
  refine tv_iload_n C dk_L_attempts_3 rfl ?_
  refine tv_cVx C dk_L_attempts_4 ml_RL_56 yk_X8_attempts yi_X8_attempts (m_X8_attempts _ M x1) (Nat.le_of_ble_eq_true rfl) rfl rfl rfl rfl (Nat.le_of_ble_eq_true rfl) (Nat.le_of_ble_eq_true rfl) (Nat.le_of_ble_eq_true rfl) (Nat.le_of_ble_eq_true rfl) (Nat.le_of_ble_eq_true rfl) rfl rfl rfl (fun e he => ?_) (fun h1 => ?_)
  · rcases hq.1 e he with rfl
    · refine tv_catch (e := "java/lang/IndexOutOfBoundsException") C hN [] ⟨0, 9, 12, 21⟩ [] rfl (fun z hz => nomatch hz) (by decide) (by decide) cl_RL_21 ct_0 (fun q => ?_)
      refine tv_astore_n (L' := [_, _, _, _]) (hn := by decide) (hlt := (Nat.le_of_ble_eq_true rfl)) (hno := rfl) C dk_L_attempts_12 rfl ?_
      refine tv_iconst (v := 1) C dk_L_attempts_13 (by decide) ?_
      exact tv_iret C hQ dk_L_attempts_14 rfl (by rw [f_L_attempts, if_neg (tv_sn he)]) (by rw [f_L_attempts, if_neg (tv_sn he)])
  refine tv_i2l C dk_L_attempts_7 ?_
  refine tv_last (j := 0) rfl C tvP0_ex dk_L_attempts_8 (Nat.le_of_ble_eq_true rfl) rfl (vp_in_nI (n := 0) (by decide) (by decide)) ?_
  refine tv_goto C dk_L_attempts_9 ?_
  refine tv_iconst (v := 0) C dk_L_attempts_15 (by decide) ?_
  exact tv_iret C hQ dk_L_attempts_16 rfl (by rw [f_L_attempts, if_pos h1]) (by rw [f_L_attempts, if_pos h1])
/-- minutesLocked -/
def f_L_minutesLocked (M : tvM) (x1 : Int32) : Int32 × tvM := (if (f_X8_minutesLocked M x1).1 = none then (0, (tpl M 257 0 (((f_X8_minutesLocked M x1).2.1).toInt64))) else (1, M))
def q_L_minutesLocked (M : tvM) (x1 : Int32) : Prop := (∀ e : String, (f_X8_minutesLocked M x1).1 = some e → e = "java/lang/IndexOutOfBoundsException") ∧ True
theorem m_L_minutesLocked (G : tvG) (M : tvM) (x1 : Int32) (hq : q_L_minutesLocked M x1) : tvRunW G yL_minutesLocked cL_minutesLocked 4 (some .int) hh_L_minutesLocked 8 1 6 tvP0 tvP0 [.ref (G.2.1 + 0), .int x1, .ref (G.2.1 + 257)] M (.inl (some (.int (f_L_minutesLocked M x1).1))) ((f_L_minutesLocked M x1).2) := by
  refine tvRunW.of yw_L_minutesLocked rfl [some (.ref (G.2.1 + 0)), some (.int x1), some (.ref (G.2.1 + 257)), none] rfl (Nat.le_of_ble_eq_true rfl) ?_
  intro E hG C hN hQ; subst hG
  refine tv_aload_n C dk_L_minutesLocked_0 rfl ?_
  refine tv_iconst (v := 0) C dk_L_minutesLocked_1 (by decide) ?_
  refine tv_aload_n C dk_L_minutesLocked_2 rfl ?_
  refine tv_iload_n C dk_L_minutesLocked_3 rfl ?_
  refine tv_cVx C dk_L_minutesLocked_4 ml_RL_59 yk_X8_minutesLocked yi_X8_minutesLocked (m_X8_minutesLocked _ M x1) (Nat.le_of_ble_eq_true rfl) rfl rfl rfl rfl (Nat.le_of_ble_eq_true rfl) (Nat.le_of_ble_eq_true rfl) (Nat.le_of_ble_eq_true rfl) (Nat.le_of_ble_eq_true rfl) (Nat.le_of_ble_eq_true rfl) rfl rfl rfl (fun e he => ?_) (fun h1 => ?_)
  · rcases hq.1 e he with rfl
    · refine tv_catch (e := "java/lang/IndexOutOfBoundsException") C hN [] ⟨0, 9, 12, 21⟩ [] rfl (fun z hz => nomatch hz) (by decide) (by decide) cl_RL_21 ct_0 (fun q => ?_)
      refine tv_astore_n (L' := [_, _, _, _]) (hn := by decide) (hlt := (Nat.le_of_ble_eq_true rfl)) (hno := rfl) C dk_L_minutesLocked_12 rfl ?_
      refine tv_iconst (v := 1) C dk_L_minutesLocked_13 (by decide) ?_
      exact tv_iret C hQ dk_L_minutesLocked_14 rfl (by rw [f_L_minutesLocked, if_neg (tv_sn he)]) (by rw [f_L_minutesLocked, if_neg (tv_sn he)])
  refine tv_i2l C dk_L_minutesLocked_7 ?_
  refine tv_last (j := 0) rfl C tvP0_ex dk_L_minutesLocked_8 (Nat.le_of_ble_eq_true rfl) rfl (vp_in_nI (n := 0) (by decide) (by decide)) ?_
  refine tv_goto C dk_L_minutesLocked_9 ?_
  refine tv_iconst (v := 0) C dk_L_minutesLocked_15 (by decide) ?_
  exact tv_iret C hQ dk_L_minutesLocked_16 rfl (by rw [f_L_minutesLocked, if_pos h1]) (by rw [f_L_minutesLocked, if_pos h1])
