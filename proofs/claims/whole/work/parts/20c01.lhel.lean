/-- boxesOf -/
def f_L_boxesOf (M : tvM) (x1 : Int32) : Int32 × tvM := (if (f_X8_boxesOf M x1).1 = none then (0, (tpl M 257 0 (((f_X8_boxesOf M x1).2.1).toInt64))) else (1, M))
def q_L_boxesOf (M : tvM) (x1 : Int32) : Prop := (∀ e : String, (f_X8_boxesOf M x1).1 = some e → e = "java/lang/IndexOutOfBoundsException") ∧ True
theorem m_L_boxesOf (G : tvG) (M : tvM) (x1 : Int32) (hq : q_L_boxesOf M x1) : tvRunW G yL_boxesOf cL_boxesOf 4 (some .int) hh_L_boxesOf 8 1 6 tvP0 tvP0 [.ref (G.2.1 + 0), .int x1, .ref (G.2.1 + 257)] M (.inl (some (.int (f_L_boxesOf M x1).1))) ((f_L_boxesOf M x1).2) := by
  refine tvRunW.of yw_L_boxesOf rfl [some (.ref (G.2.1 + 0)), some (.int x1), some (.ref (G.2.1 + 257)), none] rfl (Nat.le_of_ble_eq_true rfl) ?_
  intro E hG C hN hQ; subst hG
  refine tv_aload_n C dk_L_boxesOf_0 rfl ?_
  refine tv_iconst (v := 0) C dk_L_boxesOf_1 (by decide) ?_
  refine tv_aload_n C dk_L_boxesOf_2 rfl ?_
  refine tv_iload_n C dk_L_boxesOf_3 rfl ?_
  refine tv_cVx C dk_L_boxesOf_4 ml_RL_62 yk_X8_boxesOf yi_X8_boxesOf (m_X8_boxesOf _ M x1) (Nat.le_of_ble_eq_true rfl) rfl rfl rfl rfl (Nat.le_of_ble_eq_true rfl) (Nat.le_of_ble_eq_true rfl) (Nat.le_of_ble_eq_true rfl) (Nat.le_of_ble_eq_true rfl) (Nat.le_of_ble_eq_true rfl) rfl rfl rfl (fun e he => ?_) (fun h1 => ?_)
  · rcases hq.1 e he with rfl
    · refine tv_catch (e := "java/lang/IndexOutOfBoundsException") C hN [] ⟨0, 9, 12, 21⟩ [] rfl (fun z hz => nomatch hz) (by decide) (by decide) cl_RL_21 ct_0 (fun q => ?_)
      refine tv_astore_n (L' := [_, _, _, _]) (hn := by decide) (hlt := (Nat.le_of_ble_eq_true rfl)) (hno := rfl) C dk_L_boxesOf_12 rfl ?_
      refine tv_iconst (v := 1) C dk_L_boxesOf_13 (by decide) ?_
      exact tv_iret C hQ dk_L_boxesOf_14 rfl (by rw [f_L_boxesOf, if_neg (tv_sn he)]) (by rw [f_L_boxesOf, if_neg (tv_sn he)])
  refine tv_i2l C dk_L_boxesOf_7 ?_
  refine tv_last (j := 0) rfl C tvP0_ex dk_L_boxesOf_8 (Nat.le_of_ble_eq_true rfl) rfl (vp_in_nI (n := 0) (by decide) (by decide)) ?_
  refine tv_goto C dk_L_boxesOf_9 ?_
  refine tv_iconst (v := 0) C dk_L_boxesOf_15 (by decide) ?_
  exact tv_iret C hQ dk_L_boxesOf_16 rfl (by rw [f_L_boxesOf, if_pos h1]) (by rw [f_L_boxesOf, if_pos h1])
/-- otherHolder -/
def f_L_otherHolder (M : tvM) (x1 : Int32) (x2 : Int32) : Int32 × tvM := (if (f_X8_otherHolder M x1 x2).1 = none then (0, (tpl M 257 0 (((f_X8_otherHolder M x1 x2).2.1).toInt64))) else (if (f_X8_otherHolder M x1 x2).1 = some "java/lang/IndexOutOfBoundsException" then (1, M) else (2, M)))
def q_L_otherHolder (M : tvM) (x1 : Int32) (x2 : Int32) : Prop := (∀ e : String, (f_X8_otherHolder M x1 x2).1 = some e → e = "java/lang/IndexOutOfBoundsException" ∨ e = "java/lang/IllegalArgumentException") ∧ True
theorem m_L_otherHolder (G : tvG) (M : tvM) (x1 : Int32) (x2 : Int32) (hq : q_L_otherHolder M x1 x2) : tvRunW G yL_otherHolder cL_otherHolder 5 (some .int) hh_L_otherHolder 8 2 12 tvP0 tvP0 [.ref (G.2.1 + 0), .int x1, .int x2, .ref (G.2.1 + 257)] M (.inl (some (.int (f_L_otherHolder M x1 x2).1))) ((f_L_otherHolder M x1 x2).2) := by
  refine tvRunW.of yw_L_otherHolder rfl [some (.ref (G.2.1 + 0)), some (.int x1), some (.int x2), some (.ref (G.2.1 + 257)), none] rfl (Nat.le_of_ble_eq_true rfl) ?_
  intro E hG C hN hQ; subst hG
  refine tv_aload_n C dk_L_otherHolder_0 rfl ?_
  refine tv_iconst (v := 0) C dk_L_otherHolder_1 (by decide) ?_
  refine tv_aload_n C dk_L_otherHolder_2 rfl ?_
  refine tv_iload_n C dk_L_otherHolder_3 rfl ?_
  refine tv_iload_n C dk_L_otherHolder_4 rfl ?_
  refine tv_cVx C dk_L_otherHolder_5 ml_RL_65 yk_X8_otherHolder yi_X8_otherHolder (m_X8_otherHolder _ M x1 x2) (Nat.le_of_ble_eq_true rfl) rfl rfl rfl rfl (Nat.le_of_ble_eq_true rfl) (Nat.le_of_ble_eq_true rfl) (Nat.le_of_ble_eq_true rfl) (Nat.le_of_ble_eq_true rfl) (Nat.le_of_ble_eq_true rfl) rfl rfl rfl (fun e he => ?_) (fun h1 => ?_)
  · rcases hq.1 e he with rfl | rfl
    · refine tv_catch (e := "java/lang/IndexOutOfBoundsException") C hN [] ⟨0, 10, 13, 21⟩ [⟨0, 10, 17, 13⟩] rfl (fun z hz => nomatch hz) (by decide) (by decide) cl_RL_21 ct_0 (fun q => ?_)
      refine tv_astore (L' := [_, _, _, _, _]) (hn := by decide) (hlt := (Nat.le_of_ble_eq_true rfl)) (hno := rfl) C dk_L_otherHolder_13 rfl ?_
      refine tv_iconst (v := 1) C dk_L_otherHolder_15 (by decide) ?_
      exact tv_iret C hQ dk_L_otherHolder_16 rfl (by rw [f_L_otherHolder, if_neg (tv_sn he), if_pos he]) (by rw [f_L_otherHolder, if_neg (tv_sn he), if_pos he])
    · refine tv_catch (e := "java/lang/IllegalArgumentException") C hN [⟨0, 10, 13, 21⟩] ⟨0, 10, 17, 13⟩ [] rfl (List.forall_mem_cons.mpr ⟨⟨by decide, "java/lang/IndexOutOfBoundsException", cl_RL_21, List.mem_of_getElem? (i := 5) rfl⟩, (fun z hz => nomatch hz)⟩) (by decide) (by decide) cl_RL_13 ct_1 (fun q => ?_)
      refine tv_astore (L' := [_, _, _, _, _]) (hn := by decide) (hlt := (Nat.le_of_ble_eq_true rfl)) (hno := rfl) C dk_L_otherHolder_17 rfl ?_
      refine tv_iconst (v := 2) C dk_L_otherHolder_19 (by decide) ?_
      exact tv_iret C hQ dk_L_otherHolder_20 rfl (by rw [f_L_otherHolder, if_neg (tv_sn he), if_neg (fun q => absurd (Option.some.inj (he.symm.trans q)) (by decide))]) (by rw [f_L_otherHolder, if_neg (tv_sn he), if_neg (fun q => absurd (Option.some.inj (he.symm.trans q)) (by decide))])
  refine tv_i2l C dk_L_otherHolder_8 ?_
  refine tv_last (j := 0) rfl C tvP0_ex dk_L_otherHolder_9 (Nat.le_of_ble_eq_true rfl) rfl (vp_in_nI (n := 0) (by decide) (by decide)) ?_
  refine tv_goto C dk_L_otherHolder_10 ?_
  refine tv_iconst (v := 0) C dk_L_otherHolder_21 (by decide) ?_
  exact tv_iret C hQ dk_L_otherHolder_22 rfl (by rw [f_L_otherHolder, if_pos h1]) (by rw [f_L_otherHolder, if_pos h1])
/-- status -/
def f_L_status (M : tvM) (x1 : Int32) : Int32 × tvM := (if (f_X8_status M x1).1 = none then (0, (tpl M 257 0 (((f_X8_status M x1).2.1).toInt64))) else (1, M))
def q_L_status (M : tvM) (x1 : Int32) : Prop := (∀ e : String, (f_X8_status M x1).1 = some e → e = "java/lang/IndexOutOfBoundsException") ∧ True
theorem m_L_status (G : tvG) (M : tvM) (x1 : Int32) (hq : q_L_status M x1) : tvRunW G yL_status cL_status 4 (some .int) hh_L_status 8 1 6 tvP0 tvP0 [.ref (G.2.1 + 0), .int x1, .ref (G.2.1 + 257)] M (.inl (some (.int (f_L_status M x1).1))) ((f_L_status M x1).2) := by
  refine tvRunW.of yw_L_status rfl [some (.ref (G.2.1 + 0)), some (.int x1), some (.ref (G.2.1 + 257)), none] rfl (Nat.le_of_ble_eq_true rfl) ?_
  intro E hG C hN hQ; subst hG
  refine tv_aload_n C dk_L_status_0 rfl ?_
  refine tv_iconst (v := 0) C dk_L_status_1 (by decide) ?_
  refine tv_aload_n C dk_L_status_2 rfl ?_
  refine tv_iload_n C dk_L_status_3 rfl ?_
  refine tv_cVx C dk_L_status_4 ml_RL_68 yk_X8_status yi_X8_status (m_X8_status _ M x1) (Nat.le_of_ble_eq_true rfl) rfl rfl rfl rfl (Nat.le_of_ble_eq_true rfl) (Nat.le_of_ble_eq_true rfl) (Nat.le_of_ble_eq_true rfl) (Nat.le_of_ble_eq_true rfl) (Nat.le_of_ble_eq_true rfl) rfl rfl rfl (fun e he => ?_) (fun h1 => ?_)
  · rcases hq.1 e he with rfl
    · refine tv_catch (e := "java/lang/IndexOutOfBoundsException") C hN [] ⟨0, 9, 12, 21⟩ [] rfl (fun z hz => nomatch hz) (by decide) (by decide) cl_RL_21 ct_0 (fun q => ?_)
      refine tv_astore_n (L' := [_, _, _, _]) (hn := by decide) (hlt := (Nat.le_of_ble_eq_true rfl)) (hno := rfl) C dk_L_status_12 rfl ?_
      refine tv_iconst (v := 1) C dk_L_status_13 (by decide) ?_
      exact tv_iret C hQ dk_L_status_14 rfl (by rw [f_L_status, if_neg (tv_sn he)]) (by rw [f_L_status, if_neg (tv_sn he)])
  refine tv_i2l C dk_L_status_7 ?_
  refine tv_last (j := 0) rfl C tvP0_ex dk_L_status_8 (Nat.le_of_ble_eq_true rfl) rfl (vp_in_nI (n := 0) (by decide) (by decide)) ?_
  refine tv_goto C dk_L_status_9 ?_
  refine tv_iconst (v := 0) C dk_L_status_15 (by decide) ?_
  exact tv_iret C hQ dk_L_status_16 rfl (by rw [f_L_status, if_pos h1]) (by rw [f_L_status, if_pos h1])
/-- firstHolder -/
def f_L_firstHolder (M : tvM) (x1 : Int32) : Int32 × tvM := (if (f_X8_firstHolder M x1).1 = none then (0, (tpl M 257 0 (((f_X8_firstHolder M x1).2.1).toInt64))) else (if (f_X8_firstHolder M x1).1 = some "java/lang/IndexOutOfBoundsException" then (1, M) else (2, M)))
def q_L_firstHolder (M : tvM) (x1 : Int32) : Prop := (∀ e : String, (f_X8_firstHolder M x1).1 = some e → e = "java/lang/IndexOutOfBoundsException" ∨ e = "java/util/NoSuchElementException") ∧ True
theorem m_L_firstHolder (G : tvG) (M : tvM) (x1 : Int32) (hq : q_L_firstHolder M x1) : tvRunW G yL_firstHolder cL_firstHolder 4 (some .int) hh_L_firstHolder 8 1 6 tvP0 tvP0 [.ref (G.2.1 + 0), .int x1, .ref (G.2.1 + 257)] M (.inl (some (.int (f_L_firstHolder M x1).1))) ((f_L_firstHolder M x1).2) := by
  refine tvRunW.of yw_L_firstHolder rfl [some (.ref (G.2.1 + 0)), some (.int x1), some (.ref (G.2.1 + 257)), none] rfl (Nat.le_of_ble_eq_true rfl) ?_
  intro E hG C hN hQ; subst hG
  refine tv_aload_n C dk_L_firstHolder_0 rfl ?_
  refine tv_iconst (v := 0) C dk_L_firstHolder_1 (by decide) ?_
  refine tv_aload_n C dk_L_firstHolder_2 rfl ?_
  refine tv_iload_n C dk_L_firstHolder_3 rfl ?_
  refine tv_cVx C dk_L_firstHolder_4 ml_RL_72 yk_X8_firstHolder yi_X8_firstHolder (m_X8_firstHolder _ M x1) (Nat.le_of_ble_eq_true rfl) rfl rfl rfl rfl (Nat.le_of_ble_eq_true rfl) (Nat.le_of_ble_eq_true rfl) (Nat.le_of_ble_eq_true rfl) (Nat.le_of_ble_eq_true rfl) (Nat.le_of_ble_eq_true rfl) rfl rfl rfl (fun e he => ?_) (fun h1 => ?_)
  · rcases hq.1 e he with rfl | rfl
    · refine tv_catch (e := "java/lang/IndexOutOfBoundsException") C hN [] ⟨0, 9, 12, 21⟩ [⟨0, 9, 15, 42⟩] rfl (fun z hz => nomatch hz) (by decide) (by decide) cl_RL_21 ct_0 (fun q => ?_)
      refine tv_astore_n (L' := [_, _, _, _]) (hn := by decide) (hlt := (Nat.le_of_ble_eq_true rfl)) (hno := rfl) C dk_L_firstHolder_12 rfl ?_
      refine tv_iconst (v := 1) C dk_L_firstHolder_13 (by decide) ?_
      exact tv_iret C hQ dk_L_firstHolder_14 rfl (by rw [f_L_firstHolder, if_neg (tv_sn he), if_pos he]) (by rw [f_L_firstHolder, if_neg (tv_sn he), if_pos he])
    · refine tv_catch (e := "java/util/NoSuchElementException") C hN [⟨0, 9, 12, 21⟩] ⟨0, 9, 15, 42⟩ [] rfl (List.forall_mem_cons.mpr ⟨⟨by decide, "java/lang/IndexOutOfBoundsException", cl_RL_21, List.mem_of_getElem? (i := 20) rfl⟩, (fun z hz => nomatch hz)⟩) (by decide) (by decide) cl_RL_42 ct_4 (fun q => ?_)
      refine tv_astore_n (L' := [_, _, _, _]) (hn := by decide) (hlt := (Nat.le_of_ble_eq_true rfl)) (hno := rfl) C dk_L_firstHolder_15 rfl ?_
      refine tv_iconst (v := 2) C dk_L_firstHolder_16 (by decide) ?_
      exact tv_iret C hQ dk_L_firstHolder_17 rfl (by rw [f_L_firstHolder, if_neg (tv_sn he), if_neg (fun q => absurd (Option.some.inj (he.symm.trans q)) (by decide))]) (by rw [f_L_firstHolder, if_neg (tv_sn he), if_neg (fun q => absurd (Option.some.inj (he.symm.trans q)) (by decide))])
  refine tv_i2l C dk_L_firstHolder_7 ?_
  refine tv_last (j := 0) rfl C tvP0_ex dk_L_firstHolder_8 (Nat.le_of_ble_eq_true rfl) rfl (vp_in_nI (n := 0) (by decide) (by decide)) ?_
  refine tv_goto C dk_L_firstHolder_9 ?_
  refine tv_iconst (v := 0) C dk_L_firstHolder_18 (by decide) ?_
  exact tv_iret C hQ dk_L_firstHolder_19 rfl (by rw [f_L_firstHolder, if_pos h1]) (by rw [f_L_firstHolder, if_pos h1])
/-- remainingDelay -/
def f_L_remainingDelay (M : tvM) (x1 : Int32) : Int32 × tvM := (if (f_X8_remainingDelay M x1).1 = none then (0, (tpl M 257 0 (((f_X8_remainingDelay M x1).2.1).toInt64))) else (if (f_X8_remainingDelay M x1).1 = some "java/lang/IndexOutOfBoundsException" then (1, M) else (2, M)))
def q_L_remainingDelay (M : tvM) (x1 : Int32) : Prop := (∀ e : String, (f_X8_remainingDelay M x1).1 = some e → e = "java/lang/IndexOutOfBoundsException" ∨ e = "java/util/NoSuchElementException") ∧ True
theorem m_L_remainingDelay (G : tvG) (M : tvM) (x1 : Int32) (hq : q_L_remainingDelay M x1) : tvRunW G yL_remainingDelay cL_remainingDelay 4 (some .int) hh_L_remainingDelay 8 1 6 tvP0 tvP0 [.ref (G.2.1 + 0), .int x1, .ref (G.2.1 + 257)] M (.inl (some (.int (f_L_remainingDelay M x1).1))) ((f_L_remainingDelay M x1).2) := by
  refine tvRunW.of yw_L_remainingDelay rfl [some (.ref (G.2.1 + 0)), some (.int x1), some (.ref (G.2.1 + 257)), none] rfl (Nat.le_of_ble_eq_true rfl) ?_
  intro E hG C hN hQ; subst hG
  refine tv_aload_n C dk_L_remainingDelay_0 rfl ?_
  refine tv_iconst (v := 0) C dk_L_remainingDelay_1 (by decide) ?_
  refine tv_aload_n C dk_L_remainingDelay_2 rfl ?_
  refine tv_iload_n C dk_L_remainingDelay_3 rfl ?_
  refine tv_cVx C dk_L_remainingDelay_4 ml_RL_75 yk_X8_remainingDelay yi_X8_remainingDelay (m_X8_remainingDelay _ M x1) (Nat.le_of_ble_eq_true rfl) rfl rfl rfl rfl (Nat.le_of_ble_eq_true rfl) (Nat.le_of_ble_eq_true rfl) (Nat.le_of_ble_eq_true rfl) (Nat.le_of_ble_eq_true rfl) (Nat.le_of_ble_eq_true rfl) rfl rfl rfl (fun e he => ?_) (fun h1 => ?_)
  · rcases hq.1 e he with rfl | rfl
    · refine tv_catch (e := "java/lang/IndexOutOfBoundsException") C hN [] ⟨0, 9, 12, 21⟩ [⟨0, 9, 15, 42⟩] rfl (fun z hz => nomatch hz) (by decide) (by decide) cl_RL_21 ct_0 (fun q => ?_)
      refine tv_astore_n (L' := [_, _, _, _]) (hn := by decide) (hlt := (Nat.le_of_ble_eq_true rfl)) (hno := rfl) C dk_L_remainingDelay_12 rfl ?_
      refine tv_iconst (v := 1) C dk_L_remainingDelay_13 (by decide) ?_
      exact tv_iret C hQ dk_L_remainingDelay_14 rfl (by rw [f_L_remainingDelay, if_neg (tv_sn he), if_pos he]) (by rw [f_L_remainingDelay, if_neg (tv_sn he), if_pos he])
    · refine tv_catch (e := "java/util/NoSuchElementException") C hN [⟨0, 9, 12, 21⟩] ⟨0, 9, 15, 42⟩ [] rfl (List.forall_mem_cons.mpr ⟨⟨by decide, "java/lang/IndexOutOfBoundsException", cl_RL_21, List.mem_of_getElem? (i := 20) rfl⟩, (fun z hz => nomatch hz)⟩) (by decide) (by decide) cl_RL_42 ct_4 (fun q => ?_)
      refine tv_astore_n (L' := [_, _, _, _]) (hn := by decide) (hlt := (Nat.le_of_ble_eq_true rfl)) (hno := rfl) C dk_L_remainingDelay_15 rfl ?_
      refine tv_iconst (v := 2) C dk_L_remainingDelay_16 (by decide) ?_
      exact tv_iret C hQ dk_L_remainingDelay_17 rfl (by rw [f_L_remainingDelay, if_neg (tv_sn he), if_neg (fun q => absurd (Option.some.inj (he.symm.trans q)) (by decide))]) (by rw [f_L_remainingDelay, if_neg (tv_sn he), if_neg (fun q => absurd (Option.some.inj (he.symm.trans q)) (by decide))])
  refine tv_i2l C dk_L_remainingDelay_7 ?_
  refine tv_last (j := 0) rfl C tvP0_ex dk_L_remainingDelay_8 (Nat.le_of_ble_eq_true rfl) rfl (vp_in_nI (n := 0) (by decide) (by decide)) ?_
  refine tv_goto C dk_L_remainingDelay_9 ?_
  refine tv_iconst (v := 0) C dk_L_remainingDelay_18 (by decide) ?_
  exact tv_iret C hQ dk_L_remainingDelay_19 rfl (by rw [f_L_remainingDelay, if_pos h1]) (by rw [f_L_remainingDelay, if_pos h1])
/-- minutesUntilOpen -/
def f_L_minutesUntilOpen (M : tvM) (x1 : Int32) : Int32 × tvM := (if (f_X8_minutesUntilOpen M x1).1 = none then (0, (tpl M 257 0 (((f_X8_minutesUntilOpen M x1).2.1).toInt64))) else (if (f_X8_minutesUntilOpen M x1).1 = some "java/lang/IndexOutOfBoundsException" then (1, M) else (2, M)))
def q_L_minutesUntilOpen (M : tvM) (x1 : Int32) : Prop := (∀ e : String, (f_X8_minutesUntilOpen M x1).1 = some e → e = "java/lang/IndexOutOfBoundsException" ∨ e = "java/util/NoSuchElementException") ∧ True
theorem m_L_minutesUntilOpen (G : tvG) (M : tvM) (x1 : Int32) (hq : q_L_minutesUntilOpen M x1) : tvRunW G yL_minutesUntilOpen cL_minutesUntilOpen 4 (some .int) hh_L_minutesUntilOpen 8 1 6 tvP0 tvP0 [.ref (G.2.1 + 0), .int x1, .ref (G.2.1 + 257)] M (.inl (some (.int (f_L_minutesUntilOpen M x1).1))) ((f_L_minutesUntilOpen M x1).2) := by
  refine tvRunW.of yw_L_minutesUntilOpen rfl [some (.ref (G.2.1 + 0)), some (.int x1), some (.ref (G.2.1 + 257)), none] rfl (Nat.le_of_ble_eq_true rfl) ?_
  intro E hG C hN hQ; subst hG
  refine tv_aload_n C dk_L_minutesUntilOpen_0 rfl ?_
  refine tv_iconst (v := 0) C dk_L_minutesUntilOpen_1 (by decide) ?_
  refine tv_aload_n C dk_L_minutesUntilOpen_2 rfl ?_
  refine tv_iload_n C dk_L_minutesUntilOpen_3 rfl ?_
  refine tv_cVx C dk_L_minutesUntilOpen_4 ml_RL_78 yk_X8_minutesUntilOpen yi_X8_minutesUntilOpen (m_X8_minutesUntilOpen _ M x1) (Nat.le_of_ble_eq_true rfl) rfl rfl rfl rfl (Nat.le_of_ble_eq_true rfl) (Nat.le_of_ble_eq_true rfl) (Nat.le_of_ble_eq_true rfl) (Nat.le_of_ble_eq_true rfl) (Nat.le_of_ble_eq_true rfl) rfl rfl rfl (fun e he => ?_) (fun h1 => ?_)
  · rcases hq.1 e he with rfl | rfl
    · refine tv_catch (e := "java/lang/IndexOutOfBoundsException") C hN [] ⟨0, 9, 12, 21⟩ [⟨0, 9, 15, 42⟩] rfl (fun z hz => nomatch hz) (by decide) (by decide) cl_RL_21 ct_0 (fun q => ?_)
      refine tv_astore_n (L' := [_, _, _, _]) (hn := by decide) (hlt := (Nat.le_of_ble_eq_true rfl)) (hno := rfl) C dk_L_minutesUntilOpen_12 rfl ?_
      refine tv_iconst (v := 1) C dk_L_minutesUntilOpen_13 (by decide) ?_
      exact tv_iret C hQ dk_L_minutesUntilOpen_14 rfl (by rw [f_L_minutesUntilOpen, if_neg (tv_sn he), if_pos he]) (by rw [f_L_minutesUntilOpen, if_neg (tv_sn he), if_pos he])
    · refine tv_catch (e := "java/util/NoSuchElementException") C hN [⟨0, 9, 12, 21⟩] ⟨0, 9, 15, 42⟩ [] rfl (List.forall_mem_cons.mpr ⟨⟨by decide, "java/lang/IndexOutOfBoundsException", cl_RL_21, List.mem_of_getElem? (i := 20) rfl⟩, (fun z hz => nomatch hz)⟩) (by decide) (by decide) cl_RL_42 ct_4 (fun q => ?_)
      refine tv_astore_n (L' := [_, _, _, _]) (hn := by decide) (hlt := (Nat.le_of_ble_eq_true rfl)) (hno := rfl) C dk_L_minutesUntilOpen_15 rfl ?_
      refine tv_iconst (v := 2) C dk_L_minutesUntilOpen_16 (by decide) ?_
      exact tv_iret C hQ dk_L_minutesUntilOpen_17 rfl (by rw [f_L_minutesUntilOpen, if_neg (tv_sn he), if_neg (fun q => absurd (Option.some.inj (he.symm.trans q)) (by decide))]) (by rw [f_L_minutesUntilOpen, if_neg (tv_sn he), if_neg (fun q => absurd (Option.some.inj (he.symm.trans q)) (by decide))])
  refine tv_i2l C dk_L_minutesUntilOpen_7 ?_
  refine tv_last (j := 0) rfl C tvP0_ex dk_L_minutesUntilOpen_8 (Nat.le_of_ble_eq_true rfl) rfl (vp_in_nI (n := 0) (by decide) (by decide)) ?_
  refine tv_goto C dk_L_minutesUntilOpen_9 ?_
  refine tv_iconst (v := 0) C dk_L_minutesUntilOpen_18 (by decide) ?_
  exact tv_iret C hQ dk_L_minutesUntilOpen_19 rfl (by rw [f_L_minutesUntilOpen, if_pos h1]) (by rw [f_L_minutesUntilOpen, if_pos h1])
/-- minutesUntilOpenBySimulation -/
def f_L_minutesUntilOpenBySimulation (M : tvM) (x1 : Int32) : Int32 × tvM := (if (f_X8_minutesUntilOpenBySimulation M x1).1 = none then (0, (tpl ((f_X8_minutesUntilOpenBySimulation M x1).2.2) 257 0 (((f_X8_minutesUntilOpenBySimulation M x1).2.1).toInt64))) else (if (f_X8_minutesUntilOpenBySimulation M x1).1 = some "java/lang/IndexOutOfBoundsException" then (1, (f_X8_minutesUntilOpenBySimulation M x1).2.2) else (2, (f_X8_minutesUntilOpenBySimulation M x1).2.2)))
def q_L_minutesUntilOpenBySimulation (M : tvM) (x1 : Int32) : Prop := (∀ e : String, (f_X8_minutesUntilOpenBySimulation M x1).1 = some e → e = "java/lang/IndexOutOfBoundsException" ∨ e = "java/util/NoSuchElementException") ∧ True
theorem m_L_minutesUntilOpenBySimulation (G : tvG) (M : tvM) (x1 : Int32) (hq : q_L_minutesUntilOpenBySimulation M x1) : tvRunW G yL_minutesUntilOpenBySimulation cL_minutesUntilOpenBySimulation 4 (some .int) hh_L_minutesUntilOpenBySimulation 8 1 6 tvP0 tvP0 [.ref (G.2.1 + 0), .int x1, .ref (G.2.1 + 257)] M (.inl (some (.int (f_L_minutesUntilOpenBySimulation M x1).1))) ((f_L_minutesUntilOpenBySimulation M x1).2) := by
  refine tvRunW.of yw_L_minutesUntilOpenBySimulation rfl [some (.ref (G.2.1 + 0)), some (.int x1), some (.ref (G.2.1 + 257)), none] rfl (Nat.le_of_ble_eq_true rfl) ?_
  intro E hG C hN hQ; subst hG
  refine tv_aload_n C dk_L_minutesUntilOpenBySimulation_0 rfl ?_
  refine tv_iconst (v := 0) C dk_L_minutesUntilOpenBySimulation_1 (by decide) ?_
  refine tv_aload_n C dk_L_minutesUntilOpenBySimulation_2 rfl ?_
  refine tv_iload_n C dk_L_minutesUntilOpenBySimulation_3 rfl ?_
  refine tv_cVx C dk_L_minutesUntilOpenBySimulation_4 ml_RL_81 yk_X8_minutesUntilOpenBySimulation yi_X8_minutesUntilOpenBySimulation (m_X8_minutesUntilOpenBySimulation _ M x1) (Nat.le_of_ble_eq_true rfl) rfl rfl rfl rfl (Nat.le_of_ble_eq_true rfl) (Nat.le_of_ble_eq_true rfl) (Nat.le_of_ble_eq_true rfl) (Nat.le_of_ble_eq_true rfl) (Nat.le_of_ble_eq_true rfl) rfl rfl rfl (fun e he => ?_) (fun h1 => ?_)
  · rcases hq.1 e he with rfl | rfl
    · refine tv_catch (e := "java/lang/IndexOutOfBoundsException") C hN [] ⟨0, 9, 12, 21⟩ [⟨0, 9, 15, 42⟩] rfl (fun z hz => nomatch hz) (by decide) (by decide) cl_RL_21 ct_0 (fun q => ?_)
      refine tv_astore_n (L' := [_, _, _, _]) (hn := by decide) (hlt := (Nat.le_of_ble_eq_true rfl)) (hno := rfl) C dk_L_minutesUntilOpenBySimulation_12 rfl ?_
      refine tv_iconst (v := 1) C dk_L_minutesUntilOpenBySimulation_13 (by decide) ?_
      exact tv_iret C hQ dk_L_minutesUntilOpenBySimulation_14 rfl (by rw [f_L_minutesUntilOpenBySimulation, if_neg (tv_sn he), if_pos he]) (by rw [f_L_minutesUntilOpenBySimulation, if_neg (tv_sn he), if_pos he])
    · refine tv_catch (e := "java/util/NoSuchElementException") C hN [⟨0, 9, 12, 21⟩] ⟨0, 9, 15, 42⟩ [] rfl (List.forall_mem_cons.mpr ⟨⟨by decide, "java/lang/IndexOutOfBoundsException", cl_RL_21, List.mem_of_getElem? (i := 20) rfl⟩, (fun z hz => nomatch hz)⟩) (by decide) (by decide) cl_RL_42 ct_4 (fun q => ?_)
      refine tv_astore_n (L' := [_, _, _, _]) (hn := by decide) (hlt := (Nat.le_of_ble_eq_true rfl)) (hno := rfl) C dk_L_minutesUntilOpenBySimulation_15 rfl ?_
      refine tv_iconst (v := 2) C dk_L_minutesUntilOpenBySimulation_16 (by decide) ?_
      exact tv_iret C hQ dk_L_minutesUntilOpenBySimulation_17 rfl (by rw [f_L_minutesUntilOpenBySimulation, if_neg (tv_sn he), if_neg (fun q => absurd (Option.some.inj (he.symm.trans q)) (by decide))]) (by rw [f_L_minutesUntilOpenBySimulation, if_neg (tv_sn he), if_neg (fun q => absurd (Option.some.inj (he.symm.trans q)) (by decide))])
  refine tv_i2l C dk_L_minutesUntilOpenBySimulation_7 ?_
  refine tv_last (j := 0) rfl C tvP0_ex dk_L_minutesUntilOpenBySimulation_8 (Nat.le_of_ble_eq_true rfl) rfl (vp_in_nI (n := 0) (by decide) (by decide)) ?_
  refine tv_goto C dk_L_minutesUntilOpenBySimulation_9 ?_
  refine tv_iconst (v := 0) C dk_L_minutesUntilOpenBySimulation_18 (by decide) ?_
  exact tv_iret C hQ dk_L_minutesUntilOpenBySimulation_19 rfl (by rw [f_L_minutesUntilOpenBySimulation, if_pos h1]) (by rw [f_L_minutesUntilOpenBySimulation, if_pos h1])
/-- pearls -/
def f_L_pearls (M : tvM) (x1 : Int32) : Int32 × tvM := (if (f_X8_pearls M x1).1 = none then (0, (tpl M 257 0 (((f_X8_pearls M x1).2.1).toInt64))) else (1, M))
def q_L_pearls (M : tvM) (x1 : Int32) : Prop := (∀ e : String, (f_X8_pearls M x1).1 = some e → e = "java/lang/IndexOutOfBoundsException") ∧ True
theorem m_L_pearls (G : tvG) (M : tvM) (x1 : Int32) (hq : q_L_pearls M x1) : tvRunW G yL_pearls cL_pearls 4 (some .int) hh_L_pearls 8 1 6 tvP0 tvP0 [.ref (G.2.1 + 0), .int x1, .ref (G.2.1 + 257)] M (.inl (some (.int (f_L_pearls M x1).1))) ((f_L_pearls M x1).2) := by
  refine tvRunW.of yw_L_pearls rfl [some (.ref (G.2.1 + 0)), some (.int x1), some (.ref (G.2.1 + 257)), none] rfl (Nat.le_of_ble_eq_true rfl) ?_
  intro E hG C hN hQ; subst hG
  refine tv_aload_n C dk_L_pearls_0 rfl ?_
  refine tv_iconst (v := 0) C dk_L_pearls_1 (by decide) ?_
  refine tv_aload_n C dk_L_pearls_2 rfl ?_
  refine tv_iload_n C dk_L_pearls_3 rfl ?_
  refine tv_cVx C dk_L_pearls_4 ml_RL_84 yk_X8_pearls yi_X8_pearls (m_X8_pearls _ M x1) (Nat.le_of_ble_eq_true rfl) rfl rfl rfl rfl (Nat.le_of_ble_eq_true rfl) (Nat.le_of_ble_eq_true rfl) (Nat.le_of_ble_eq_true rfl) (Nat.le_of_ble_eq_true rfl) (Nat.le_of_ble_eq_true rfl) rfl rfl rfl (fun e he => ?_) (fun h1 => ?_)
  · rcases hq.1 e he with rfl
    · refine tv_catch (e := "java/lang/IndexOutOfBoundsException") C hN [] ⟨0, 9, 12, 21⟩ [] rfl (fun z hz => nomatch hz) (by decide) (by decide) cl_RL_21 ct_0 (fun q => ?_)
      refine tv_astore_n (L' := [_, _, _, _]) (hn := by decide) (hlt := (Nat.le_of_ble_eq_true rfl)) (hno := rfl) C dk_L_pearls_12 rfl ?_
      refine tv_iconst (v := 1) C dk_L_pearls_13 (by decide) ?_
      exact tv_iret C hQ dk_L_pearls_14 rfl (by rw [f_L_pearls, if_neg (tv_sn he)]) (by rw [f_L_pearls, if_neg (tv_sn he)])
  refine tv_i2l C dk_L_pearls_7 ?_
  refine tv_last (j := 0) rfl C tvP0_ex dk_L_pearls_8 (Nat.le_of_ble_eq_true rfl) rfl (vp_in_nI (n := 0) (by decide) (by decide)) ?_
  refine tv_goto C dk_L_pearls_9 ?_
  refine tv_iconst (v := 0) C dk_L_pearls_15 (by decide) ?_
  exact tv_iret C hQ dk_L_pearls_16 rfl (by rw [f_L_pearls, if_pos h1]) (by rw [f_L_pearls, if_pos h1])
/-- pearl -/
def f_L_pearl (M : tvM) (x1 : Int32) (x2 : Int32) : Int32 × tvM := (if (f_X8_pearl M x1 x2).1 = none then (0, (tpl M 257 0 (((f_X8_pearl M x1 x2).2.1).toInt64))) else (if (f_X8_pearl M x1 x2).1 = some "java/lang/IndexOutOfBoundsException" then (1, M) else (2, M)))
def q_L_pearl (M : tvM) (x1 : Int32) (x2 : Int32) : Prop := (∀ e : String, (f_X8_pearl M x1 x2).1 = some e → e = "java/lang/IndexOutOfBoundsException" ∨ e = "java/util/NoSuchElementException") ∧ True
theorem m_L_pearl (G : tvG) (M : tvM) (x1 : Int32) (x2 : Int32) (hq : q_L_pearl M x1 x2) : tvRunW G yL_pearl cL_pearl 5 (some .int) hh_L_pearl 8 2 12 tvP0 tvP0 [.ref (G.2.1 + 0), .int x1, .int x2, .ref (G.2.1 + 257)] M (.inl (some (.int (f_L_pearl M x1 x2).1))) ((f_L_pearl M x1 x2).2) := by
  refine tvRunW.of yw_L_pearl rfl [some (.ref (G.2.1 + 0)), some (.int x1), some (.int x2), some (.ref (G.2.1 + 257)), none] rfl (Nat.le_of_ble_eq_true rfl) ?_
  intro E hG C hN hQ; subst hG
  refine tv_aload_n C dk_L_pearl_0 rfl ?_
  refine tv_iconst (v := 0) C dk_L_pearl_1 (by decide) ?_
  refine tv_aload_n C dk_L_pearl_2 rfl ?_
  refine tv_iload_n C dk_L_pearl_3 rfl ?_
  refine tv_iload_n C dk_L_pearl_4 rfl ?_
  refine tv_cVx C dk_L_pearl_5 ml_RL_87 yk_X8_pearl yi_X8_pearl (m_X8_pearl _ M x1 x2) (Nat.le_of_ble_eq_true rfl) rfl rfl rfl rfl (Nat.le_of_ble_eq_true rfl) (Nat.le_of_ble_eq_true rfl) (Nat.le_of_ble_eq_true rfl) (Nat.le_of_ble_eq_true rfl) (Nat.le_of_ble_eq_true rfl) rfl rfl rfl (fun e he => ?_) (fun h1 => ?_)
  · rcases hq.1 e he with rfl | rfl
    · refine tv_catch (e := "java/lang/IndexOutOfBoundsException") C hN [] ⟨0, 10, 13, 21⟩ [⟨0, 10, 17, 42⟩] rfl (fun z hz => nomatch hz) (by decide) (by decide) cl_RL_21 ct_0 (fun q => ?_)
      refine tv_astore (L' := [_, _, _, _, _]) (hn := by decide) (hlt := (Nat.le_of_ble_eq_true rfl)) (hno := rfl) C dk_L_pearl_13 rfl ?_
      refine tv_iconst (v := 1) C dk_L_pearl_15 (by decide) ?_
      exact tv_iret C hQ dk_L_pearl_16 rfl (by rw [f_L_pearl, if_neg (tv_sn he), if_pos he]) (by rw [f_L_pearl, if_neg (tv_sn he), if_pos he])
    · refine tv_catch (e := "java/util/NoSuchElementException") C hN [⟨0, 10, 13, 21⟩] ⟨0, 10, 17, 42⟩ [] rfl (List.forall_mem_cons.mpr ⟨⟨by decide, "java/lang/IndexOutOfBoundsException", cl_RL_21, List.mem_of_getElem? (i := 20) rfl⟩, (fun z hz => nomatch hz)⟩) (by decide) (by decide) cl_RL_42 ct_4 (fun q => ?_)
      refine tv_astore (L' := [_, _, _, _, _]) (hn := by decide) (hlt := (Nat.le_of_ble_eq_true rfl)) (hno := rfl) C dk_L_pearl_17 rfl ?_
      refine tv_iconst (v := 2) C dk_L_pearl_19 (by decide) ?_
      exact tv_iret C hQ dk_L_pearl_20 rfl (by rw [f_L_pearl, if_neg (tv_sn he), if_neg (fun q => absurd (Option.some.inj (he.symm.trans q)) (by decide))]) (by rw [f_L_pearl, if_neg (tv_sn he), if_neg (fun q => absurd (Option.some.inj (he.symm.trans q)) (by decide))])
  refine tv_i2l C dk_L_pearl_8 ?_
  refine tv_last (j := 0) rfl C tvP0_ex dk_L_pearl_9 (Nat.le_of_ble_eq_true rfl) rfl (vp_in_nI (n := 0) (by decide) (by decide)) ?_
  refine tv_goto C dk_L_pearl_10 ?_
  refine tv_iconst (v := 0) C dk_L_pearl_21 (by decide) ?_
  exact tv_iret C hQ dk_L_pearl_22 rfl (by rw [f_L_pearl, if_pos h1]) (by rw [f_L_pearl, if_pos h1])
/-- boxByValue -/
def f_L_boxByValue (M : tvM) (x1 : Int32) : Int32 × tvM := (if (f_X8_boxByValue M x1).1 = none then (0, (tpl M 257 0 (((f_X8_boxByValue M x1).2.1).toInt64))) else (1, M))
def q_L_boxByValue (M : tvM) (x1 : Int32) : Prop := (∀ e : String, (f_X8_boxByValue M x1).1 = some e → e = "java/util/NoSuchElementException") ∧ True
theorem m_L_boxByValue (G : tvG) (M : tvM) (x1 : Int32) (hq : q_L_boxByValue M x1) : tvRunW G yL_boxByValue cL_boxByValue 4 (some .int) hh_L_boxByValue 7 1 6 tvP0 tvP0 [.ref (G.2.1 + 0), .int x1, .ref (G.2.1 + 257)] M (.inl (some (.int (f_L_boxByValue M x1).1))) ((f_L_boxByValue M x1).2) := by
  refine tvRunW.of yw_L_boxByValue rfl [some (.ref (G.2.1 + 0)), some (.int x1), some (.ref (G.2.1 + 257)), none] rfl (Nat.le_of_ble_eq_true rfl) ?_
  intro E hG C hN hQ; subst hG
  refine tv_aload_n C dk_L_boxByValue_0 rfl ?_
  refine tv_iconst (v := 0) C dk_L_boxByValue_1 (by decide) ?_
  refine tv_aload_n C dk_L_boxByValue_2 rfl ?_
  refine tv_iload_n C dk_L_boxByValue_3 rfl ?_
  refine tv_cVx C dk_L_boxByValue_4 ml_RL_90 yk_X8_boxByValue yi_X8_boxByValue (m_X8_boxByValue _ M x1) (Nat.le_of_ble_eq_true rfl) rfl rfl rfl rfl (Nat.le_of_ble_eq_true rfl) (Nat.le_of_ble_eq_true rfl) (Nat.le_of_ble_eq_true rfl) (Nat.le_of_ble_eq_true rfl) (Nat.le_of_ble_eq_true rfl) rfl rfl rfl (fun e he => ?_) (fun h1 => ?_)
  · rcases hq.1 e he with rfl
    · refine tv_catch (e := "java/util/NoSuchElementException") C hN [] ⟨0, 9, 12, 42⟩ [] rfl (fun z hz => nomatch hz) (by decide) (by decide) cl_RL_42 ct_4 (fun q => ?_)
      refine tv_astore_n (L' := [_, _, _, _]) (hn := by decide) (hlt := (Nat.le_of_ble_eq_true rfl)) (hno := rfl) C dk_L_boxByValue_12 rfl ?_
      refine tv_iconst (v := 1) C dk_L_boxByValue_13 (by decide) ?_
      exact tv_iret C hQ dk_L_boxByValue_14 rfl (by rw [f_L_boxByValue, if_neg (tv_sn he)]) (by rw [f_L_boxByValue, if_neg (tv_sn he)])
  refine tv_i2l C dk_L_boxByValue_7 ?_
  refine tv_last (j := 0) rfl C tvP0_ex dk_L_boxByValue_8 (Nat.le_of_ble_eq_true rfl) rfl (vp_in_nI (n := 0) (by decide) (by decide)) ?_
  refine tv_goto C dk_L_boxByValue_9 ?_
  refine tv_iconst (v := 0) C dk_L_boxByValue_15 (by decide) ?_
  exact tv_iret C hQ dk_L_boxByValue_16 rfl (by rw [f_L_boxByValue, if_pos h1]) (by rw [f_L_boxByValue, if_pos h1])
/-- meanValue -/
def f_L_meanValue (M : tvM) : Int32 × tvM := (if (f_X8_meanValue M).1 = none then (0, (tpd M 258 0 ((f_X8_meanValue M).2.1))) else (1, M))
def q_L_meanValue (M : tvM) : Prop := (∀ e : String, (f_X8_meanValue M).1 = some e → e = "java/lang/ArithmeticException") ∧ (¬ (f_X0_pearlsInAll M 1) = 0 → vf_n64 (FP.ddiv (FP.l2d (f_X0_sumOfAll M 1)) (FP.i2d (f_X0_pearlsInAll M 1)))) ∧ True
theorem m_L_meanValue (G : tvG) (M : tvM) (hq : q_L_meanValue M) : tvRunW G yL_meanValue cL_meanValue 3 (some .int) hh_L_meanValue 7 1 6 tvP0 tvP0 [.ref (G.2.1 + 0), .ref (G.2.1 + 258)] M (.inl (some (.int (f_L_meanValue M).1))) ((f_L_meanValue M).2) := by
  refine tvRunW.of yw_L_meanValue rfl [some (.ref (G.2.1 + 0)), some (.ref (G.2.1 + 258)), none] rfl (Nat.le_of_ble_eq_true rfl) ?_
  intro E hG C hN hQ; subst hG
  refine tv_aload_n C dk_L_meanValue_0 rfl ?_
  refine tv_iconst (v := 0) C dk_L_meanValue_1 (by decide) ?_
  refine tv_aload_n C dk_L_meanValue_2 rfl ?_
  refine tv_cVx C dk_L_meanValue_3 ml_RL_93 yk_X8_meanValue yi_X8_meanValue (m_X8_meanValue _ M hq.2.1) (Nat.le_of_ble_eq_true rfl) rfl rfl rfl rfl (Nat.le_of_ble_eq_true rfl) (Nat.le_of_ble_eq_true rfl) (Nat.le_of_ble_eq_true rfl) (Nat.le_of_ble_eq_true rfl) (Nat.le_of_ble_eq_true rfl) rfl rfl rfl (fun e he => ?_) (fun h1 => ?_)
  · rcases hq.1 e he with rfl
    · refine tv_catch (e := "java/lang/ArithmeticException") C hN [] ⟨0, 7, 10, 97⟩ [] rfl (fun z hz => nomatch hz) (by decide) (by decide) cl_RL_97 ct_5 (fun q => ?_)
      refine tv_astore_n (L' := [_, _, _]) (hn := by decide) (hlt := (Nat.le_of_ble_eq_true rfl)) (hno := rfl) C dk_L_meanValue_10 rfl ?_
      refine tv_iconst (v := 1) C dk_L_meanValue_11 (by decide) ?_
      exact tv_iret C hQ dk_L_meanValue_12 rfl (by rw [f_L_meanValue, if_neg (tv_sn he)]) (by rw [f_L_meanValue, if_neg (tv_sn he)])
  refine tv_dast (j := 0) rfl C tvP0_ex dk_L_meanValue_6 (Nat.le_of_ble_eq_true rfl) rfl (vp_in_nI (n := 0) (by decide) (by decide)) ?_
  refine tv_goto C dk_L_meanValue_7 ?_
  refine tv_iconst (v := 0) C dk_L_meanValue_13 (by decide) ?_
  exact tv_iret C hQ dk_L_meanValue_14 rfl (by rw [f_L_meanValue, if_pos h1]) (by rw [f_L_meanValue, if_pos h1])
/-- failureRate -/
def f_L_failureRate (M : tvM) : Int32 × tvM := (if (f_X8_failureRate M).1 = none then (0, (tpd M 258 0 (FP.f2d ((f_X8_failureRate M).2.1)))) else (1, M))
def q_L_failureRate (M : tvM) : Prop := (∀ e : String, (f_X8_failureRate M).1 = some e → e = "java/lang/ArithmeticException") ∧ (¬ (tgi M 1 6) = 0 → vf_n32 (FP.fdiv (FP.i2f (tgi M 1 7)) (FP.i2f (tgi M 1 6)))) ∧ ((f_X8_failureRate M).1 = none → vf_n64 (FP.f2d ((f_X8_failureRate M).2.1))) ∧ True
theorem m_L_failureRate (G : tvG) (M : tvM) (hq : q_L_failureRate M) : tvRunW G yL_failureRate cL_failureRate 3 (some .int) hh_L_failureRate 7 1 6 tvP0 tvP0 [.ref (G.2.1 + 0), .ref (G.2.1 + 258)] M (.inl (some (.int (f_L_failureRate M).1))) ((f_L_failureRate M).2) := by
  refine tvRunW.of yw_L_failureRate rfl [some (.ref (G.2.1 + 0)), some (.ref (G.2.1 + 258)), none] rfl (Nat.le_of_ble_eq_true rfl) ?_
  intro E hG C hN hQ; subst hG
  refine tv_aload_n C dk_L_failureRate_0 rfl ?_
  refine tv_iconst (v := 0) C dk_L_failureRate_1 (by decide) ?_
  refine tv_aload_n C dk_L_failureRate_2 rfl ?_
  refine tv_cVx C dk_L_failureRate_3 ml_RL_99 yk_X8_failureRate yi_X8_failureRate (m_X8_failureRate _ M hq.2.1) (Nat.le_of_ble_eq_true rfl) rfl rfl rfl rfl (Nat.le_of_ble_eq_true rfl) (Nat.le_of_ble_eq_true rfl) (Nat.le_of_ble_eq_true rfl) (Nat.le_of_ble_eq_true rfl) (Nat.le_of_ble_eq_true rfl) rfl rfl rfl (fun e he => ?_) (fun h1 => ?_)
  · rcases hq.1 e he with rfl
    · refine tv_catch (e := "java/lang/ArithmeticException") C hN [] ⟨0, 8, 11, 97⟩ [] rfl (fun z hz => nomatch hz) (by decide) (by decide) cl_RL_97 ct_5 (fun q => ?_)
      refine tv_astore_n (L' := [_, _, _]) (hn := by decide) (hlt := (Nat.le_of_ble_eq_true rfl)) (hno := rfl) C dk_L_failureRate_11 rfl ?_
      refine tv_iconst (v := 1) C dk_L_failureRate_12 (by decide) ?_
      exact tv_iret C hQ dk_L_failureRate_13 rfl (by rw [f_L_failureRate, if_neg (tv_sn he)]) (by rw [f_L_failureRate, if_neg (tv_sn he)])
  refine tv_f2d C dk_L_failureRate_6 (hq.2.2.1 h1) ?_
  refine tv_dast (j := 0) rfl C tvP0_ex dk_L_failureRate_7 (Nat.le_of_ble_eq_true rfl) rfl (vp_in_nI (n := 0) (by decide) (by decide)) ?_
  refine tv_goto C dk_L_failureRate_8 ?_
  refine tv_iconst (v := 0) C dk_L_failureRate_14 (by decide) ?_
  exact tv_iret C hQ dk_L_failureRate_15 rfl (by rw [f_L_failureRate, if_pos h1]) (by rw [f_L_failureRate, if_pos h1])
/-- eventKind -/
def f_L_eventKind (M : tvM) (x1 : Int32) : Int32 × tvM := (if (f_X8_eventKind M x1).1 = none then (0, (tpl M 257 0 (((f_X8_eventKind M x1).2.1).toInt64))) else (1, M))
def q_L_eventKind (M : tvM) (x1 : Int32) : Prop := (∀ e : String, (f_X8_eventKind M x1).1 = some e → e = "java/util/NoSuchElementException") ∧ True
theorem m_L_eventKind (G : tvG) (M : tvM) (x1 : Int32) (hq : q_L_eventKind M x1) : tvRunW G yL_eventKind cL_eventKind 4 (some .int) hh_L_eventKind 8 1 6 tvP0 tvP0 [.ref (G.2.1 + 0), .int x1, .ref (G.2.1 + 257)] M (.inl (some (.int (f_L_eventKind M x1).1))) ((f_L_eventKind M x1).2) := by
  refine tvRunW.of yw_L_eventKind rfl [some (.ref (G.2.1 + 0)), some (.int x1), some (.ref (G.2.1 + 257)), none] rfl (Nat.le_of_ble_eq_true rfl) ?_
  intro E hG C hN hQ; subst hG
  refine tv_aload_n C dk_L_eventKind_0 rfl ?_
  refine tv_iconst (v := 0) C dk_L_eventKind_1 (by decide) ?_
  refine tv_aload_n C dk_L_eventKind_2 rfl ?_
  refine tv_iload_n C dk_L_eventKind_3 rfl ?_
  refine tv_cVx C dk_L_eventKind_4 ml_RL_103 yk_X8_eventKind yi_X8_eventKind (m_X8_eventKind _ M x1) (Nat.le_of_ble_eq_true rfl) rfl rfl rfl rfl (Nat.le_of_ble_eq_true rfl) (Nat.le_of_ble_eq_true rfl) (Nat.le_of_ble_eq_true rfl) (Nat.le_of_ble_eq_true rfl) (Nat.le_of_ble_eq_true rfl) rfl rfl rfl (fun e he => ?_) (fun h1 => ?_)
  · rcases hq.1 e he with rfl
    · refine tv_catch (e := "java/util/NoSuchElementException") C hN [] ⟨0, 9, 12, 42⟩ [] rfl (fun z hz => nomatch hz) (by decide) (by decide) cl_RL_42 ct_4 (fun q => ?_)
      refine tv_astore_n (L' := [_, _, _, _]) (hn := by decide) (hlt := (Nat.le_of_ble_eq_true rfl)) (hno := rfl) C dk_L_eventKind_12 rfl ?_
      refine tv_iconst (v := 1) C dk_L_eventKind_13 (by decide) ?_
      exact tv_iret C hQ dk_L_eventKind_14 rfl (by rw [f_L_eventKind, if_neg (tv_sn he)]) (by rw [f_L_eventKind, if_neg (tv_sn he)])
  refine tv_i2l C dk_L_eventKind_7 ?_
  refine tv_last (j := 0) rfl C tvP0_ex dk_L_eventKind_8 (Nat.le_of_ble_eq_true rfl) rfl (vp_in_nI (n := 0) (by decide) (by decide)) ?_
  refine tv_goto C dk_L_eventKind_9 ?_
  refine tv_iconst (v := 0) C dk_L_eventKind_15 (by decide) ?_
  exact tv_iret C hQ dk_L_eventKind_16 rfl (by rw [f_L_eventKind, if_pos h1]) (by rw [f_L_eventKind, if_pos h1])
