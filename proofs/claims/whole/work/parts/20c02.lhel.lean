/-- eventTime -/
def f_L_eventTime (M : tvM) (x1 : Int32) : Int32 × tvM := (if (f_X8_eventTime M x1).1 = none then (0, (tpl M 257 0 (((f_X8_eventTime M x1).2.1).toInt64))) else (1, M))
def q_L_eventTime (M : tvM) (x1 : Int32) : Prop := (∀ e : String, (f_X8_eventTime M x1).1 = some e → e = "java/util/NoSuchElementException") ∧ True
theorem m_L_eventTime (G : tvG) (M : tvM) (x1 : Int32) (hq : q_L_eventTime M x1) : tvRunW G yL_eventTime cL_eventTime 4 (some .int) hh_L_eventTime 8 1 6 tvP0 tvP0 [.ref (G.2.1 + 0), .int x1, .ref (G.2.1 + 257)] M (.inl (some (.int (f_L_eventTime M x1).1))) ((f_L_eventTime M x1).2) := by
  refine tvRunW.of yw_L_eventTime rfl [some (.ref (G.2.1 + 0)), some (.int x1), some (.ref (G.2.1 + 257)), none] rfl (Nat.le_of_ble_eq_true rfl) ?_
  intro E hG C hN hQ; subst hG
  refine tv_aload_n C dk_L_eventTime_0 rfl ?_
  refine tv_iconst (v := 0) C dk_L_eventTime_1 (by decide) ?_
  refine tv_aload_n C dk_L_eventTime_2 rfl ?_
  refine tv_iload_n C dk_L_eventTime_3 rfl ?_
  refine tv_cVx C dk_L_eventTime_4 ml_RL_106 yk_X8_eventTime yi_X8_eventTime (m_X8_eventTime _ M x1) (Nat.le_of_ble_eq_true rfl) rfl rfl rfl rfl (Nat.le_of_ble_eq_true rfl) (Nat.le_of_ble_eq_true rfl) (Nat.le_of_ble_eq_true rfl) (Nat.le_of_ble_eq_true rfl) (Nat.le_of_ble_eq_true rfl) rfl rfl rfl (fun e he => ?_) (fun h1 => ?_)
  · rcases hq.1 e he with rfl
    · refine tv_catch (e := "java/util/NoSuchElementException") C hN [] ⟨0, 9, 12, 42⟩ [] rfl (fun z hz => nomatch hz) (by decide) (by decide) cl_RL_42 ct_4 (fun q => ?_)
      refine tv_astore_n (L' := [_, _, _, _]) (hn := by decide) (hlt := (Nat.le_of_ble_eq_true rfl)) (hno := rfl) C dk_L_eventTime_12 rfl ?_
      refine tv_iconst (v := 1) C dk_L_eventTime_13 (by decide) ?_
      exact tv_iret C hQ dk_L_eventTime_14 rfl (by rw [f_L_eventTime, if_neg (tv_sn he)]) (by rw [f_L_eventTime, if_neg (tv_sn he)])
  refine tv_i2l C dk_L_eventTime_7 ?_
  refine tv_last (j := 0) rfl C tvP0_ex dk_L_eventTime_8 (Nat.le_of_ble_eq_true rfl) rfl (vp_in_nI (n := 0) (by decide) (by decide)) ?_
  refine tv_goto C dk_L_eventTime_9 ?_
  refine tv_iconst (v := 0) C dk_L_eventTime_15 (by decide) ?_
  exact tv_iret C hQ dk_L_eventTime_16 rfl (by rw [f_L_eventTime, if_pos h1]) (by rw [f_L_eventTime, if_pos h1])
/-- eventNumber -/
def f_L_eventNumber (M : tvM) (x1 : Int32) : Int32 × tvM := (if (f_X8_eventNumber M x1).1 = none then (0, (tpl M 257 0 (((f_X8_eventNumber M x1).2.1).toInt64))) else (1, M))
def q_L_eventNumber (M : tvM) (x1 : Int32) : Prop := (∀ e : String, (f_X8_eventNumber M x1).1 = some e → e = "java/util/NoSuchElementException") ∧ True
theorem m_L_eventNumber (G : tvG) (M : tvM) (x1 : Int32) (hq : q_L_eventNumber M x1) : tvRunW G yL_eventNumber cL_eventNumber 4 (some .int) hh_L_eventNumber 8 1 6 tvP0 tvP0 [.ref (G.2.1 + 0), .int x1, .ref (G.2.1 + 257)] M (.inl (some (.int (f_L_eventNumber M x1).1))) ((f_L_eventNumber M x1).2) := by
  refine tvRunW.of yw_L_eventNumber rfl [some (.ref (G.2.1 + 0)), some (.int x1), some (.ref (G.2.1 + 257)), none] rfl (Nat.le_of_ble_eq_true rfl) ?_
  intro E hG C hN hQ; subst hG
  refine tv_aload_n C dk_L_eventNumber_0 rfl ?_
  refine tv_iconst (v := 0) C dk_L_eventNumber_1 (by decide) ?_
  refine tv_aload_n C dk_L_eventNumber_2 rfl ?_
  refine tv_iload_n C dk_L_eventNumber_3 rfl ?_
  refine tv_cVx C dk_L_eventNumber_4 ml_RL_109 yk_X8_eventNumber yi_X8_eventNumber (m_X8_eventNumber _ M x1) (Nat.le_of_ble_eq_true rfl) rfl rfl rfl rfl (Nat.le_of_ble_eq_true rfl) (Nat.le_of_ble_eq_true rfl) (Nat.le_of_ble_eq_true rfl) (Nat.le_of_ble_eq_true rfl) (Nat.le_of_ble_eq_true rfl) rfl rfl rfl (fun e he => ?_) (fun h1 => ?_)
  · rcases hq.1 e he with rfl
    · refine tv_catch (e := "java/util/NoSuchElementException") C hN [] ⟨0, 9, 12, 42⟩ [] rfl (fun z hz => nomatch hz) (by decide) (by decide) cl_RL_42 ct_4 (fun q => ?_)
      refine tv_astore_n (L' := [_, _, _, _]) (hn := by decide) (hlt := (Nat.le_of_ble_eq_true rfl)) (hno := rfl) C dk_L_eventNumber_12 rfl ?_
      refine tv_iconst (v := 1) C dk_L_eventNumber_13 (by decide) ?_
      exact tv_iret C hQ dk_L_eventNumber_14 rfl (by rw [f_L_eventNumber, if_neg (tv_sn he)]) (by rw [f_L_eventNumber, if_neg (tv_sn he)])
  refine tv_i2l C dk_L_eventNumber_7 ?_
  refine tv_last (j := 0) rfl C tvP0_ex dk_L_eventNumber_8 (Nat.le_of_ble_eq_true rfl) rfl (vp_in_nI (n := 0) (by decide) (by decide)) ?_
  refine tv_goto C dk_L_eventNumber_9 ?_
  refine tv_iconst (v := 0) C dk_L_eventNumber_15 (by decide) ?_
  exact tv_iret C hQ dk_L_eventNumber_16 rfl (by rw [f_L_eventNumber, if_pos h1]) (by rw [f_L_eventNumber, if_pos h1])
/-- writeBox -/
def f_L_writeBox (M : tvM) (x1 : Int32) : Int32 × tvM := (if (f_X8_writeBox M x1).1 = none then (0, (tpl ((f_X8_writeBox M x1).2.2) 257 0 (((f_X8_writeBox M x1).2.1).toInt64))) else (1, (f_X8_writeBox M x1).2.2))
def q_L_writeBox (M : tvM) (x1 : Int32) : Prop := (∀ e : String, (f_X8_writeBox M x1).1 = some e → e = "java/lang/IndexOutOfBoundsException") ∧ True
theorem m_L_writeBox (G : tvG) (M : tvM) (x1 : Int32) (hq : q_L_writeBox M x1) : tvRunW G yL_writeBox cL_writeBox 4 (some .int) hh_L_writeBox 8 1 6 tvP0 tvP0 [.ref (G.2.1 + 0), .int x1, .ref (G.2.1 + 257)] M (.inl (some (.int (f_L_writeBox M x1).1))) ((f_L_writeBox M x1).2) := by
  refine tvRunW.of yw_L_writeBox rfl [some (.ref (G.2.1 + 0)), some (.int x1), some (.ref (G.2.1 + 257)), none] rfl (Nat.le_of_ble_eq_true rfl) ?_
  intro E hG C hN hQ; subst hG
  refine tv_aload_n C dk_L_writeBox_0 rfl ?_
  refine tv_iconst (v := 0) C dk_L_writeBox_1 (by decide) ?_
  refine tv_aload_n C dk_L_writeBox_2 rfl ?_
  refine tv_iload_n C dk_L_writeBox_3 rfl ?_
  refine tv_cVx C dk_L_writeBox_4 ml_RL_112 yk_X8_writeBox yi_X8_writeBox (n_X8_writeBox _ M x1) (Nat.le_of_ble_eq_true rfl) rfl rfl rfl rfl (Nat.le_of_ble_eq_true rfl) (Nat.le_of_ble_eq_true rfl) (Nat.le_of_ble_eq_true rfl) (Nat.le_of_ble_eq_true rfl) (Nat.le_of_ble_eq_true rfl) rfl rfl rfl (fun e he => ?_) (fun h1 => ?_)
  · rcases hq.1 e he with rfl
    · refine tv_catch (e := "java/lang/IndexOutOfBoundsException") C hN [] ⟨0, 9, 12, 21⟩ [] rfl (fun z hz => nomatch hz) (by decide) (by decide) cl_RL_21 ct_0 (fun q => ?_)
      refine tv_astore_n (L' := [_, _, _, _]) (hn := by decide) (hlt := (Nat.le_of_ble_eq_true rfl)) (hno := rfl) C dk_L_writeBox_12 rfl ?_
      refine tv_iconst (v := 1) C dk_L_writeBox_13 (by decide) ?_
      exact tv_iret C hQ dk_L_writeBox_14 rfl (by rw [f_L_writeBox, if_neg (tv_sn he)]) (by rw [f_L_writeBox, if_neg (tv_sn he)])
  refine tv_i2l C dk_L_writeBox_7 ?_
  refine tv_last (j := 0) rfl C tvP0_ex dk_L_writeBox_8 (Nat.le_of_ble_eq_true rfl) rfl (vp_in_nI (n := 0) (by decide) (by decide)) ?_
  refine tv_goto C dk_L_writeBox_9 ?_
  refine tv_iconst (v := 0) C dk_L_writeBox_15 (by decide) ?_
  exact tv_iret C hQ dk_L_writeBox_16 rfl (by rw [f_L_writeBox, if_pos h1]) (by rw [f_L_writeBox, if_pos h1])
/-- charAt -/
def f_L_charAt (M : tvM) (x1 : Int32) : Int32 × tvM := (if (f_X8_charAt M x1).1 = none then (0, (tpl M 257 0 (((f_X8_charAt M x1).2.1).toInt64))) else (1, M))
def q_L_charAt (M : tvM) (x1 : Int32) : Prop := (∀ e : String, (f_X8_charAt M x1).1 = some e → e = "java/lang/IndexOutOfBoundsException") ∧ True
theorem m_L_charAt (G : tvG) (M : tvM) (x1 : Int32) (hq : q_L_charAt M x1) : tvRunW G yL_charAt cL_charAt 4 (some .int) hh_L_charAt 7 1 6 tvP0 tvP0 [.ref (G.2.1 + 0), .int x1, .ref (G.2.1 + 257)] M (.inl (some (.int (f_L_charAt M x1).1))) ((f_L_charAt M x1).2) := by
  refine tvRunW.of yw_L_charAt rfl [some (.ref (G.2.1 + 0)), some (.int x1), some (.ref (G.2.1 + 257)), none] rfl (Nat.le_of_ble_eq_true rfl) ?_
  intro E hG C hN hQ; subst hG
  refine tv_aload_n C dk_L_charAt_0 rfl ?_
  refine tv_iconst (v := 0) C dk_L_charAt_1 (by decide) ?_
  refine tv_aload_n C dk_L_charAt_2 rfl ?_
  refine tv_iload_n C dk_L_charAt_3 rfl ?_
  refine tv_cVx C dk_L_charAt_4 ml_RL_115 yk_X8_charAt yi_X8_charAt (m_X8_charAt _ M x1) (Nat.le_of_ble_eq_true rfl) rfl rfl rfl rfl (Nat.le_of_ble_eq_true rfl) (Nat.le_of_ble_eq_true rfl) (Nat.le_of_ble_eq_true rfl) (Nat.le_of_ble_eq_true rfl) (Nat.le_of_ble_eq_true rfl) rfl rfl rfl (fun e he => ?_) (fun h1 => ?_)
  · rcases hq.1 e he with rfl
    · refine tv_catch (e := "java/lang/IndexOutOfBoundsException") C hN [] ⟨0, 9, 12, 21⟩ [] rfl (fun z hz => nomatch hz) (by decide) (by decide) cl_RL_21 ct_0 (fun q => ?_)
      refine tv_astore_n (L' := [_, _, _, _]) (hn := by decide) (hlt := (Nat.le_of_ble_eq_true rfl)) (hno := rfl) C dk_L_charAt_12 rfl ?_
      refine tv_iconst (v := 1) C dk_L_charAt_13 (by decide) ?_
      exact tv_iret C hQ dk_L_charAt_14 rfl (by rw [f_L_charAt, if_neg (tv_sn he)]) (by rw [f_L_charAt, if_neg (tv_sn he)])
  refine tv_i2l C dk_L_charAt_7 ?_
  refine tv_last (j := 0) rfl C tvP0_ex dk_L_charAt_8 (Nat.le_of_ble_eq_true rfl) rfl (vp_in_nI (n := 0) (by decide) (by decide)) ?_
  refine tv_goto C dk_L_charAt_9 ?_
  refine tv_iconst (v := 0) C dk_L_charAt_15 (by decide) ?_
  exact tv_iret C hQ dk_L_charAt_16 rfl (by rw [f_L_charAt, if_pos h1]) (by rw [f_L_charAt, if_pos h1])
/-- type -/
def f_L_type (M : tvM) (x1 : Int32) : Int32 × tvM := (if (f_X8_type M x1).1 = none then (0, (tpl ((f_X8_type M x1).2.2) 257 0 (((f_X8_type M x1).2.1).toInt64))) else (1, (f_X8_type M x1).2.2))
def q_L_type (M : tvM) (x1 : Int32) : Prop := (∀ e : String, (f_X8_type M x1).1 = some e → e = "java/lang/IllegalStateException") ∧ True
theorem m_L_type (G : tvG) (M : tvM) (x1 : Int32) (hq : q_L_type M x1) : tvRunW G yL_type cL_type 4 (some .int) hh_L_type 7 1 6 tvP0 tvP0 [.ref (G.2.1 + 0), .int x1, .ref (G.2.1 + 257)] M (.inl (some (.int (f_L_type M x1).1))) ((f_L_type M x1).2) := by
  refine tvRunW.of yw_L_type rfl [some (.ref (G.2.1 + 0)), some (.int x1), some (.ref (G.2.1 + 257)), none] rfl (Nat.le_of_ble_eq_true rfl) ?_
  intro E hG C hN hQ; subst hG
  refine tv_aload_n C dk_L_type_0 rfl ?_
  refine tv_iconst (v := 0) C dk_L_type_1 (by decide) ?_
  refine tv_aload_n C dk_L_type_2 rfl ?_
  refine tv_iload_n C dk_L_type_3 rfl ?_
  refine tv_cVx C dk_L_type_4 ml_RL_118 yk_X8_type yi_X8_type (m_X8_type _ M x1) (Nat.le_of_ble_eq_true rfl) rfl rfl rfl rfl (Nat.le_of_ble_eq_true rfl) (Nat.le_of_ble_eq_true rfl) (Nat.le_of_ble_eq_true rfl) (Nat.le_of_ble_eq_true rfl) (Nat.le_of_ble_eq_true rfl) rfl rfl rfl (fun e he => ?_) (fun h1 => ?_)
  · rcases hq.1 e he with rfl
    · refine tv_catch (e := "java/lang/IllegalStateException") C hN [] ⟨0, 9, 12, 15⟩ [] rfl (fun z hz => nomatch hz) (by decide) (by decide) cl_RL_15 ct_2 (fun q => ?_)
      refine tv_astore_n (L' := [_, _, _, _]) (hn := by decide) (hlt := (Nat.le_of_ble_eq_true rfl)) (hno := rfl) C dk_L_type_12 rfl ?_
      refine tv_iconst (v := 1) C dk_L_type_13 (by decide) ?_
      exact tv_iret C hQ dk_L_type_14 rfl (by rw [f_L_type, if_neg (tv_sn he)]) (by rw [f_L_type, if_neg (tv_sn he)])
  refine tv_i2l C dk_L_type_7 ?_
  refine tv_last (j := 0) rfl C tvP0_ex dk_L_type_8 (Nat.le_of_ble_eq_true rfl) rfl (vp_in_nI (n := 0) (by decide) (by decide)) ?_
  refine tv_goto C dk_L_type_9 ?_
  refine tv_iconst (v := 0) C dk_L_type_15 (by decide) ?_
  exact tv_iret C hQ dk_L_type_16 rfl (by rw [f_L_type, if_pos h1]) (by rw [f_L_type, if_pos h1])
/-- run -/
def f_L_run (M : tvM) : Int32 × tvM := (if (f_X8_run M).1 = none then (0, (tpl ((f_X8_run M).2.2) 257 0 (((f_X8_run M).2.1).toInt64))) else (if (f_X8_run M).1 = some "java/lang/IllegalArgumentException" then (1, (f_X8_run M).2.2) else (2, (f_X8_run M).2.2)))
def q_L_run (M : tvM) : Prop := (∀ e : String, (f_X8_run M).1 = some e → e = "java/lang/IllegalArgumentException" ∨ e = "java/lang/UnsupportedOperationException") ∧ True
theorem m_L_run (G : tvG) (M : tvM) (hq : q_L_run M) : tvRunW G yL_run cL_run 3 (some .int) hh_L_run 10 1 6 tvP0 tvP0 [.ref (G.2.1 + 0), .ref (G.2.1 + 257)] M (.inl (some (.int (f_L_run M).1))) ((f_L_run M).2) := by
  refine tvRunW.of yw_L_run rfl [some (.ref (G.2.1 + 0)), some (.ref (G.2.1 + 257)), none] rfl (Nat.le_of_ble_eq_true rfl) ?_
  intro E hG C hN hQ; subst hG
  refine tv_aload_n C dk_L_run_0 rfl ?_
  refine tv_iconst (v := 0) C dk_L_run_1 (by decide) ?_
  refine tv_aload_n C dk_L_run_2 rfl ?_
  refine tv_cVx C dk_L_run_3 ml_RL_122 yk_X8_run yi_X8_run (n_X8_run _ M) (Nat.le_of_ble_eq_true rfl) rfl rfl rfl rfl (Nat.le_of_ble_eq_true rfl) (Nat.le_of_ble_eq_true rfl) (Nat.le_of_ble_eq_true rfl) (Nat.le_of_ble_eq_true rfl) (Nat.le_of_ble_eq_true rfl) rfl rfl rfl (fun e he => ?_) (fun h1 => ?_)
  · rcases hq.1 e he with rfl | rfl
    · refine tv_catch (e := "java/lang/IllegalArgumentException") C hN [] ⟨0, 8, 11, 13⟩ [⟨0, 8, 14, 31⟩] rfl (fun z hz => nomatch hz) (by decide) (by decide) cl_RL_13 ct_1 (fun q => ?_)
      refine tv_astore_n (L' := [_, _, _]) (hn := by decide) (hlt := (Nat.le_of_ble_eq_true rfl)) (hno := rfl) C dk_L_run_11 rfl ?_
      refine tv_iconst (v := 1) C dk_L_run_12 (by decide) ?_
      exact tv_iret C hQ dk_L_run_13 rfl (by rw [f_L_run, if_neg (tv_sn he), if_pos he]) (by rw [f_L_run, if_neg (tv_sn he), if_pos he])
    · refine tv_catch (e := "java/lang/UnsupportedOperationException") C hN [⟨0, 8, 11, 13⟩] ⟨0, 8, 14, 31⟩ [] rfl (List.forall_mem_cons.mpr ⟨⟨by decide, "java/lang/IllegalArgumentException", cl_RL_13, List.mem_of_getElem? (i := 16) rfl⟩, (fun z hz => nomatch hz)⟩) (by decide) (by decide) cl_RL_31 ct_3 (fun q => ?_)
      refine tv_astore_n (L' := [_, _, _]) (hn := by decide) (hlt := (Nat.le_of_ble_eq_true rfl)) (hno := rfl) C dk_L_run_14 rfl ?_
      refine tv_iconst (v := 2) C dk_L_run_15 (by decide) ?_
      exact tv_iret C hQ dk_L_run_16 rfl (by rw [f_L_run, if_neg (tv_sn he), if_neg (fun q => absurd (Option.some.inj (he.symm.trans q)) (by decide))]) (by rw [f_L_run, if_neg (tv_sn he), if_neg (fun q => absurd (Option.some.inj (he.symm.trans q)) (by decide))])
  refine tv_i2l C dk_L_run_6 ?_
  refine tv_last (j := 0) rfl C tvP0_ex dk_L_run_7 (Nat.le_of_ble_eq_true rfl) rfl (vp_in_nI (n := 0) (by decide) (by decide)) ?_
  refine tv_goto C dk_L_run_8 ?_
  refine tv_iconst (v := 0) C dk_L_run_17 (by decide) ?_
  exact tv_iret C hQ dk_L_run_18 rfl (by rw [f_L_run, if_pos h1]) (by rw [f_L_run, if_pos h1])
/-- errorPosition -/
def f_L_errorPosition (M : tvM) : Int32 × tvM := (if (f_X8_errorPosition M).1 = none then (0, (tpl M 257 0 (((f_X8_errorPosition M).2.1).toInt64))) else (1, M))
def q_L_errorPosition (M : tvM) : Prop := (∀ e : String, (f_X8_errorPosition M).1 = some e → e = "java/util/NoSuchElementException") ∧ True
theorem m_L_errorPosition (G : tvG) (M : tvM) (hq : q_L_errorPosition M) : tvRunW G yL_errorPosition cL_errorPosition 3 (some .int) hh_L_errorPosition 7 1 6 tvP0 tvP0 [.ref (G.2.1 + 0), .ref (G.2.1 + 257)] M (.inl (some (.int (f_L_errorPosition M).1))) ((f_L_errorPosition M).2) := by
  refine tvRunW.of yw_L_errorPosition rfl [some (.ref (G.2.1 + 0)), some (.ref (G.2.1 + 257)), none] rfl (Nat.le_of_ble_eq_true rfl) ?_
  intro E hG C hN hQ; subst hG
  refine tv_aload_n C dk_L_errorPosition_0 rfl ?_
  refine tv_iconst (v := 0) C dk_L_errorPosition_1 (by decide) ?_
  refine tv_aload_n C dk_L_errorPosition_2 rfl ?_
  refine tv_cVx C dk_L_errorPosition_3 ml_RL_126 yk_X8_errorPosition yi_X8_errorPosition (m_X8_errorPosition _ M) (Nat.le_of_ble_eq_true rfl) rfl rfl rfl rfl (Nat.le_of_ble_eq_true rfl) (Nat.le_of_ble_eq_true rfl) (Nat.le_of_ble_eq_true rfl) (Nat.le_of_ble_eq_true rfl) (Nat.le_of_ble_eq_true rfl) rfl rfl rfl (fun e he => ?_) (fun h1 => ?_)
  · rcases hq.1 e he with rfl
    · refine tv_catch (e := "java/util/NoSuchElementException") C hN [] ⟨0, 8, 11, 42⟩ [] rfl (fun z hz => nomatch hz) (by decide) (by decide) cl_RL_42 ct_4 (fun q => ?_)
      refine tv_astore_n (L' := [_, _, _]) (hn := by decide) (hlt := (Nat.le_of_ble_eq_true rfl)) (hno := rfl) C dk_L_errorPosition_11 rfl ?_
      refine tv_iconst (v := 1) C dk_L_errorPosition_12 (by decide) ?_
      exact tv_iret C hQ dk_L_errorPosition_13 rfl (by rw [f_L_errorPosition, if_neg (tv_sn he)]) (by rw [f_L_errorPosition, if_neg (tv_sn he)])
  refine tv_i2l C dk_L_errorPosition_6 ?_
  refine tv_last (j := 0) rfl C tvP0_ex dk_L_errorPosition_7 (Nat.le_of_ble_eq_true rfl) rfl (vp_in_nI (n := 0) (by decide) (by decide)) ?_
  refine tv_goto C dk_L_errorPosition_8 ?_
  refine tv_iconst (v := 0) C dk_L_errorPosition_14 (by decide) ?_
  exact tv_iret C hQ dk_L_errorPosition_15 rfl (by rw [f_L_errorPosition, if_pos h1]) (by rw [f_L_errorPosition, if_pos h1])
/-- failedCommand -/
def f_L_failedCommand (M : tvM) : Int32 × tvM := (if (f_X8_failedCommand M).1 = none then (0, (tpl M 257 0 (((f_X8_failedCommand M).2.1).toInt64))) else (1, M))
def q_L_failedCommand (M : tvM) : Prop := (∀ e : String, (f_X8_failedCommand M).1 = some e → e = "java/util/NoSuchElementException") ∧ True
theorem m_L_failedCommand (G : tvG) (M : tvM) (hq : q_L_failedCommand M) : tvRunW G yL_failedCommand cL_failedCommand 3 (some .int) hh_L_failedCommand 8 1 6 tvP0 tvP0 [.ref (G.2.1 + 0), .ref (G.2.1 + 257)] M (.inl (some (.int (f_L_failedCommand M).1))) ((f_L_failedCommand M).2) := by
  refine tvRunW.of yw_L_failedCommand rfl [some (.ref (G.2.1 + 0)), some (.ref (G.2.1 + 257)), none] rfl (Nat.le_of_ble_eq_true rfl) ?_
  intro E hG C hN hQ; subst hG
  refine tv_aload_n C dk_L_failedCommand_0 rfl ?_
  refine tv_iconst (v := 0) C dk_L_failedCommand_1 (by decide) ?_
  refine tv_aload_n C dk_L_failedCommand_2 rfl ?_
  refine tv_cVx C dk_L_failedCommand_3 ml_RL_129 yk_X8_failedCommand yi_X8_failedCommand (m_X8_failedCommand _ M) (Nat.le_of_ble_eq_true rfl) rfl rfl rfl rfl (Nat.le_of_ble_eq_true rfl) (Nat.le_of_ble_eq_true rfl) (Nat.le_of_ble_eq_true rfl) (Nat.le_of_ble_eq_true rfl) (Nat.le_of_ble_eq_true rfl) rfl rfl rfl (fun e he => ?_) (fun h1 => ?_)
  · rcases hq.1 e he with rfl
    · refine tv_catch (e := "java/util/NoSuchElementException") C hN [] ⟨0, 8, 11, 42⟩ [] rfl (fun z hz => nomatch hz) (by decide) (by decide) cl_RL_42 ct_4 (fun q => ?_)
      refine tv_astore_n (L' := [_, _, _]) (hn := by decide) (hlt := (Nat.le_of_ble_eq_true rfl)) (hno := rfl) C dk_L_failedCommand_11 rfl ?_
      refine tv_iconst (v := 1) C dk_L_failedCommand_12 (by decide) ?_
      exact tv_iret C hQ dk_L_failedCommand_13 rfl (by rw [f_L_failedCommand, if_neg (tv_sn he)]) (by rw [f_L_failedCommand, if_neg (tv_sn he)])
  refine tv_i2l C dk_L_failedCommand_6 ?_
  refine tv_last (j := 0) rfl C tvP0_ex dk_L_failedCommand_7 (Nat.le_of_ble_eq_true rfl) rfl (vp_in_nI (n := 0) (by decide) (by decide)) ?_
  refine tv_goto C dk_L_failedCommand_8 ?_
  refine tv_iconst (v := 0) C dk_L_failedCommand_14 (by decide) ?_
  exact tv_iret C hQ dk_L_failedCommand_15 rfl (by rw [f_L_failedCommand, if_pos h1]) (by rw [f_L_failedCommand, if_pos h1])
/-- wasWrongCode -/
def f_L_wasWrongCode (M : tvM) : Int32 × tvM := (if (f_X8_wasWrongCode M).1 = none then (0, (tpl M 257 0 (if (f_X8_wasWrongCode M).2.1 = 0 then 0 else 1))) else (1, M))
def q_L_wasWrongCode (M : tvM) : Prop := (∀ e : String, (f_X8_wasWrongCode M).1 = some e → e = "java/util/NoSuchElementException") ∧ narrow .boolean (.int (tgi M 0 9)) = .int (tgi M 0 9) ∧ True
theorem m_L_wasWrongCode (G : tvG) (M : tvM) (hq : q_L_wasWrongCode M) : tvRunW G yL_wasWrongCode cL_wasWrongCode 3 (some .int) hh_L_wasWrongCode 8 1 6 tvP0 tvP0 [.ref (G.2.1 + 0), .ref (G.2.1 + 257)] M (.inl (some (.int (f_L_wasWrongCode M).1))) ((f_L_wasWrongCode M).2) := by
  refine tvRunW.of yw_L_wasWrongCode rfl [some (.ref (G.2.1 + 0)), some (.ref (G.2.1 + 257)), none] rfl (Nat.le_of_ble_eq_true rfl) ?_
  intro E hG C hN hQ; subst hG
  refine tv_aload_n C dk_L_wasWrongCode_0 rfl ?_
  refine tv_iconst (v := 0) C dk_L_wasWrongCode_1 (by decide) ?_
  refine tv_aload_n C dk_L_wasWrongCode_2 rfl ?_
  refine tv_cVx C dk_L_wasWrongCode_3 ml_RL_132 yk_X8_wasWrongCode yi_X8_wasWrongCode (m_X8_wasWrongCode _ M hq.2.1) (Nat.le_of_ble_eq_true rfl) rfl rfl rfl rfl (Nat.le_of_ble_eq_true rfl) (Nat.le_of_ble_eq_true rfl) (Nat.le_of_ble_eq_true rfl) (Nat.le_of_ble_eq_true rfl) (Nat.le_of_ble_eq_true rfl) rfl rfl rfl (fun e he => ?_) (fun h1 => ?_)
  · rcases hq.1 e he with rfl
    · refine tv_catch (e := "java/util/NoSuchElementException") C hN [] ⟨0, 15, 18, 42⟩ [] rfl (fun z hz => nomatch hz) (by decide) (by decide) cl_RL_42 ct_4 (fun q => ?_)
      refine tv_astore_n (L' := [_, _, _]) (hn := by decide) (hlt := (Nat.le_of_ble_eq_true rfl)) (hno := rfl) C dk_L_wasWrongCode_18 rfl ?_
      refine tv_iconst (v := 1) C dk_L_wasWrongCode_19 (by decide) ?_
      exact tv_iret C hQ dk_L_wasWrongCode_20 rfl (by rw [f_L_wasWrongCode, if_neg (tv_sn he)]) (by rw [f_L_wasWrongCode, if_neg (tv_sn he)])
  refine tv_if_eq C dk_L_wasWrongCode_6 (fun h2 => ?_) (fun h2 => ?_)
  · refine tv_lconst (v := 0) C dk_L_wasWrongCode_13 (by decide) ?_
    refine tv_last (j := 0) rfl C tvP0_ex dk_L_wasWrongCode_14 (Nat.le_of_ble_eq_true rfl) rfl (vp_in_nI (n := 0) (by decide) (by decide)) ?_
    refine tv_goto C dk_L_wasWrongCode_15 ?_
    refine tv_iconst (v := 0) C dk_L_wasWrongCode_21 (by decide) ?_
    exact tv_iret C hQ dk_L_wasWrongCode_22 rfl (by rw [f_L_wasWrongCode, if_pos h1]) (by rw [f_L_wasWrongCode, if_pos h1, if_pos h2])
  refine tv_lconst (v := 1) C dk_L_wasWrongCode_9 (by decide) ?_
  refine tv_goto C dk_L_wasWrongCode_10 ?_
  refine tv_last (j := 0) rfl C tvP0_ex dk_L_wasWrongCode_14 (Nat.le_of_ble_eq_true rfl) rfl (vp_in_nI (n := 0) (by decide) (by decide)) ?_
  refine tv_goto C dk_L_wasWrongCode_15 ?_
  refine tv_iconst (v := 0) C dk_L_wasWrongCode_21 (by decide) ?_
  exact tv_iret C hQ dk_L_wasWrongCode_22 rfl (by rw [f_L_wasWrongCode, if_pos h1]) (by rw [f_L_wasWrongCode, if_pos h1, if_neg h2])
/-- undo -/
def f_L_undo (M : tvM) : Int32 × tvM := (if (f_X8_undo M).1 = none then (0, (tpl ((f_X8_undo M).2.2) 257 0 (((f_X8_undo M).2.1).toInt64))) else (1, (f_X8_undo M).2.2))
def q_L_undo (M : tvM) : Prop := (∀ e : String, (f_X8_undo M).1 = some e → e = "java/lang/IllegalStateException") ∧ True
theorem m_L_undo (G : tvG) (M : tvM) (hq : q_L_undo M) : tvRunW G yL_undo cL_undo 3 (some .int) hh_L_undo 7 1 6 tvP0 tvP0 [.ref (G.2.1 + 0), .ref (G.2.1 + 257)] M (.inl (some (.int (f_L_undo M).1))) ((f_L_undo M).2) := by
  refine tvRunW.of yw_L_undo rfl [some (.ref (G.2.1 + 0)), some (.ref (G.2.1 + 257)), none] rfl (Nat.le_of_ble_eq_true rfl) ?_
  intro E hG C hN hQ; subst hG
  refine tv_aload_n C dk_L_undo_0 rfl ?_
  refine tv_iconst (v := 0) C dk_L_undo_1 (by decide) ?_
  refine tv_aload_n C dk_L_undo_2 rfl ?_
  refine tv_cVx C dk_L_undo_3 ml_RL_136 yk_X8_undo yi_X8_undo (m_X8_undo _ M) (Nat.le_of_ble_eq_true rfl) rfl rfl rfl rfl (Nat.le_of_ble_eq_true rfl) (Nat.le_of_ble_eq_true rfl) (Nat.le_of_ble_eq_true rfl) (Nat.le_of_ble_eq_true rfl) (Nat.le_of_ble_eq_true rfl) rfl rfl rfl (fun e he => ?_) (fun h1 => ?_)
  · rcases hq.1 e he with rfl
    · refine tv_catch (e := "java/lang/IllegalStateException") C hN [] ⟨0, 8, 11, 15⟩ [] rfl (fun z hz => nomatch hz) (by decide) (by decide) cl_RL_15 ct_2 (fun q => ?_)
      refine tv_astore_n (L' := [_, _, _]) (hn := by decide) (hlt := (Nat.le_of_ble_eq_true rfl)) (hno := rfl) C dk_L_undo_11 rfl ?_
      refine tv_iconst (v := 1) C dk_L_undo_12 (by decide) ?_
      exact tv_iret C hQ dk_L_undo_13 rfl (by rw [f_L_undo, if_neg (tv_sn he)]) (by rw [f_L_undo, if_neg (tv_sn he)])
  refine tv_i2l C dk_L_undo_6 ?_
  refine tv_last (j := 0) rfl C tvP0_ex dk_L_undo_7 (Nat.le_of_ble_eq_true rfl) rfl (vp_in_nI (n := 0) (by decide) (by decide)) ?_
  refine tv_goto C dk_L_undo_8 ?_
  refine tv_iconst (v := 0) C dk_L_undo_14 (by decide) ?_
  exact tv_iret C hQ dk_L_undo_15 rfl (by rw [f_L_undo, if_pos h1]) (by rw [f_L_undo, if_pos h1])
/-- restore -/
def f_L_restore (M : tvM) : Int32 × tvM := (if (f_X8_restore M).1 = none then (0, (tpl ((f_X8_restore M).2.2) 257 0 (((f_X8_restore M).2.1).toInt64))) else (1, (f_X8_restore M).2.2))
def q_L_restore (M : tvM) : Prop := (∀ e : String, (f_X8_restore M).1 = some e → e = "java/lang/IllegalStateException") ∧ True
theorem m_L_restore (G : tvG) (M : tvM) (hq : q_L_restore M) : tvRunW G yL_restore cL_restore 3 (some .int) hh_L_restore 7 1 6 tvP0 tvP0 [.ref (G.2.1 + 0), .ref (G.2.1 + 257)] M (.inl (some (.int (f_L_restore M).1))) ((f_L_restore M).2) := by
  refine tvRunW.of yw_L_restore rfl [some (.ref (G.2.1 + 0)), some (.ref (G.2.1 + 257)), none] rfl (Nat.le_of_ble_eq_true rfl) ?_
  intro E hG C hN hQ; subst hG
  refine tv_aload_n C dk_L_restore_0 rfl ?_
  refine tv_iconst (v := 0) C dk_L_restore_1 (by decide) ?_
  refine tv_aload_n C dk_L_restore_2 rfl ?_
  refine tv_cVx C dk_L_restore_3 ml_RL_139 yk_X8_restore yi_X8_restore (m_X8_restore _ M) (Nat.le_of_ble_eq_true rfl) rfl rfl rfl rfl (Nat.le_of_ble_eq_true rfl) (Nat.le_of_ble_eq_true rfl) (Nat.le_of_ble_eq_true rfl) (Nat.le_of_ble_eq_true rfl) (Nat.le_of_ble_eq_true rfl) rfl rfl rfl (fun e he => ?_) (fun h1 => ?_)
  · rcases hq.1 e he with rfl
    · refine tv_catch (e := "java/lang/IllegalStateException") C hN [] ⟨0, 8, 11, 15⟩ [] rfl (fun z hz => nomatch hz) (by decide) (by decide) cl_RL_15 ct_2 (fun q => ?_)
      refine tv_astore_n (L' := [_, _, _]) (hn := by decide) (hlt := (Nat.le_of_ble_eq_true rfl)) (hno := rfl) C dk_L_restore_11 rfl ?_
      refine tv_iconst (v := 1) C dk_L_restore_12 (by decide) ?_
      exact tv_iret C hQ dk_L_restore_13 rfl (by rw [f_L_restore, if_neg (tv_sn he)]) (by rw [f_L_restore, if_neg (tv_sn he)])
  refine tv_i2l C dk_L_restore_6 ?_
  refine tv_last (j := 0) rfl C tvP0_ex dk_L_restore_7 (Nat.le_of_ble_eq_true rfl) rfl (vp_in_nI (n := 0) (by decide) (by decide)) ?_
  refine tv_goto C dk_L_restore_8 ?_
  refine tv_iconst (v := 0) C dk_L_restore_14 (by decide) ?_
  exact tv_iret C hQ dk_L_restore_15 rfl (by rw [f_L_restore, if_pos h1]) (by rw [f_L_restore, if_pos h1])
