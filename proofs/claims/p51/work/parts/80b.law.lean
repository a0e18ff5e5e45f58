theorem m_L_addHolder (G : tvG) (M : tvM) (x1 : Int32) {x : Int32} {M1 : tvM} (h : wOut [("java/lang/IllegalArgumentException", -900001), ("java/lang/IllegalStateException", -900002)] (f_X8_addHolder M x1) x M1) : tvRunW G yL_addHolder cL_addHolder 3 (some .int) hh_L_addHolder 8 1 6 tvP0 tvP0 [.ref (G.2.1 + 0), .int x1] M (.inl (some (.int x))) M1 := by
  refine tvRunW.of yw_L_addHolder rfl [some (.ref (G.2.1 + 0)), some (.int x1), none] rfl (Nat.le_of_ble_eq_true rfl) ?_
  intro E hG C hQ; subst hG
  refine tv_aload_n C dk_L_addHolder_0 rfl ?_
  refine tv_iload_n C dk_L_addHolder_1 rfl ?_
  refine tv_cVx C dk_L_addHolder_2 ml_RL_9 yk_X8_addHolder yi_X8_addHolder (m_X8_addHolder _ M x1) (Nat.le_of_ble_eq_true rfl) rfl rfl rfl rfl (Nat.le_of_ble_eq_true rfl) (Nat.le_of_ble_eq_true rfl) (Nat.le_of_ble_eq_true rfl) (Nat.le_of_ble_eq_true rfl) (Nat.le_of_ble_eq_true rfl) rfl rfl rfl (fun e he => ?_) (fun h1 => ?_)
  · rcases h with h | ⟨p, hp, h, hx⟩
    · rw [h] at he; cases he
    · rw [h] at he
      cases he
      rw [h]
      simp only [List.mem_cons, List.not_mem_nil, or_false] at hp
      rcases hp with rfl | rfl
      · refine tv_catch (e := "java/lang/IllegalArgumentException") C [] ⟨0, 5, 6, 15⟩ [⟨0, 5, 10, 18⟩] rfl (fun z hz => nomatch hz) (by decide) (by decide) cl_RL_15 ct_1 (fun q => ?_)
        refine tv_astore_n (L' := [_, _, _]) (hn := by decide) (hlt := (Nat.le_of_ble_eq_true rfl)) (hno := rfl) C dk_L_addHolder_6 rfl ?_
        refine tv_ldcI (v := -900001) C dk_L_addHolder_7 kc_17 ?_
        exact tv_iret C hQ dk_L_addHolder_9 rfl (by rw [hx]) rfl
      · refine tv_catch (e := "java/lang/IllegalStateException") C [⟨0, 5, 6, 15⟩] ⟨0, 5, 10, 18⟩ [] rfl (List.forall_mem_cons.mpr ⟨⟨by decide, "java/lang/IllegalArgumentException", cl_RL_15, List.mem_of_getElem? (i := 9) rfl⟩, (fun z hz => nomatch hz)⟩) (by decide) (by decide) cl_RL_18 ct_2 (fun q => ?_)
        refine tv_astore_n (L' := [_, _, _]) (hn := by decide) (hlt := (Nat.le_of_ble_eq_true rfl)) (hno := rfl) C dk_L_addHolder_10 rfl ?_
        refine tv_ldcI (v := -900002) C dk_L_addHolder_11 kc_20 ?_
        exact tv_iret C hQ dk_L_addHolder_13 rfl (by rw [hx]) rfl
  · rcases h with h | ⟨p, hp, h, hx⟩
    · rw [h]
      exact tv_iret C hQ dk_L_addHolder_5 rfl rfl rfl
    · rw [h] at h1; cases h1
theorem m_L_addBox (G : tvG) (M : tvM) (x1 : Int32) (x2 : Int32) (x3 : Int32) {x : Int32} {M1 : tvM} (h : wOut [("java/lang/IndexOutOfBoundsException", -900001), ("java/lang/IllegalArgumentException", -900002), ("java/lang/IllegalStateException", -900003)] (f_X8_addBox M x1 x2 x3) x M1) : tvRunW G yL_addBox cL_addBox 5 (some .int) hh_L_addBox 8 1 6 tvP0 tvP0 [.ref (G.2.1 + 0), .int x1, .int x2, .int x3] M (.inl (some (.int x))) M1 := by
  refine tvRunW.of yw_L_addBox rfl [some (.ref (G.2.1 + 0)), some (.int x1), some (.int x2), some (.int x3), none] rfl (Nat.le_of_ble_eq_true rfl) ?_
  intro E hG C hQ; subst hG
  refine tv_aload_n C dk_L_addBox_0 rfl ?_
  refine tv_iload_n C dk_L_addBox_1 rfl ?_
  refine tv_iload_n C dk_L_addBox_2 rfl ?_
  refine tv_iload_n C dk_L_addBox_3 rfl ?_
  refine tv_cVx C dk_L_addBox_4 ml_RL_21 yk_X8_addBox yi_X8_addBox (m_X8_addBox _ M x1 x2 x3) (Nat.le_of_ble_eq_true rfl) rfl rfl rfl rfl (Nat.le_of_ble_eq_true rfl) (Nat.le_of_ble_eq_true rfl) (Nat.le_of_ble_eq_true rfl) (Nat.le_of_ble_eq_true rfl) (Nat.le_of_ble_eq_true rfl) rfl rfl rfl (fun e he => ?_) (fun h1 => ?_)
  · rcases h with h | ⟨p, hp, h, hx⟩
    · rw [h] at he; cases he
    · rw [h] at he
      cases he
      rw [h]
      simp only [List.mem_cons, List.not_mem_nil, or_false] at hp
      rcases hp with rfl | rfl | rfl
      · refine tv_catch (e := "java/lang/IndexOutOfBoundsException") C [] ⟨0, 7, 8, 25⟩ [⟨0, 7, 13, 15⟩, ⟨0, 7, 18, 18⟩] rfl (fun z hz => nomatch hz) (by decide) (by decide) cl_RL_25 ct_0 (fun q => ?_)
        refine tv_astore (L' := [_, _, _, _, _]) (hn := by decide) (hlt := (Nat.le_of_ble_eq_true rfl)) (hno := rfl) C dk_L_addBox_8 rfl ?_
        refine tv_ldcI (v := -900001) C dk_L_addBox_10 kc_17 ?_
        exact tv_iret C hQ dk_L_addBox_12 rfl (by rw [hx]) rfl
      · refine tv_catch (e := "java/lang/IllegalArgumentException") C [⟨0, 7, 8, 25⟩] ⟨0, 7, 13, 15⟩ [⟨0, 7, 18, 18⟩] rfl (List.forall_mem_cons.mpr ⟨⟨by decide, "java/lang/IndexOutOfBoundsException", cl_RL_25, List.mem_of_getElem? (i := 4) rfl⟩, (fun z hz => nomatch hz)⟩) (by decide) (by decide) cl_RL_15 ct_1 (fun q => ?_)
        refine tv_astore (L' := [_, _, _, _, _]) (hn := by decide) (hlt := (Nat.le_of_ble_eq_true rfl)) (hno := rfl) C dk_L_addBox_13 rfl ?_
        refine tv_ldcI (v := -900002) C dk_L_addBox_15 kc_20 ?_
        exact tv_iret C hQ dk_L_addBox_17 rfl (by rw [hx]) rfl
      · refine tv_catch (e := "java/lang/IllegalStateException") C [⟨0, 7, 8, 25⟩, ⟨0, 7, 13, 15⟩] ⟨0, 7, 18, 18⟩ [] rfl (List.forall_mem_cons.mpr ⟨⟨by decide, "java/lang/IndexOutOfBoundsException", cl_RL_25, List.mem_of_getElem? (i := 8) rfl⟩, (List.forall_mem_cons.mpr ⟨⟨by decide, "java/lang/IllegalArgumentException", cl_RL_15, List.mem_of_getElem? (i := 9) rfl⟩, (fun z hz => nomatch hz)⟩)⟩) (by decide) (by decide) cl_RL_18 ct_2 (fun q => ?_)
        refine tv_astore (L' := [_, _, _, _, _]) (hn := by decide) (hlt := (Nat.le_of_ble_eq_true rfl)) (hno := rfl) C dk_L_addBox_18 rfl ?_
        refine tv_ldcI (v := -900003) C dk_L_addBox_20 kc_27 ?_
        exact tv_iret C hQ dk_L_addBox_22 rfl (by rw [hx]) rfl
  · rcases h with h | ⟨p, hp, h, hx⟩
    · rw [h]
      exact tv_iret C hQ dk_L_addBox_7 rfl rfl rfl
    · rw [h] at h1; cases h1
theorem m_L_setTide (G : tvG) (M : tvM) (x1 : Int32) (x2 : Int32) {x : Int32} {M1 : tvM} (h : wOut [("java/lang/IllegalArgumentException", -900001)] (f_X8_setTide M x1 x2) x M1) : tvRunW G yL_setTide cL_setTide 4 (some .int) hh_L_setTide 8 1 6 tvP0 tvP0 [.ref (G.2.1 + 0), .int x1, .int x2] M (.inl (some (.int x))) M1 := by
  refine tvRunW.of yw_L_setTide rfl [some (.ref (G.2.1 + 0)), some (.int x1), some (.int x2), none] rfl (Nat.le_of_ble_eq_true rfl) ?_
  intro E hG C hQ; subst hG
  refine tv_aload_n C dk_L_setTide_0 rfl ?_
  refine tv_iload_n C dk_L_setTide_1 rfl ?_
  refine tv_iload_n C dk_L_setTide_2 rfl ?_
  refine tv_cVx C dk_L_setTide_3 ml_RL_28 yk_X8_setTide yi_X8_setTide (m_X8_setTide _ M x1 x2) (Nat.le_of_ble_eq_true rfl) rfl rfl rfl rfl (Nat.le_of_ble_eq_true rfl) (Nat.le_of_ble_eq_true rfl) (Nat.le_of_ble_eq_true rfl) (Nat.le_of_ble_eq_true rfl) (Nat.le_of_ble_eq_true rfl) rfl rfl rfl (fun e he => ?_) (fun h1 => ?_)
  · rcases h with h | ⟨p, hp, h, hx⟩
    · rw [h] at he; cases he
    · rw [h] at he
      cases he
      rw [h]
      simp only [List.mem_cons, List.not_mem_nil, or_false] at hp
      subst hp
      · refine tv_catch (e := "java/lang/IllegalArgumentException") C [] ⟨0, 6, 7, 15⟩ [] rfl (fun z hz => nomatch hz) (by decide) (by decide) cl_RL_15 ct_1 (fun q => ?_)
        refine tv_astore_n (L' := [_, _, _, _]) (hn := by decide) (hlt := (Nat.le_of_ble_eq_true rfl)) (hno := rfl) C dk_L_setTide_7 rfl ?_
        refine tv_ldcI (v := -900001) C dk_L_setTide_8 kc_17 ?_
        exact tv_iret C hQ dk_L_setTide_10 rfl (by rw [hx]) rfl
  · rcases h with h | ⟨p, hp, h, hx⟩
    · rw [h]
      exact tv_iret C hQ dk_L_setTide_6 rfl rfl rfl
    · rw [h] at h1; cases h1
theorem m_L_turnKey (G : tvG) (M : tvM) (x1 : Int32) (x2 : Int32) (x3 : Int32) {x : Int32} {M1 : tvM} (h : wOut [("java/lang/IndexOutOfBoundsException", -900001), ("java/lang/IllegalArgumentException", -900002), ("java/lang/IllegalStateException", -900003), ("java/lang/UnsupportedOperationException", -900004)] (f_X8_turnKey M x1 x2 x3) x M1) : tvRunW G yL_turnKey cL_turnKey 5 (some .int) hh_L_turnKey 9 1 6 tvP0 tvP0 [.ref (G.2.1 + 0), .int x1, .int x2, .int x3] M (.inl (some (.int x))) M1 := by
  refine tvRunW.of yw_L_turnKey rfl [some (.ref (G.2.1 + 0)), some (.int x1), some (.int x2), some (.int x3), none] rfl (Nat.le_of_ble_eq_true rfl) ?_
  intro E hG C hQ; subst hG
  refine tv_aload_n C dk_L_turnKey_0 rfl ?_
  refine tv_iload_n C dk_L_turnKey_1 rfl ?_
  refine tv_iload_n C dk_L_turnKey_2 rfl ?_
  refine tv_iload_n C dk_L_turnKey_3 rfl ?_
  refine tv_cVx C dk_L_turnKey_4 ml_RL_32 yk_X8_turnKey yi_X8_turnKey (m_X8_turnKey _ M x1 x2 x3) (Nat.le_of_ble_eq_true rfl) rfl rfl rfl rfl (Nat.le_of_ble_eq_true rfl) (Nat.le_of_ble_eq_true rfl) (Nat.le_of_ble_eq_true rfl) (Nat.le_of_ble_eq_true rfl) (Nat.le_of_ble_eq_true rfl) rfl rfl rfl (fun e he => ?_) (fun h1 => ?_)
  · rcases h with h | ⟨p, hp, h, hx⟩
    · rw [h] at he; cases he
    · rw [h] at he
      cases he
      rw [h]
      simp only [List.mem_cons, List.not_mem_nil, or_false] at hp
      rcases hp with rfl | rfl | rfl | rfl
      · refine tv_catch (e := "java/lang/IndexOutOfBoundsException") C [] ⟨0, 7, 8, 25⟩ [⟨0, 7, 13, 15⟩, ⟨0, 7, 18, 18⟩, ⟨0, 7, 23, 36⟩] rfl (fun z hz => nomatch hz) (by decide) (by decide) cl_RL_25 ct_0 (fun q => ?_)
        refine tv_astore (L' := [_, _, _, _, _]) (hn := by decide) (hlt := (Nat.le_of_ble_eq_true rfl)) (hno := rfl) C dk_L_turnKey_8 rfl ?_
        refine tv_ldcI (v := -900001) C dk_L_turnKey_10 kc_17 ?_
        exact tv_iret C hQ dk_L_turnKey_12 rfl (by rw [hx]) rfl
      · refine tv_catch (e := "java/lang/IllegalArgumentException") C [⟨0, 7, 8, 25⟩] ⟨0, 7, 13, 15⟩ [⟨0, 7, 18, 18⟩, ⟨0, 7, 23, 36⟩] rfl (List.forall_mem_cons.mpr ⟨⟨by decide, "java/lang/IndexOutOfBoundsException", cl_RL_25, List.mem_of_getElem? (i := 4) rfl⟩, (fun z hz => nomatch hz)⟩) (by decide) (by decide) cl_RL_15 ct_1 (fun q => ?_)
        refine tv_astore (L' := [_, _, _, _, _]) (hn := by decide) (hlt := (Nat.le_of_ble_eq_true rfl)) (hno := rfl) C dk_L_turnKey_13 rfl ?_
        refine tv_ldcI (v := -900002) C dk_L_turnKey_15 kc_20 ?_
        exact tv_iret C hQ dk_L_turnKey_17 rfl (by rw [hx]) rfl
      · refine tv_catch (e := "java/lang/IllegalStateException") C [⟨0, 7, 8, 25⟩, ⟨0, 7, 13, 15⟩] ⟨0, 7, 18, 18⟩ [⟨0, 7, 23, 36⟩] rfl (List.forall_mem_cons.mpr ⟨⟨by decide, "java/lang/IndexOutOfBoundsException", cl_RL_25, List.mem_of_getElem? (i := 8) rfl⟩, (List.forall_mem_cons.mpr ⟨⟨by decide, "java/lang/IllegalArgumentException", cl_RL_15, List.mem_of_getElem? (i := 9) rfl⟩, (fun z hz => nomatch hz)⟩)⟩) (by decide) (by decide) cl_RL_18 ct_2 (fun q => ?_)
        refine tv_astore (L' := [_, _, _, _, _]) (hn := by decide) (hlt := (Nat.le_of_ble_eq_true rfl)) (hno := rfl) C dk_L_turnKey_18 rfl ?_
        refine tv_ldcI (v := -900003) C dk_L_turnKey_20 kc_27 ?_
        exact tv_iret C hQ dk_L_turnKey_22 rfl (by rw [hx]) rfl
      · refine tv_catch (e := "java/lang/UnsupportedOperationException") C [⟨0, 7, 8, 25⟩, ⟨0, 7, 13, 15⟩, ⟨0, 7, 18, 18⟩] ⟨0, 7, 23, 36⟩ [] rfl (List.forall_mem_cons.mpr ⟨⟨by decide, "java/lang/IndexOutOfBoundsException", cl_RL_25, List.mem_of_getElem? (i := 12) rfl⟩, (List.forall_mem_cons.mpr ⟨⟨by decide, "java/lang/IllegalArgumentException", cl_RL_15, List.mem_of_getElem? (i := 13) rfl⟩, (List.forall_mem_cons.mpr ⟨⟨by decide, "java/lang/IllegalStateException", cl_RL_18, List.mem_of_getElem? (i := 14) rfl⟩, (fun z hz => nomatch hz)⟩)⟩)⟩) (by decide) (by decide) cl_RL_36 ct_3 (fun q => ?_)
        refine tv_astore (L' := [_, _, _, _, _]) (hn := by decide) (hlt := (Nat.le_of_ble_eq_true rfl)) (hno := rfl) C dk_L_turnKey_23 rfl ?_
        refine tv_ldcI (v := -900004) C dk_L_turnKey_25 kc_38 ?_
        exact tv_iret C hQ dk_L_turnKey_27 rfl (by rw [hx]) rfl
  · rcases h with h | ⟨p, hp, h, hx⟩
    · rw [h]
      exact tv_iret C hQ dk_L_turnKey_7 rfl rfl rfl
    · rw [h] at h1; cases h1
theorem m_L_changeCode (G : tvG) (M : tvM) (x1 : Int32) (x2 : Int32) (x3 : Int32) {x : Int32} {M1 : tvM} (h : wOut [("java/lang/IndexOutOfBoundsException", -900001), ("java/lang/IllegalArgumentException", -900002), ("java/lang/IllegalStateException", -900003), ("java/lang/UnsupportedOperationException", -900004)] (f_X8_changeCode M x1 x2 x3) x M1) : tvRunW G yL_changeCode cL_changeCode 5 (some .int) hh_L_changeCode 9 1 6 tvP0 tvP0 [.ref (G.2.1 + 0), .int x1, .int x2, .int x3] M (.inl (some (.int x))) M1 := by
  refine tvRunW.of yw_L_changeCode rfl [some (.ref (G.2.1 + 0)), some (.int x1), some (.int x2), some (.int x3), none] rfl (Nat.le_of_ble_eq_true rfl) ?_
  intro E hG C hQ; subst hG
  refine tv_aload_n C dk_L_changeCode_0 rfl ?_
  refine tv_iload_n C dk_L_changeCode_1 rfl ?_
  refine tv_iload_n C dk_L_changeCode_2 rfl ?_
  refine tv_iload_n C dk_L_changeCode_3 rfl ?_
  refine tv_cVx C dk_L_changeCode_4 ml_RL_39 yk_X8_changeCode yi_X8_changeCode (m_X8_changeCode _ M x1 x2 x3) (Nat.le_of_ble_eq_true rfl) rfl rfl rfl rfl (Nat.le_of_ble_eq_true rfl) (Nat.le_of_ble_eq_true rfl) (Nat.le_of_ble_eq_true rfl) (Nat.le_of_ble_eq_true rfl) (Nat.le_of_ble_eq_true rfl) rfl rfl rfl (fun e he => ?_) (fun h1 => ?_)
  · rcases h with h | ⟨p, hp, h, hx⟩
    · rw [h] at he; cases he
    · rw [h] at he
      cases he
      rw [h]
      simp only [List.mem_cons, List.not_mem_nil, or_false] at hp
      rcases hp with rfl | rfl | rfl | rfl
      · refine tv_catch (e := "java/lang/IndexOutOfBoundsException") C [] ⟨0, 7, 8, 25⟩ [⟨0, 7, 13, 15⟩, ⟨0, 7, 18, 18⟩, ⟨0, 7, 23, 36⟩] rfl (fun z hz => nomatch hz) (by decide) (by decide) cl_RL_25 ct_0 (fun q => ?_)
        refine tv_astore (L' := [_, _, _, _, _]) (hn := by decide) (hlt := (Nat.le_of_ble_eq_true rfl)) (hno := rfl) C dk_L_changeCode_8 rfl ?_
        refine tv_ldcI (v := -900001) C dk_L_changeCode_10 kc_17 ?_
        exact tv_iret C hQ dk_L_changeCode_12 rfl (by rw [hx]) rfl
      · refine tv_catch (e := "java/lang/IllegalArgumentException") C [⟨0, 7, 8, 25⟩] ⟨0, 7, 13, 15⟩ [⟨0, 7, 18, 18⟩, ⟨0, 7, 23, 36⟩] rfl (List.forall_mem_cons.mpr ⟨⟨by decide, "java/lang/IndexOutOfBoundsException", cl_RL_25, List.mem_of_getElem? (i := 4) rfl⟩, (fun z hz => nomatch hz)⟩) (by decide) (by decide) cl_RL_15 ct_1 (fun q => ?_)
        refine tv_astore (L' := [_, _, _, _, _]) (hn := by decide) (hlt := (Nat.le_of_ble_eq_true rfl)) (hno := rfl) C dk_L_changeCode_13 rfl ?_
        refine tv_ldcI (v := -900002) C dk_L_changeCode_15 kc_20 ?_
        exact tv_iret C hQ dk_L_changeCode_17 rfl (by rw [hx]) rfl
      · refine tv_catch (e := "java/lang/IllegalStateException") C [⟨0, 7, 8, 25⟩, ⟨0, 7, 13, 15⟩] ⟨0, 7, 18, 18⟩ [⟨0, 7, 23, 36⟩] rfl (List.forall_mem_cons.mpr ⟨⟨by decide, "java/lang/IndexOutOfBoundsException", cl_RL_25, List.mem_of_getElem? (i := 8) rfl⟩, (List.forall_mem_cons.mpr ⟨⟨by decide, "java/lang/IllegalArgumentException", cl_RL_15, List.mem_of_getElem? (i := 9) rfl⟩, (fun z hz => nomatch hz)⟩)⟩) (by decide) (by decide) cl_RL_18 ct_2 (fun q => ?_)
        refine tv_astore (L' := [_, _, _, _, _]) (hn := by decide) (hlt := (Nat.le_of_ble_eq_true rfl)) (hno := rfl) C dk_L_changeCode_18 rfl ?_
        refine tv_ldcI (v := -900003) C dk_L_changeCode_20 kc_27 ?_
        exact tv_iret C hQ dk_L_changeCode_22 rfl (by rw [hx]) rfl
      · refine tv_catch (e := "java/lang/UnsupportedOperationException") C [⟨0, 7, 8, 25⟩, ⟨0, 7, 13, 15⟩, ⟨0, 7, 18, 18⟩] ⟨0, 7, 23, 36⟩ [] rfl (List.forall_mem_cons.mpr ⟨⟨by decide, "java/lang/IndexOutOfBoundsException", cl_RL_25, List.mem_of_getElem? (i := 12) rfl⟩, (List.forall_mem_cons.mpr ⟨⟨by decide, "java/lang/IllegalArgumentException", cl_RL_15, List.mem_of_getElem? (i := 13) rfl⟩, (List.forall_mem_cons.mpr ⟨⟨by decide, "java/lang/IllegalStateException", cl_RL_18, List.mem_of_getElem? (i := 14) rfl⟩, (fun z hz => nomatch hz)⟩)⟩)⟩) (by decide) (by decide) cl_RL_36 ct_3 (fun q => ?_)
        refine tv_astore (L' := [_, _, _, _, _]) (hn := by decide) (hlt := (Nat.le_of_ble_eq_true rfl)) (hno := rfl) C dk_L_changeCode_23 rfl ?_
        refine tv_ldcI (v := -900004) C dk_L_changeCode_25 kc_38 ?_
        exact tv_iret C hQ dk_L_changeCode_27 rfl (by rw [hx]) rfl
  · rcases h with h | ⟨p, hp, h, hx⟩
    · rw [h]
      exact tv_iret C hQ dk_L_changeCode_7 rfl rfl rfl
    · rw [h] at h1; cases h1
theorem m_L_deposit (G : tvG) (M : tvM) (x1 : Int32) (x2 : Int32) {x : Int32} {M1 : tvM} (h : wOut [("java/lang/IndexOutOfBoundsException", -900001), ("java/lang/IllegalArgumentException", -900002), ("java/lang/IllegalStateException", -900003)] (f_X8_deposit M x1 x2) x M1) : tvRunW G yL_deposit cL_deposit 4 (some .int) hh_L_deposit 8 1 6 tvP0 tvP0 [.ref (G.2.1 + 0), .int x1, .int x2] M (.inl (some (.int x))) M1 := by
  refine tvRunW.of yw_L_deposit rfl [some (.ref (G.2.1 + 0)), some (.int x1), some (.int x2), none] rfl (Nat.le_of_ble_eq_true rfl) ?_
  intro E hG C hQ; subst hG
  refine tv_aload_n C dk_L_deposit_0 rfl ?_
  refine tv_iload_n C dk_L_deposit_1 rfl ?_
  refine tv_iload_n C dk_L_deposit_2 rfl ?_
  refine tv_cVx C dk_L_deposit_3 ml_RL_42 yk_X8_deposit yi_X8_deposit (m_X8_deposit _ M x1 x2) (Nat.le_of_ble_eq_true rfl) rfl rfl rfl rfl (Nat.le_of_ble_eq_true rfl) (Nat.le_of_ble_eq_true rfl) (Nat.le_of_ble_eq_true rfl) (Nat.le_of_ble_eq_true rfl) (Nat.le_of_ble_eq_true rfl) rfl rfl rfl (fun e he => ?_) (fun h1 => ?_)
  · rcases h with h | ⟨p, hp, h, hx⟩
    · rw [h] at he; cases he
    · rw [h] at he
      cases he
      rw [h]
      simp only [List.mem_cons, List.not_mem_nil, or_false] at hp
      rcases hp with rfl | rfl | rfl
      · refine tv_catch (e := "java/lang/IndexOutOfBoundsException") C [] ⟨0, 6, 7, 25⟩ [⟨0, 6, 11, 15⟩, ⟨0, 6, 15, 18⟩] rfl (fun z hz => nomatch hz) (by decide) (by decide) cl_RL_25 ct_0 (fun q => ?_)
        refine tv_astore_n (L' := [_, _, _, _]) (hn := by decide) (hlt := (Nat.le_of_ble_eq_true rfl)) (hno := rfl) C dk_L_deposit_7 rfl ?_
        refine tv_ldcI (v := -900001) C dk_L_deposit_8 kc_17 ?_
        exact tv_iret C hQ dk_L_deposit_10 rfl (by rw [hx]) rfl
      · refine tv_catch (e := "java/lang/IllegalArgumentException") C [⟨0, 6, 7, 25⟩] ⟨0, 6, 11, 15⟩ [⟨0, 6, 15, 18⟩] rfl (List.forall_mem_cons.mpr ⟨⟨by decide, "java/lang/IndexOutOfBoundsException", cl_RL_25, List.mem_of_getElem? (i := 4) rfl⟩, (fun z hz => nomatch hz)⟩) (by decide) (by decide) cl_RL_15 ct_1 (fun q => ?_)
        refine tv_astore_n (L' := [_, _, _, _]) (hn := by decide) (hlt := (Nat.le_of_ble_eq_true rfl)) (hno := rfl) C dk_L_deposit_11 rfl ?_
        refine tv_ldcI (v := -900002) C dk_L_deposit_12 kc_20 ?_
        exact tv_iret C hQ dk_L_deposit_14 rfl (by rw [hx]) rfl
      · refine tv_catch (e := "java/lang/IllegalStateException") C [⟨0, 6, 7, 25⟩, ⟨0, 6, 11, 15⟩] ⟨0, 6, 15, 18⟩ [] rfl (List.forall_mem_cons.mpr ⟨⟨by decide, "java/lang/IndexOutOfBoundsException", cl_RL_25, List.mem_of_getElem? (i := 8) rfl⟩, (List.forall_mem_cons.mpr ⟨⟨by decide, "java/lang/IllegalArgumentException", cl_RL_15, List.mem_of_getElem? (i := 9) rfl⟩, (fun z hz => nomatch hz)⟩)⟩) (by decide) (by decide) cl_RL_18 ct_2 (fun q => ?_)
        refine tv_astore_n (L' := [_, _, _, _]) (hn := by decide) (hlt := (Nat.le_of_ble_eq_true rfl)) (hno := rfl) C dk_L_deposit_15 rfl ?_
        refine tv_ldcI (v := -900003) C dk_L_deposit_16 kc_27 ?_
        exact tv_iret C hQ dk_L_deposit_18 rfl (by rw [hx]) rfl
  · rcases h with h | ⟨p, hp, h, hx⟩
    · rw [h]
      exact tv_iret C hQ dk_L_deposit_6 rfl rfl rfl
    · rw [h] at h1; cases h1
theorem m_L_withdraw (G : tvG) (M : tvM) (x1 : Int32) {x : Int32} {M1 : tvM} (h : wOut [("java/lang/IndexOutOfBoundsException", -900001), ("java/lang/IllegalStateException", -900002), ("java/util/NoSuchElementException", -900003)] (f_X8_withdraw M x1) x M1) : tvRunW G yL_withdraw cL_withdraw 3 (some .int) hh_L_withdraw 8 1 6 tvP0 tvP0 [.ref (G.2.1 + 0), .int x1] M (.inl (some (.int x))) M1 := by
  refine tvRunW.of yw_L_withdraw rfl [some (.ref (G.2.1 + 0)), some (.int x1), none] rfl (Nat.le_of_ble_eq_true rfl) ?_
  intro E hG C hQ; subst hG
  refine tv_aload_n C dk_L_withdraw_0 rfl ?_
  refine tv_iload_n C dk_L_withdraw_1 rfl ?_
  refine tv_cVx C dk_L_withdraw_2 ml_RL_45 yk_X8_withdraw yi_X8_withdraw (m_X8_withdraw _ M x1) (Nat.le_of_ble_eq_true rfl) rfl rfl rfl rfl (Nat.le_of_ble_eq_true rfl) (Nat.le_of_ble_eq_true rfl) (Nat.le_of_ble_eq_true rfl) (Nat.le_of_ble_eq_true rfl) (Nat.le_of_ble_eq_true rfl) rfl rfl rfl (fun e he => ?_) (fun h1 => ?_)
  · rcases h with h | ⟨p, hp, h, hx⟩
    · rw [h] at he; cases he
    · rw [h] at he
      cases he
      rw [h]
      simp only [List.mem_cons, List.not_mem_nil, or_false] at hp
      rcases hp with rfl | rfl | rfl
      · refine tv_catch (e := "java/lang/IndexOutOfBoundsException") C [] ⟨0, 5, 6, 25⟩ [⟨0, 5, 10, 18⟩, ⟨0, 5, 14, 48⟩] rfl (fun z hz => nomatch hz) (by decide) (by decide) cl_RL_25 ct_0 (fun q => ?_)
        refine tv_astore_n (L' := [_, _, _]) (hn := by decide) (hlt := (Nat.le_of_ble_eq_true rfl)) (hno := rfl) C dk_L_withdraw_6 rfl ?_
        refine tv_ldcI (v := -900001) C dk_L_withdraw_7 kc_17 ?_
        exact tv_iret C hQ dk_L_withdraw_9 rfl (by rw [hx]) rfl
      · refine tv_catch (e := "java/lang/IllegalStateException") C [⟨0, 5, 6, 25⟩] ⟨0, 5, 10, 18⟩ [⟨0, 5, 14, 48⟩] rfl (List.forall_mem_cons.mpr ⟨⟨by decide, "java/lang/IndexOutOfBoundsException", cl_RL_25, List.mem_of_getElem? (i := 8) rfl⟩, (fun z hz => nomatch hz)⟩) (by decide) (by decide) cl_RL_18 ct_2 (fun q => ?_)
        refine tv_astore_n (L' := [_, _, _]) (hn := by decide) (hlt := (Nat.le_of_ble_eq_true rfl)) (hno := rfl) C dk_L_withdraw_10 rfl ?_
        refine tv_ldcI (v := -900002) C dk_L_withdraw_11 kc_20 ?_
        exact tv_iret C hQ dk_L_withdraw_13 rfl (by rw [hx]) rfl
      · refine tv_catch (e := "java/util/NoSuchElementException") C [⟨0, 5, 6, 25⟩, ⟨0, 5, 10, 18⟩] ⟨0, 5, 14, 48⟩ [] rfl (List.forall_mem_cons.mpr ⟨⟨by decide, "java/lang/IndexOutOfBoundsException", cl_RL_25, List.mem_of_getElem? (i := 16) rfl⟩, (List.forall_mem_cons.mpr ⟨⟨by decide, "java/lang/IllegalStateException", cl_RL_18, List.mem_of_getElem? (i := 18) rfl⟩, (fun z hz => nomatch hz)⟩)⟩) (by decide) (by decide) cl_RL_48 ct_4 (fun q => ?_)
        refine tv_astore_n (L' := [_, _, _]) (hn := by decide) (hlt := (Nat.le_of_ble_eq_true rfl)) (hno := rfl) C dk_L_withdraw_14 rfl ?_
        refine tv_ldcI (v := -900003) C dk_L_withdraw_15 kc_27 ?_
        exact tv_iret C hQ dk_L_withdraw_17 rfl (by rw [hx]) rfl
  · rcases h with h | ⟨p, hp, h, hx⟩
    · rw [h]
      exact tv_iret C hQ dk_L_withdraw_5 rfl rfl rfl
    · rw [h] at h1; cases h1
theorem m_L_close (G : tvG) (M : tvM) (x1 : Int32) {x : Int32} {M1 : tvM} (h : wOut [("java/lang/IndexOutOfBoundsException", -900001), ("java/lang/IllegalStateException", -900002)] (f_X8_close M x1) x M1) : tvRunW G yL_close cL_close 3 (some .int) hh_L_close 8 1 6 tvP0 tvP0 [.ref (G.2.1 + 0), .int x1] M (.inl (some (.int x))) M1 := by
  refine tvRunW.of yw_L_close rfl [some (.ref (G.2.1 + 0)), some (.int x1), none] rfl (Nat.le_of_ble_eq_true rfl) ?_
  intro E hG C hQ; subst hG
  refine tv_aload_n C dk_L_close_0 rfl ?_
  refine tv_iload_n C dk_L_close_1 rfl ?_
  refine tv_cVx C dk_L_close_2 ml_RL_50 yk_X8_close yi_X8_close (m_X8_close _ M x1) (Nat.le_of_ble_eq_true rfl) rfl rfl rfl rfl (Nat.le_of_ble_eq_true rfl) (Nat.le_of_ble_eq_true rfl) (Nat.le_of_ble_eq_true rfl) (Nat.le_of_ble_eq_true rfl) (Nat.le_of_ble_eq_true rfl) rfl rfl rfl (fun e he => ?_) (fun h1 => ?_)
  · rcases h with h | ⟨p, hp, h, hx⟩
    · rw [h] at he; cases he
    · rw [h] at he
      cases he
      rw [h]
      simp only [List.mem_cons, List.not_mem_nil, or_false] at hp
      rcases hp with rfl | rfl
      · refine tv_catch (e := "java/lang/IndexOutOfBoundsException") C [] ⟨0, 5, 6, 25⟩ [⟨0, 5, 10, 18⟩] rfl (fun z hz => nomatch hz) (by decide) (by decide) cl_RL_25 ct_0 (fun q => ?_)
        refine tv_astore_n (L' := [_, _, _]) (hn := by decide) (hlt := (Nat.le_of_ble_eq_true rfl)) (hno := rfl) C dk_L_close_6 rfl ?_
        refine tv_ldcI (v := -900001) C dk_L_close_7 kc_17 ?_
        exact tv_iret C hQ dk_L_close_9 rfl (by rw [hx]) rfl
      · refine tv_catch (e := "java/lang/IllegalStateException") C [⟨0, 5, 6, 25⟩] ⟨0, 5, 10, 18⟩ [] rfl (List.forall_mem_cons.mpr ⟨⟨by decide, "java/lang/IndexOutOfBoundsException", cl_RL_25, List.mem_of_getElem? (i := 8) rfl⟩, (fun z hz => nomatch hz)⟩) (by decide) (by decide) cl_RL_18 ct_2 (fun q => ?_)
        refine tv_astore_n (L' := [_, _, _]) (hn := by decide) (hlt := (Nat.le_of_ble_eq_true rfl)) (hno := rfl) C dk_L_close_10 rfl ?_
        refine tv_ldcI (v := -900002) C dk_L_close_11 kc_20 ?_
        exact tv_iret C hQ dk_L_close_13 rfl (by rw [hx]) rfl
  · rcases h with h | ⟨p, hp, h, hx⟩
    · rw [h]
      exact tv_iret C hQ dk_L_close_5 rfl rfl rfl
    · rw [h] at h1; cases h1
theorem m_L_pass (G : tvG) (M : tvM) (x1 : Int32) {x : Int32} {M1 : tvM} (h : wOut [("java/lang/IllegalArgumentException", -900001)] (f_X8_pass M x1) x M1) : tvRunW G yL_pass cL_pass 3 (some .int) hh_L_pass 8 1 6 tvP0 tvP0 [.ref (G.2.1 + 0), .int x1] M (.inl (some (.int x))) M1 := by
  refine tvRunW.of yw_L_pass rfl [some (.ref (G.2.1 + 0)), some (.int x1), none] rfl (Nat.le_of_ble_eq_true rfl) ?_
  intro E hG C hQ; subst hG
  refine tv_aload_n C dk_L_pass_0 rfl ?_
  refine tv_iload_n C dk_L_pass_1 rfl ?_
  refine tv_cVx C dk_L_pass_2 ml_RL_53 yk_X8_pass yi_X8_pass (m_X8_pass _ M x1) (Nat.le_of_ble_eq_true rfl) rfl rfl rfl rfl (Nat.le_of_ble_eq_true rfl) (Nat.le_of_ble_eq_true rfl) (Nat.le_of_ble_eq_true rfl) (Nat.le_of_ble_eq_true rfl) (Nat.le_of_ble_eq_true rfl) rfl rfl rfl (fun e he => ?_) (fun h1 => ?_)
  · rcases h with h | ⟨p, hp, h, hx⟩
    · rw [h] at he; cases he
    · rw [h] at he
      cases he
      rw [h]
      simp only [List.mem_cons, List.not_mem_nil, or_false] at hp
      subst hp
      · refine tv_catch (e := "java/lang/IllegalArgumentException") C [] ⟨0, 5, 6, 15⟩ [] rfl (fun z hz => nomatch hz) (by decide) (by decide) cl_RL_15 ct_1 (fun q => ?_)
        refine tv_astore_n (L' := [_, _, _]) (hn := by decide) (hlt := (Nat.le_of_ble_eq_true rfl)) (hno := rfl) C dk_L_pass_6 rfl ?_
        refine tv_ldcI (v := -900001) C dk_L_pass_7 kc_17 ?_
        exact tv_iret C hQ dk_L_pass_9 rfl (by rw [hx]) rfl
  · rcases h with h | ⟨p, hp, h, hx⟩
    · rw [h]
      exact tv_iret C hQ dk_L_pass_5 rfl rfl rfl
    · rw [h] at h1; cases h1
theorem m_L_firstHolder (G : tvG) (M : tvM) (x1 : Int32) {x : Int32} (h : wOut [("java/lang/IndexOutOfBoundsException", -900001), ("java/util/NoSuchElementException", -900002)] (f_X8_firstHolder M x1) x M) : tvRunW G yL_firstHolder cL_firstHolder 3 (some .int) hh_L_firstHolder 8 1 6 tvP0 tvP0 [.ref (G.2.1 + 0), .int x1] M (.inl (some (.int x))) M := by
  refine tvRunW.of yw_L_firstHolder rfl [some (.ref (G.2.1 + 0)), some (.int x1), none] rfl (Nat.le_of_ble_eq_true rfl) ?_
  intro E hG C hQ; subst hG
  refine tv_aload_n C dk_L_firstHolder_0 rfl ?_
  refine tv_iload_n C dk_L_firstHolder_1 rfl ?_
  refine tv_cVx C dk_L_firstHolder_2 ml_RL_56 yk_X8_firstHolder yi_X8_firstHolder (m_X8_firstHolder _ M x1) (Nat.le_of_ble_eq_true rfl) rfl rfl rfl rfl (Nat.le_of_ble_eq_true rfl) (Nat.le_of_ble_eq_true rfl) (Nat.le_of_ble_eq_true rfl) (Nat.le_of_ble_eq_true rfl) (Nat.le_of_ble_eq_true rfl) rfl rfl rfl (fun e he => ?_) (fun h1 => ?_)
  · rcases h with h | ⟨p, hp, h, hx⟩
    · rw [h] at he; cases he
    · rw [h] at he
      cases he
      simp only [List.mem_cons, List.not_mem_nil, or_false] at hp
      rcases hp with rfl | rfl
      · refine tv_catch (e := "java/lang/IndexOutOfBoundsException") C [] ⟨0, 5, 6, 25⟩ [⟨0, 5, 10, 48⟩] rfl (fun z hz => nomatch hz) (by decide) (by decide) cl_RL_25 ct_0 (fun q => ?_)
        refine tv_astore_n (L' := [_, _, _]) (hn := by decide) (hlt := (Nat.le_of_ble_eq_true rfl)) (hno := rfl) C dk_L_firstHolder_6 rfl ?_
        refine tv_ldcI (v := -900001) C dk_L_firstHolder_7 kc_17 ?_
        exact tv_iret C hQ dk_L_firstHolder_9 rfl (by rw [hx]) rfl
      · refine tv_catch (e := "java/util/NoSuchElementException") C [⟨0, 5, 6, 25⟩] ⟨0, 5, 10, 48⟩ [] rfl (List.forall_mem_cons.mpr ⟨⟨by decide, "java/lang/IndexOutOfBoundsException", cl_RL_25, List.mem_of_getElem? (i := 16) rfl⟩, (fun z hz => nomatch hz)⟩) (by decide) (by decide) cl_RL_48 ct_4 (fun q => ?_)
        refine tv_astore_n (L' := [_, _, _]) (hn := by decide) (hlt := (Nat.le_of_ble_eq_true rfl)) (hno := rfl) C dk_L_firstHolder_10 rfl ?_
        refine tv_ldcI (v := -900002) C dk_L_firstHolder_11 kc_20 ?_
        exact tv_iret C hQ dk_L_firstHolder_13 rfl (by rw [hx]) rfl
  · rcases h with h | ⟨p, hp, h, hx⟩
    · rw [h]
      exact tv_iret C hQ dk_L_firstHolder_5 rfl rfl rfl
    · rw [h] at h1; cases h1
theorem m_L_remainingDelay (G : tvG) (M : tvM) (x1 : Int32) {x : Int32} (h : wOut [("java/lang/IndexOutOfBoundsException", -900001), ("java/util/NoSuchElementException", -900002)] (f_X8_remainingDelay M x1) x M) : tvRunW G yL_remainingDelay cL_remainingDelay 3 (some .int) hh_L_remainingDelay 8 1 6 tvP0 tvP0 [.ref (G.2.1 + 0), .int x1] M (.inl (some (.int x))) M := by
  refine tvRunW.of yw_L_remainingDelay rfl [some (.ref (G.2.1 + 0)), some (.int x1), none] rfl (Nat.le_of_ble_eq_true rfl) ?_
  intro E hG C hQ; subst hG
  refine tv_aload_n C dk_L_remainingDelay_0 rfl ?_
  refine tv_iload_n C dk_L_remainingDelay_1 rfl ?_
  refine tv_cVx C dk_L_remainingDelay_2 ml_RL_59 yk_X8_remainingDelay yi_X8_remainingDelay (m_X8_remainingDelay _ M x1) (Nat.le_of_ble_eq_true rfl) rfl rfl rfl rfl (Nat.le_of_ble_eq_true rfl) (Nat.le_of_ble_eq_true rfl) (Nat.le_of_ble_eq_true rfl) (Nat.le_of_ble_eq_true rfl) (Nat.le_of_ble_eq_true rfl) rfl rfl rfl (fun e he => ?_) (fun h1 => ?_)
  · rcases h with h | ⟨p, hp, h, hx⟩
    · rw [h] at he; cases he
    · rw [h] at he
      cases he
      simp only [List.mem_cons, List.not_mem_nil, or_false] at hp
      rcases hp with rfl | rfl
      · refine tv_catch (e := "java/lang/IndexOutOfBoundsException") C [] ⟨0, 5, 6, 25⟩ [⟨0, 5, 10, 48⟩] rfl (fun z hz => nomatch hz) (by decide) (by decide) cl_RL_25 ct_0 (fun q => ?_)
        refine tv_astore_n (L' := [_, _, _]) (hn := by decide) (hlt := (Nat.le_of_ble_eq_true rfl)) (hno := rfl) C dk_L_remainingDelay_6 rfl ?_
        refine tv_ldcI (v := -900001) C dk_L_remainingDelay_7 kc_17 ?_
        exact tv_iret C hQ dk_L_remainingDelay_9 rfl (by rw [hx]) rfl
      · refine tv_catch (e := "java/util/NoSuchElementException") C [⟨0, 5, 6, 25⟩] ⟨0, 5, 10, 48⟩ [] rfl (List.forall_mem_cons.mpr ⟨⟨by decide, "java/lang/IndexOutOfBoundsException", cl_RL_25, List.mem_of_getElem? (i := 16) rfl⟩, (fun z hz => nomatch hz)⟩) (by decide) (by decide) cl_RL_48 ct_4 (fun q => ?_)
        refine tv_astore_n (L' := [_, _, _]) (hn := by decide) (hlt := (Nat.le_of_ble_eq_true rfl)) (hno := rfl) C dk_L_remainingDelay_10 rfl ?_
        refine tv_ldcI (v := -900002) C dk_L_remainingDelay_11 kc_20 ?_
        exact tv_iret C hQ dk_L_remainingDelay_13 rfl (by rw [hx]) rfl
  · rcases h with h | ⟨p, hp, h, hx⟩
    · rw [h]
      exact tv_iret C hQ dk_L_remainingDelay_5 rfl rfl rfl
    · rw [h] at h1; cases h1
theorem m_L_minutesUntilOpen (G : tvG) (M : tvM) (x1 : Int32) {x : Int32} (h : wOut [("java/lang/IndexOutOfBoundsException", -900001), ("java/util/NoSuchElementException", -900002)] (f_X8_minutesUntilOpen M x1) x M) : tvRunW G yL_minutesUntilOpen cL_minutesUntilOpen 3 (some .int) hh_L_minutesUntilOpen 8 1 6 tvP0 tvP0 [.ref (G.2.1 + 0), .int x1] M (.inl (some (.int x))) M := by
  refine tvRunW.of yw_L_minutesUntilOpen rfl [some (.ref (G.2.1 + 0)), some (.int x1), none] rfl (Nat.le_of_ble_eq_true rfl) ?_
  intro E hG C hQ; subst hG
  refine tv_aload_n C dk_L_minutesUntilOpen_0 rfl ?_
  refine tv_iload_n C dk_L_minutesUntilOpen_1 rfl ?_
  refine tv_cVx C dk_L_minutesUntilOpen_2 ml_RL_62 yk_X8_minutesUntilOpen yi_X8_minutesUntilOpen (m_X8_minutesUntilOpen _ M x1) (Nat.le_of_ble_eq_true rfl) rfl rfl rfl rfl (Nat.le_of_ble_eq_true rfl) (Nat.le_of_ble_eq_true rfl) (Nat.le_of_ble_eq_true rfl) (Nat.le_of_ble_eq_true rfl) (Nat.le_of_ble_eq_true rfl) rfl rfl rfl (fun e he => ?_) (fun h1 => ?_)
  · rcases h with h | ⟨p, hp, h, hx⟩
    · rw [h] at he; cases he
    · rw [h] at he
      cases he
      simp only [List.mem_cons, List.not_mem_nil, or_false] at hp
      rcases hp with rfl | rfl
      · refine tv_catch (e := "java/lang/IndexOutOfBoundsException") C [] ⟨0, 5, 6, 25⟩ [⟨0, 5, 10, 48⟩] rfl (fun z hz => nomatch hz) (by decide) (by decide) cl_RL_25 ct_0 (fun q => ?_)
        refine tv_astore_n (L' := [_, _, _]) (hn := by decide) (hlt := (Nat.le_of_ble_eq_true rfl)) (hno := rfl) C dk_L_minutesUntilOpen_6 rfl ?_
        refine tv_ldcI (v := -900001) C dk_L_minutesUntilOpen_7 kc_17 ?_
        exact tv_iret C hQ dk_L_minutesUntilOpen_9 rfl (by rw [hx]) rfl
      · refine tv_catch (e := "java/util/NoSuchElementException") C [⟨0, 5, 6, 25⟩] ⟨0, 5, 10, 48⟩ [] rfl (List.forall_mem_cons.mpr ⟨⟨by decide, "java/lang/IndexOutOfBoundsException", cl_RL_25, List.mem_of_getElem? (i := 16) rfl⟩, (fun z hz => nomatch hz)⟩) (by decide) (by decide) cl_RL_48 ct_4 (fun q => ?_)
        refine tv_astore_n (L' := [_, _, _]) (hn := by decide) (hlt := (Nat.le_of_ble_eq_true rfl)) (hno := rfl) C dk_L_minutesUntilOpen_10 rfl ?_
        refine tv_ldcI (v := -900002) C dk_L_minutesUntilOpen_11 kc_20 ?_
        exact tv_iret C hQ dk_L_minutesUntilOpen_13 rfl (by rw [hx]) rfl
  · rcases h with h | ⟨p, hp, h, hx⟩
    · rw [h]
      exact tv_iret C hQ dk_L_minutesUntilOpen_5 rfl rfl rfl
    · rw [h] at h1; cases h1
theorem m_L_minutesUntilOpenBySimulation (G : tvG) (M : tvM) (x1 : Int32) {x : Int32} {M1 : tvM} (h : wOut [("java/lang/IndexOutOfBoundsException", -900001), ("java/util/NoSuchElementException", -900002)] (f_X8_minutesUntilOpenBySimulation M x1) x M1) : tvRunW G yL_minutesUntilOpenBySimulation cL_minutesUntilOpenBySimulation 3 (some .int) hh_L_minutesUntilOpenBySimulation 8 1 6 tvP0 tvP0 [.ref (G.2.1 + 0), .int x1] M (.inl (some (.int x))) M1 := by
  refine tvRunW.of yw_L_minutesUntilOpenBySimulation rfl [some (.ref (G.2.1 + 0)), some (.int x1), none] rfl (Nat.le_of_ble_eq_true rfl) ?_
  intro E hG C hQ; subst hG
  refine tv_aload_n C dk_L_minutesUntilOpenBySimulation_0 rfl ?_
  refine tv_iload_n C dk_L_minutesUntilOpenBySimulation_1 rfl ?_
  refine tv_cVx C dk_L_minutesUntilOpenBySimulation_2 ml_RL_65 yk_X8_minutesUntilOpenBySimulation yi_X8_minutesUntilOpenBySimulation (m_X8_minutesUntilOpenBySimulation _ M x1) (Nat.le_of_ble_eq_true rfl) rfl rfl rfl rfl (Nat.le_of_ble_eq_true rfl) (Nat.le_of_ble_eq_true rfl) (Nat.le_of_ble_eq_true rfl) (Nat.le_of_ble_eq_true rfl) (Nat.le_of_ble_eq_true rfl) rfl rfl rfl (fun e he => ?_) (fun h1 => ?_)
  · rcases h with h | ⟨p, hp, h, hx⟩
    · rw [h] at he; cases he
    · rw [h] at he
      cases he
      rw [h]
      simp only [List.mem_cons, List.not_mem_nil, or_false] at hp
      rcases hp with rfl | rfl
      · refine tv_catch (e := "java/lang/IndexOutOfBoundsException") C [] ⟨0, 5, 6, 25⟩ [⟨0, 5, 10, 48⟩] rfl (fun z hz => nomatch hz) (by decide) (by decide) cl_RL_25 ct_0 (fun q => ?_)
        refine tv_astore_n (L' := [_, _, _]) (hn := by decide) (hlt := (Nat.le_of_ble_eq_true rfl)) (hno := rfl) C dk_L_minutesUntilOpenBySimulation_6 rfl ?_
        refine tv_ldcI (v := -900001) C dk_L_minutesUntilOpenBySimulation_7 kc_17 ?_
        exact tv_iret C hQ dk_L_minutesUntilOpenBySimulation_9 rfl (by rw [hx]) rfl
      · refine tv_catch (e := "java/util/NoSuchElementException") C [⟨0, 5, 6, 25⟩] ⟨0, 5, 10, 48⟩ [] rfl (List.forall_mem_cons.mpr ⟨⟨by decide, "java/lang/IndexOutOfBoundsException", cl_RL_25, List.mem_of_getElem? (i := 16) rfl⟩, (fun z hz => nomatch hz)⟩) (by decide) (by decide) cl_RL_48 ct_4 (fun q => ?_)
        refine tv_astore_n (L' := [_, _, _]) (hn := by decide) (hlt := (Nat.le_of_ble_eq_true rfl)) (hno := rfl) C dk_L_minutesUntilOpenBySimulation_10 rfl ?_
        refine tv_ldcI (v := -900002) C dk_L_minutesUntilOpenBySimulation_11 kc_20 ?_
        exact tv_iret C hQ dk_L_minutesUntilOpenBySimulation_13 rfl (by rw [hx]) rfl
  · rcases h with h | ⟨p, hp, h, hx⟩
    · rw [h]
      exact tv_iret C hQ dk_L_minutesUntilOpenBySimulation_5 rfl rfl rfl
    · rw [h] at h1; cases h1
theorem m_L_boxByValue (G : tvG) (M : tvM) (x1 : Int32) {x : Int32} (h : wOut [("java/util/NoSuchElementException", -900001)] (f_X8_boxByValue M x1) x M) : tvRunW G yL_boxByValue cL_boxByValue 3 (some .int) hh_L_boxByValue 7 1 6 tvP0 tvP0 [.ref (G.2.1 + 0), .int x1] M (.inl (some (.int x))) M := by
  refine tvRunW.of yw_L_boxByValue rfl [some (.ref (G.2.1 + 0)), some (.int x1), none] rfl (Nat.le_of_ble_eq_true rfl) ?_
  intro E hG C hQ; subst hG
  refine tv_aload_n C dk_L_boxByValue_0 rfl ?_
  refine tv_iload_n C dk_L_boxByValue_1 rfl ?_
  refine tv_cVx C dk_L_boxByValue_2 ml_RL_68 yk_X8_boxByValue yi_X8_boxByValue (m_X8_boxByValue _ M x1) (Nat.le_of_ble_eq_true rfl) rfl rfl rfl rfl (Nat.le_of_ble_eq_true rfl) (Nat.le_of_ble_eq_true rfl) (Nat.le_of_ble_eq_true rfl) (Nat.le_of_ble_eq_true rfl) (Nat.le_of_ble_eq_true rfl) rfl rfl rfl (fun e he => ?_) (fun h1 => ?_)
  · rcases h with h | ⟨p, hp, h, hx⟩
    · rw [h] at he; cases he
    · rw [h] at he
      cases he
      simp only [List.mem_cons, List.not_mem_nil, or_false] at hp
      subst hp
      · refine tv_catch (e := "java/util/NoSuchElementException") C [] ⟨0, 5, 6, 48⟩ [] rfl (fun z hz => nomatch hz) (by decide) (by decide) cl_RL_48 ct_4 (fun q => ?_)
        refine tv_astore_n (L' := [_, _, _]) (hn := by decide) (hlt := (Nat.le_of_ble_eq_true rfl)) (hno := rfl) C dk_L_boxByValue_6 rfl ?_
        refine tv_ldcI (v := -900001) C dk_L_boxByValue_7 kc_17 ?_
        exact tv_iret C hQ dk_L_boxByValue_9 rfl (by rw [hx]) rfl
  · rcases h with h | ⟨p, hp, h, hx⟩
    · rw [h]
      exact tv_iret C hQ dk_L_boxByValue_5 rfl rfl rfl
    · rw [h] at h1; cases h1
theorem m_L_run (G : tvG) (M : tvM) {x : Int32} {M1 : tvM} (h : wOut [("java/lang/IllegalArgumentException", -900001), ("java/lang/UnsupportedOperationException", -900002)] (f_X8_run M) x M1) : tvRunW G yL_run cL_run 2 (some .int) hh_L_run 10 1 6 tvP0 tvP0 [.ref (G.2.1 + 0)] M (.inl (some (.int x))) M1 := by
  refine tvRunW.of yw_L_run rfl [some (.ref (G.2.1 + 0)), none] rfl (Nat.le_of_ble_eq_true rfl) ?_
  intro E hG C hQ; subst hG
  refine tv_aload_n C dk_L_run_0 rfl ?_
  refine tv_cVx C dk_L_run_1 ml_RL_71 yk_X8_run yi_X8_run (n_X8_run _ M) (Nat.le_of_ble_eq_true rfl) rfl rfl rfl rfl (Nat.le_of_ble_eq_true rfl) (Nat.le_of_ble_eq_true rfl) (Nat.le_of_ble_eq_true rfl) (Nat.le_of_ble_eq_true rfl) (Nat.le_of_ble_eq_true rfl) rfl rfl rfl (fun e he => ?_) (fun h1 => ?_)
  · rcases h with h | ⟨p, hp, h, hx⟩
    · rw [h] at he; cases he
    · rw [h] at he
      cases he
      rw [h]
      simp only [List.mem_cons, List.not_mem_nil, or_false] at hp
      rcases hp with rfl | rfl
      · refine tv_catch (e := "java/lang/IllegalArgumentException") C [] ⟨0, 4, 5, 15⟩ [⟨0, 4, 9, 36⟩] rfl (fun z hz => nomatch hz) (by decide) (by decide) cl_RL_15 ct_1 (fun q => ?_)
        refine tv_astore_n (L' := [_, _]) (hn := by decide) (hlt := (Nat.le_of_ble_eq_true rfl)) (hno := rfl) C dk_L_run_5 rfl ?_
        refine tv_ldcI (v := -900001) C dk_L_run_6 kc_17 ?_
        exact tv_iret C hQ dk_L_run_8 rfl (by rw [hx]) rfl
      · refine tv_catch (e := "java/lang/UnsupportedOperationException") C [⟨0, 4, 5, 15⟩] ⟨0, 4, 9, 36⟩ [] rfl (List.forall_mem_cons.mpr ⟨⟨by decide, "java/lang/IllegalArgumentException", cl_RL_15, List.mem_of_getElem? (i := 13) rfl⟩, (fun z hz => nomatch hz)⟩) (by decide) (by decide) cl_RL_36 ct_3 (fun q => ?_)
        refine tv_astore_n (L' := [_, _]) (hn := by decide) (hlt := (Nat.le_of_ble_eq_true rfl)) (hno := rfl) C dk_L_run_9 rfl ?_
        refine tv_ldcI (v := -900002) C dk_L_run_10 kc_20 ?_
        exact tv_iret C hQ dk_L_run_12 rfl (by rw [hx]) rfl
  · rcases h with h | ⟨p, hp, h, hx⟩
    · rw [h]
      exact tv_iret C hQ dk_L_run_4 rfl rfl rfl
    · rw [h] at h1; cases h1
theorem m_L_undo (G : tvG) (M : tvM) {x : Int32} {M1 : tvM} (h : wOut [("java/lang/IllegalStateException", -900001)] (f_X8_undo M) x M1) : tvRunW G yL_undo cL_undo 2 (some .int) hh_L_undo 7 1 6 tvP0 tvP0 [.ref (G.2.1 + 0)] M (.inl (some (.int x))) M1 := by
  refine tvRunW.of yw_L_undo rfl [some (.ref (G.2.1 + 0)), none] rfl (Nat.le_of_ble_eq_true rfl) ?_
  intro E hG C hQ; subst hG
  refine tv_aload_n C dk_L_undo_0 rfl ?_
  refine tv_cVx C dk_L_undo_1 ml_RL_75 yk_X8_undo yi_X8_undo (m_X8_undo _ M) (Nat.le_of_ble_eq_true rfl) rfl rfl rfl rfl (Nat.le_of_ble_eq_true rfl) (Nat.le_of_ble_eq_true rfl) (Nat.le_of_ble_eq_true rfl) (Nat.le_of_ble_eq_true rfl) (Nat.le_of_ble_eq_true rfl) rfl rfl rfl (fun e he => ?_) (fun h1 => ?_)
  · rcases h with h | ⟨p, hp, h, hx⟩
    · rw [h] at he; cases he
    · rw [h] at he
      cases he
      rw [h]
      simp only [List.mem_cons, List.not_mem_nil, or_false] at hp
      subst hp
      · refine tv_catch (e := "java/lang/IllegalStateException") C [] ⟨0, 4, 5, 18⟩ [] rfl (fun z hz => nomatch hz) (by decide) (by decide) cl_RL_18 ct_2 (fun q => ?_)
        refine tv_astore_n (L' := [_, _]) (hn := by decide) (hlt := (Nat.le_of_ble_eq_true rfl)) (hno := rfl) C dk_L_undo_5 rfl ?_
        refine tv_ldcI (v := -900001) C dk_L_undo_6 kc_17 ?_
        exact tv_iret C hQ dk_L_undo_8 rfl (by rw [hx]) rfl
  · rcases h with h | ⟨p, hp, h, hx⟩
    · rw [h]
      exact tv_iret C hQ dk_L_undo_4 rfl rfl rfl
    · rw [h] at h1; cases h1
theorem m_L_restore (G : tvG) (M : tvM) {x : Int32} {M1 : tvM} (h : wOut [("java/lang/IllegalStateException", -900001)] (f_X8_restore M) x M1) : tvRunW G yL_restore cL_restore 2 (some .int) hh_L_restore 7 1 6 tvP0 tvP0 [.ref (G.2.1 + 0)] M (.inl (some (.int x))) M1 := by
  refine tvRunW.of yw_L_restore rfl [some (.ref (G.2.1 + 0)), none] rfl (Nat.le_of_ble_eq_true rfl) ?_
  intro E hG C hQ; subst hG
  refine tv_aload_n C dk_L_restore_0 rfl ?_
  refine tv_cVx C dk_L_restore_1 ml_RL_78 yk_X8_restore yi_X8_restore (m_X8_restore _ M) (Nat.le_of_ble_eq_true rfl) rfl rfl rfl rfl (Nat.le_of_ble_eq_true rfl) (Nat.le_of_ble_eq_true rfl) (Nat.le_of_ble_eq_true rfl) (Nat.le_of_ble_eq_true rfl) (Nat.le_of_ble_eq_true rfl) rfl rfl rfl (fun e he => ?_) (fun h1 => ?_)
  · rcases h with h | ⟨p, hp, h, hx⟩
    · rw [h] at he; cases he
    · rw [h] at he
      cases he
      rw [h]
      simp only [List.mem_cons, List.not_mem_nil, or_false] at hp
      subst hp
      · refine tv_catch (e := "java/lang/IllegalStateException") C [] ⟨0, 4, 5, 18⟩ [] rfl (fun z hz => nomatch hz) (by decide) (by decide) cl_RL_18 ct_2 (fun q => ?_)
        refine tv_astore_n (L' := [_, _]) (hn := by decide) (hlt := (Nat.le_of_ble_eq_true rfl)) (hno := rfl) C dk_L_restore_5 rfl ?_
        refine tv_ldcI (v := -900001) C dk_L_restore_6 kc_17 ?_
        exact tv_iret C hQ dk_L_restore_8 rfl (by rw [hx]) rfl
  · rcases h with h | ⟨p, hp, h, hx⟩
    · rw [h]
      exact tv_iret C hQ dk_L_restore_4 rfl rfl rfl
    · rw [h] at h1; cases h1
theorem m_L_isPair (G : tvG) (M : tvM) (x1 x2 x3 : Int32) {x : Int32} (h : (∃ z, f_X8_otherHolder M x1 x2 = (none, z, M) ∧ ((z = x3 ∧ x = 1) ∨ (¬ z = x3 ∧ x = 0))) ∨ (f_X8_otherHolder M x1 x2 = (some "java/lang/IllegalArgumentException", 0, M) ∧ x = 0)) : tvRunW G yL_isPair cL_isPair 5 (some .boolean) hh_L_isPair 8 2 12 tvP0 tvP0 [.ref (G.2.1 + 0), .int x1, .int x2, .int x3] M (.inl (some (.int x))) M := by
  refine tvRunW.of yw_L_isPair rfl [some (.ref (G.2.1 + 0)), some (.int x1), some (.int x2), some (.int x3), none] rfl (Nat.le_of_ble_eq_true rfl) ?_
  intro E hG C hQ; subst hG
  refine tv_aload_n C dk_L_isPair_0 rfl ?_
  refine tv_iload_n C dk_L_isPair_1 rfl ?_
  refine tv_iload_n C dk_L_isPair_2 rfl ?_
  refine tv_cVx C dk_L_isPair_3 ml_RL_225 yk_X8_otherHolder yi_X8_otherHolder (m_X8_otherHolder _ M x1 x2) (Nat.le_of_ble_eq_true rfl) rfl rfl rfl rfl (Nat.le_of_ble_eq_true rfl) (Nat.le_of_ble_eq_true rfl) (Nat.le_of_ble_eq_true rfl) (Nat.le_of_ble_eq_true rfl) (Nat.le_of_ble_eq_true rfl) rfl rfl rfl (fun e he => ?_) (fun h1 => ?_)
  · rcases h with ⟨z, h, -⟩ | ⟨h, hx⟩
    · rw [h] at he; cases he
    · rw [h] at he
      cases he
      subst hx
      refine tv_catch (e := "java/lang/IllegalArgumentException") C [] ⟨0, 15, 16, 15⟩ [] rfl (fun z hz => nomatch hz) (by decide) (by decide) cl_RL_15 ct_1 (fun q => ?_)
      refine tv_astore (L' := [_, _, _, _, _]) (hn := by decide) (hlt := (Nat.le_of_ble_eq_true rfl)) (hno := rfl) C dk_L_isPair_16 rfl ?_
      refine tv_iconst (v := nI 0) C dk_L_isPair_18 (by decide) ?_
      exact tv_iret C hQ dk_L_isPair_19 rfl rfl rfl
  · rcases h with ⟨z, h, hz⟩ | ⟨h, hx⟩
    · rw [h]
      refine tv_iload_n C dk_L_isPair_6 rfl ?_
      rcases hz with ⟨hz, rfl⟩ | ⟨hz, rfl⟩
      · skip
        refine tv_icmp_ne C dk_L_isPair_7 (fun h => absurd hz h) (fun _ => ?_)
        refine tv_iconst (v := nI 1) C dk_L_isPair_10 (by decide) ?_
        refine tv_goto C dk_L_isPair_11 ?_
        exact tv_iret C hQ dk_L_isPair_15 rfl rfl rfl
      · skip
        refine tv_icmp_ne C dk_L_isPair_7 (fun _ => ?_) (fun h => absurd h hz)
        refine tv_iconst (v := nI 0) C dk_L_isPair_14 (by decide) ?_
        exact tv_iret C hQ dk_L_isPair_15 rfl rfl rfl
    · rw [h] at h1; cases h1
theorem a_L_cell (G : tvG) (M : tvM) (i : Nat) (hi : i < 2147483648) : tvRunX G yL_cell (tvWd yL_cell cL_cell 3 (some .int)) 1 0 0 [] [.ref G.sb, .int (nI i)] M (fun o X1 M1 => ∃ v : Int32, o = .inl (some (.int v)) ∧ X1 = [] ∧ M1 = M) := by
  refine tvRunX.of yk_L_cell rfl [some (.ref G.sb), some (.int (nI i)), none] rfl (Nat.le_of_ble_eq_true rfl) ?_
  intro E hG C hI hQ; subst hG
  refine tv_ldcI (v := 69069) C dk_L_cell_0 kc_7 ?_
  refine tv_iload_n C dk_L_cell_2 rfl ?_
  refine tv_aload_n C dk_L_cell_3 rfl ?_
  refine tv_slen C dk_L_cell_4 ?_
  have key : ∀ v : Int32, tv_W E (tvPX []) 0 0 M 15 [some (.ref E.G.sb), some (.int (nI i)), none] [.int v, .int 69069] := by
    intro v
    refine tv_sipush (v := nI 1009) C dk_L_cell_15 (by decide) ?_
    refine tv_iload_n C dk_L_cell_18 rfl ?_
    refine tv_imul C dk_L_cell_19 ?_
    refine tv_ti (v := nI (1009 * i)) (pn_mul 1009 i) ?_
    refine tv_iadd C dk_L_cell_20 ?_
    refine tv_imul C dk_L_cell_21 ?_
    refine tv_sipush (v := nI 12345) C dk_L_cell_22 (by decide) ?_
    refine tv_iadd C dk_L_cell_25 ?_
    refine tv_istore_n (L' := [_, _, _]) (hn := by decide) (hlt := (Nat.le_of_ble_eq_true rfl)) (hno := rfl) C dk_L_cell_26 rfl ?_
    refine tv_iload_n C dk_L_cell_27 rfl ?_
    refine tv_iload_n C dk_L_cell_28 rfl ?_
    refine tv_bipush (v := nI 13) C dk_L_cell_29 (by decide) ?_
    refine tv_iushr C dk_L_cell_31 ?_
    refine tv_ixor C dk_L_cell_32 ?_
    refine tv_ldcI (v := 1103515245) C dk_L_cell_33 kc_8 ?_
    refine tv_imul C dk_L_cell_35 ?_
    refine tv_istore_n (L' := [_, _, _]) (hn := by decide) (hlt := (Nat.le_of_ble_eq_true rfl)) (hno := rfl) C dk_L_cell_36 rfl ?_
    refine tv_iload_n C dk_L_cell_37 rfl ?_
    refine tv_iload_n C dk_L_cell_38 rfl ?_
    refine tv_bipush (v := nI 16) C dk_L_cell_39 (by decide) ?_
    refine tv_iushr C dk_L_cell_41 ?_
    refine tv_ixor C dk_L_cell_42 ?_
    exact tx_iret C hQ dk_L_cell_43 rfl ⟨_, rfl, rfl, rfl⟩ (by omega) (by omega)
  refine tv_icmp_ge C dk_L_cell_5 (fun h => ?_) (fun h => ?_)
  · skip
    refine tv_iconst (v := nI 0) C dk_L_cell_14 (by decide) ?_
    exact key _
  · skip
    have hsl : E.G.sl ≤ 260 := C.2.2.2.2.2.1.scr.2.2.2
    have hlt : i < E.G.sl := Nat.lt_of_not_le fun q => h ((pn_le (by omega) hi).2 q)
    refine tv_aload_n C dk_L_cell_8 rfl ?_
    refine tv_iload_n C dk_L_cell_9 rfl ?_
    refine tv_sld C dk_L_cell_10 (vp_in_nI hlt (by omega)) ?_
    refine tv_goto C dk_L_cell_11 ?_
    exact key _
theorem a_L_in (G : tvG) (M : tvM) (i n : Nat) (hi : i < 2147483648) (h0 : 0 < n) (hn : n < 2147483648) : tvRunX G yL_in (tvWd yL_in cL_in 3 (some .int)) 2 0 0 [] [.ref G.sb, .int (nI i), .int (nI n)] M (inP n M) := by
  refine tvRunX.of yk_L_in rfl [some (.ref G.sb), some (.int (nI i)), some (.int (nI n))] rfl (Nat.le_of_ble_eq_true rfl) ?_
  intro E hG C hI hQ; subst hG
  refine tv_aload_n C dk_L_in_0 rfl ?_
  refine tv_iload_n C dk_L_in_1 rfl ?_
  refine tx_callS (As := [.ref E.G.sb, .int (nI i)]) C dk_L_in_2 ml_RL_81 yk_L_cell yi_L_cell (fun w => a_L_cell _ M i hi) rfl rfl (Nat.le_of_ble_eq_true rfl) (Nat.le_of_ble_eq_true rfl) (Nat.le_of_ble_eq_true rfl) (by omega) (by omega) (fun v1 X9 M9 h1 => ?_) (fun e X1 M1 h => by obtain ⟨_, h, _⟩ := h; cases h)
  obtain ⟨v, e1, e2, e3⟩ := h1
  cases e1
  subst e2 e3
  rw [List.append_nil]
  show tv_W E _ _ _ _ _ _ [.int v]
  refine tv_ldcI (v := 2147483647) C dk_L_in_5 kc_87 ?_
  obtain ⟨a, ha, he⟩ := z_and v
  refine tv_iand C dk_L_in_7 ?_
  refine tv_ti (v := nI a) he ?_
  refine tv_iload_n C dk_L_in_8 rfl ?_
  refine tv_irem C dk_L_in_9 (fun q => by have := (pn_eq (a := n) (b := 0) hn (by omega)).1 q; omega) ?_
  refine tv_ti (v := nI (a % n)) (pn_rem ha h0 hn) ?_
  exact tx_iret C hQ dk_L_in_10 rfl ⟨_, Nat.mod_lt _ h0, rfl, rfl, rfl⟩ (by omega) (by omega)
theorem a_L_turns (G : tvG) (M : tvM) {x : Int32} {M1 : tvM} (a b c : Nat) (ha : a < 1000) (hb : b < 1000) (hc : c < 1000) (h : wOut wTurn (f_X8_turnKey M (nI a) (nI b) (nI (if c % 7 = 0 then 500 + c else 7 * b))) x M1) : tvRunX G yL_turns (tvWd yL_turns cL_turns 4 (some .int)) 10 1 6 [] [.ref (G.2.1 + 0), .int (nI a), .int (nI b), .int (nI c)] M (tvIs (.inl (some (.int x))) M1) := by
  refine tvRunX.of yk_L_turns rfl [some (.ref (G.2.1 + 0)), some (.int (nI a)), some (.int (nI b)), some (.int (nI c))] rfl (Nat.le_of_ble_eq_true rfl) ?_
  intro E hG C hI hQ; subst hG
  refine tv_aload_n C dk_L_turns_0 rfl ?_
  refine tv_iload_n C dk_L_turns_1 rfl ?_
  refine tv_iload_n C dk_L_turns_2 rfl ?_
  refine tv_iload_n C dk_L_turns_3 rfl ?_
  refine tv_bipush (v := nI 7) C dk_L_turns_4 (by decide) ?_
  refine tv_irem C dk_L_turns_6 (by decide) ?_
  refine tv_ti (v := nI (c % 7)) (pn_rem (by omega) (by omega) (by omega)) ?_
  by_cases hm : c % 7 = 0
  · skip
    rw [if_pos hm] at h
    refine tv_if_ne C dk_L_turns_7 (fun q => absurd (by rw [hm]; rfl) q) (fun _ => ?_)
    refine tv_sipush (v := nI 500) C dk_L_turns_10 (by decide) ?_
    refine tv_iload_n C dk_L_turns_13 rfl ?_
    refine tv_iadd C dk_L_turns_14 ?_
    refine tv_ti (v := nI (500 + c)) (nI_add 500 c) ?_
    refine tv_goto C dk_L_turns_15 ?_
    refine tx_cSW (As := [.ref (E.G.2.1 + 0), .int (nI a), .int (nI b), .int (nI (500 + c))]) C dk_L_turns_22 ml_RL_122 yw_L_turnKey yi_L_turnKey (fun w => m_L_turnKey _ M _ _ _ h) rfl rfl (Nat.le_of_ble_eq_true rfl) (Nat.le_of_ble_eq_true rfl) (Nat.le_of_ble_eq_true rfl) (by omega) (by omega) rfl rfl rfl ?_
    exact tx_iret C hQ dk_L_turns_25 rfl ⟨rfl, rfl, rfl⟩ (by omega) (by omega)
  · skip
    rw [if_neg hm] at h
    refine tv_if_ne C dk_L_turns_7 (fun _ => ?_) (fun q => absurd ((pn_eq (a := c % 7) (b := 0) (by omega) (by omega)).1 q) hm)
    refine tv_bipush (v := nI 7) C dk_L_turns_18 (by decide) ?_
    refine tv_iload_n C dk_L_turns_20 rfl ?_
    refine tv_imul C dk_L_turns_21 ?_
    refine tv_ti (v := nI (7 * b)) (pn_mul 7 b) ?_
    refine tx_cSW (As := [.ref (E.G.2.1 + 0), .int (nI a), .int (nI b), .int (nI (7 * b))]) C dk_L_turns_22 ml_RL_122 yw_L_turnKey yi_L_turnKey (fun w => m_L_turnKey _ M _ _ _ h) rfl rfl (Nat.le_of_ble_eq_true rfl) (Nat.le_of_ble_eq_true rfl) (Nat.le_of_ble_eq_true rfl) (by omega) (by omega) rfl rfl rfl ?_
    exact tx_iret C hQ dk_L_turns_25 rfl ⟨rfl, rfl, rfl⟩ (by omega) (by omega)
