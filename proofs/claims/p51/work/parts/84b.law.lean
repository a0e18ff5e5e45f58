theorem a_L_does (G : tvG) (X : va_W) (M : tvM) {a b v : Nat} {f : Nat → Int32} (hx : tvTxt G X a b v f) (hg : byG v f) (hv : v ≤ 60) {B : Nat} {s : Nat → Nat} {x n : Nat} {S : Nat → Nat → Nat} (hG : pG B M s x n S) (h0 : zE M) (hB : B + 14400 ≤ 10000000) : tvRunX G yL_does (tvWd yL_does cL_does 4 (some .int)) 11 61 366 X [.ref (G.2.1 + 0), .ref a] M (dP (B + 14400) s) := by
  refine tvRunX.of yk_L_does rfl [some (.ref (G.2.1 + 0)), some (.ref a), none, none] rfl (Nat.le_of_ble_eq_true rfl) ?_
  intro E hG C hI hQ; subst hG
  refine tv_iconst (v := nI 0) C dk_L_does_0 (by decide) ?_
  refine tv_istore_n (L' := [_, _, _, _]) (hn := by decide) (hlt := (Nat.le_of_ble_eq_true rfl)) (hno := rfl) C dk_L_does_1 rfl ?_
  refine tv_iconst (v := nI 0) C dk_L_does_2 (by decide) ?_
  refine tv_istore_n (L' := [_, _, _, _]) (hn := by decide) (hlt := (Nat.le_of_ble_eq_true rfl)) (hno := rfl) C dk_L_does_3 rfl ?_
  have key : ∀ j i : Nat, i + j = v → ∀ (k sl t : Nat) (Mi : tvM), k + j ≤ 60 → sl + 6 * j ≤ 360 → t ≤ 61 * i → zT M Mi i f → tv_W E (tvPX X) k sl Mi 4 [some (.ref (E.G.2.1 + 0)), some (.ref a), some (.int (nI t)), some (.int (nI i))] [] := by
    intro j
    induction j with
    | zero =>
      intro i hi k sl t Mi hk hl ht hT
      obtain rfl : i = v := by omega
      refine tv_iload_n C dk_L_does_4 rfl ?_
      refine tv_aload_n C dk_L_does_5 rfl ?_
      refine tx_pT C dk_L_does_6 ml_RL_88 yk_J0_length_8abf5 yi_J0_length_8abf5 (a_J0_length _ X Mi hx) sbV_no hx rfl rfl rfl (Nat.le_of_ble_eq_true rfl) (Nat.le_of_ble_eq_true rfl) (Nat.le_of_ble_eq_true rfl) (by omega) (by omega) (fun v1 X1 M1 h1 => ?_)
      obtain ⟨e1, e2, h1⟩ := h1
      cases e1
      rw [e2]
      rw [h1]
      show tv_W E _ _ _ _ _ _ [.int (nI i), .int (nI i)]
      refine tv_icmp_ge C dk_L_does_9 (fun _ => ?_) (fun h => absurd ((pn_le (by omega) (by omega)).2 (by omega)) h)
      refine tv_iload_n C dk_L_does_30 rfl ?_
      refine tv_if_ge C dk_L_does_31 (fun _ => ?_) (fun h => absurd ((pn_le (a := 0) (b := t) (by omega) (by omega)).2 (by omega)) h)
      refine tv_aload_n C dk_L_does_39 rfl ?_
      have hG1 := zT_G hT hG
      rcases o_run hB hG1 (zT_D hT hv hg) with ⟨r, M2, s', ⟨r1, r2, r3⟩, r4, r5, r6⟩ | ⟨e, M2, he, r4, r5, r6⟩
      · skip
        have hw : wOut wRun (f_X8_run Mi) (nI r) M2 := wOut_ok r4
        refine tx_cSW (As := [.ref (E.G.2.1 + 0)]) C dk_L_does_40 ml_RL_102 yw_L_run yi_L_run (fun w => m_L_run _ Mi hw) rfl rfl (Nat.le_of_ble_eq_true rfl) (Nat.le_of_ble_eq_true rfl) (Nat.le_of_ble_eq_true rfl) (by omega) (by omega) rfl rfl rfl ?_
        exact tx_iret C hQ dk_L_does_43 rfl ⟨_, rfl, r6, Or.inl ⟨r, s', _, _, _, rfl, by omega, r2, r3, r5⟩⟩ (by omega) (by omega)
      · skip
        rcases he with rfl | rfl
        · skip
          have hw : wOut wRun (f_X8_run Mi) (-900001) M2 := wOut_x "java/lang/IllegalArgumentException" (-900001) (by simp) r4
          refine tx_cSW (As := [.ref (E.G.2.1 + 0)]) C dk_L_does_40 ml_RL_102 yw_L_run yi_L_run (fun w => m_L_run _ Mi hw) rfl rfl (Nat.le_of_ble_eq_true rfl) (Nat.le_of_ble_eq_true rfl) (Nat.le_of_ble_eq_true rfl) (by omega) (by omega) rfl rfl rfl ?_
          exact tx_iret C hQ dk_L_does_43 rfl ⟨_, rfl, r6, Or.inr ⟨Or.inl rfl, _, _, _, r5.up (by omega) hB⟩⟩ (by omega) (by omega)
        · skip
          have hw : wOut wRun (f_X8_run Mi) (-900002) M2 := wOut_x "java/lang/UnsupportedOperationException" (-900002) (by simp) r4
          refine tx_cSW (As := [.ref (E.G.2.1 + 0)]) C dk_L_does_40 ml_RL_102 yw_L_run yi_L_run (fun w => m_L_run _ Mi hw) rfl rfl (Nat.le_of_ble_eq_true rfl) (Nat.le_of_ble_eq_true rfl) (Nat.le_of_ble_eq_true rfl) (by omega) (by omega) rfl rfl rfl ?_
          exact tx_iret C hQ dk_L_does_43 rfl ⟨_, rfl, r6, Or.inr ⟨Or.inr rfl, _, _, _, r5.up (by omega) hB⟩⟩ (by omega) (by omega)
    | succ j ih =>
      intro i hi k sl t Mi hk hl ht hT
      refine tv_iload_n C dk_L_does_4 rfl ?_
      refine tv_aload_n C dk_L_does_5 rfl ?_
      refine tx_pT C dk_L_does_6 ml_RL_88 yk_J0_length_8abf5 yi_J0_length_8abf5 (a_J0_length _ X Mi hx) sbV_no hx rfl rfl rfl (Nat.le_of_ble_eq_true rfl) (Nat.le_of_ble_eq_true rfl) (Nat.le_of_ble_eq_true rfl) (by omega) (by omega) (fun v1 X1 M1 h1 => ?_)
      obtain ⟨e1, e2, h1⟩ := h1
      cases e1
      rw [e2]
      rw [h1]
      show tv_W E _ _ _ _ _ _ [.int (nI v), .int (nI i)]
      refine tv_icmp_ge C dk_L_does_9 (fun h => absurd h (fun z => by have := (pn_le (by omega) (by omega)).1 z; omega)) (fun _ => ?_)
      refine tv_iload_n C dk_L_does_12 rfl ?_
      refine tv_aload_n C dk_L_does_13 rfl ?_
      refine tv_aload_n C dk_L_does_14 rfl ?_
      refine tv_iload_n C dk_L_does_15 rfl ?_
      obtain ⟨c, hc1, hc2, hc3⟩ := hg i (by omega)
      refine tx_pT C dk_L_does_16 ml_RL_93 yk_J0_charAt_5068e yi_J0_charAt_5068e (a_J0_charAt _ X Mi hx (k := i) (by omega) (by omega) hc1 hc3) sbV_no hx rfl rfl rfl (Nat.le_of_ble_eq_true rfl) (Nat.le_of_ble_eq_true rfl) (Nat.le_of_ble_eq_true rfl) (by omega) (by omega) (fun v1 X1 M1 h1 => ?_)
      obtain ⟨e1, e2, h1⟩ := h1
      cases e1
      rw [e2]
      rw [h1]
      show tv_W E _ _ _ _ _ _ [.int (nI c), .ref (E.G.2.1 + 0), .int (nI t)]
      obtain ⟨M2, ht2, hT2⟩ := zT_s hT (by omega) hc3
      refine tx_cV (b := 0) (As := [.int (nI c)]) C dk_L_does_19 ml_RL_97 yk_X8_type yi_X8_type (fun w => tvRx (m_X8_type _ Mi _) (ht2)) (by decide) rfl rfl rfl rfl (Nat.le_of_ble_eq_true rfl) (Nat.le_of_ble_eq_true rfl) (Nat.le_of_ble_eq_true rfl) (by omega) (by omega) rfl rfl rfl ?_
      refine tv_iadd C dk_L_does_22 ?_
      refine tv_ti (v := nI (t + (i + 1))) (nI_add t (i + 1)) ?_
      refine tv_istore_n (L' := [_, _, _, _]) (hn := by decide) (hlt := (Nat.le_of_ble_eq_true rfl)) (hno := rfl) C dk_L_does_23 rfl ?_
      refine tv_iinc (v := nI (i + 1)) (L' := [_, _, _, _]) (hn := by decide) (hlt := (Nat.le_of_ble_eq_true rfl)) (hno := rfl) C dk_L_does_24 rfl (nI_add i 1) rfl ?_
      refine tv_goto C dk_L_does_27 ?_
      exact ih (i + 1) (by omega) _ _ _ M2 (by omega) (by omega) (by omega) hT2
  exact key v 0 (by omega) _ _ _ M (by omega) (by omega) (by omega) (zT_0 h0)
