/-- case 12 -/
def lq_12 (M : tvM) (a1 a2 a3 : Int32) : Prop := (q_L_lowMinutesByCounting M a1) ∧ (q_X9_lowMinutesByCounting ((f_L_lowMinutesByCounting M a1).2) a1) ∧ ((f_X9_thrown ((f_X9_lowMinutesByCounting ((f_L_lowMinutesByCounting M a1).2) a1).2)) = (f_L_lowMinutesByCounting M a1).1) ∧ ((f_L_lowMinutesByCounting M a1).1 = 0 → (lg_cmp (tgl ((f_X9_lowMinutesByCounting ((f_L_lowMinutesByCounting M a1).2) a1).2) 257 0) (((f_X9_lowMinutesByCounting ((f_L_lowMinutesByCounting M a1).2) a1).1).toInt64)) = 0) ∧ True
def lm_12 (M : tvM) (a1 a2 a3 : Int32) : tvM := (f_X9_lowMinutesByCounting ((f_L_lowMinutesByCounting M a1).2) a1).2
theorem w_law_12 {E : tvE} {b Ln i k sl : Nat} {xs : Nat → Int32} (C : tvC E RL cL_law 9 (some .boolean) 1000 100000 1000000 []) (hN : tvNcE E.s) (hX : tvScr E b Ln xs) (hi : i + 4 ≤ Ln) (hk : k + 2 ≤ 100000) (hs : sl + 12 ≤ 1000000) (M : tvM) (hq : lq_12 M (xs (i + 1)) (xs (i + 2)) (xs (i + 3))) (kk : tv_W E tvP0 (k + 2) (sl + 12) (lm_12 M (xs (i + 1)) (xs (i + 2)) (xs (i + 3))) 2545 [some (.ref b), some (.ref (E.G.2.1 + 0)), some (.ref (E.G.2.1 + 249)), some (.ref (E.G.2.1 + 257)), some (.ref (E.G.2.1 + 258)), some (.int (nI i)), none, none, none] []) : tv_W E tvP0 k sl M 934 [some (.ref b), some (.ref (E.G.2.1 + 0)), some (.ref (E.G.2.1 + 249)), some (.ref (E.G.2.1 + 257)), some (.ref (E.G.2.1 + 258)), some (.int (nI i)), none, none, none] [] := by
  have hk0 : k ≤ 100000 := by omega
  have hs0 : sl ≤ 1000000 := by omega
  obtain ⟨q0, q1, q2, q3, -⟩ := hq
  refine tv_aload_n C dk_L_law_934 rfl ?_
  refine tv_aload_n C dk_L_law_935 rfl ?_
  refine tv_iload C dk_L_law_936 rfl ?_
  refine tv_iconst (v := 1) C dk_L_law_938 (by decide) ?_
  refine tv_iadd C dk_L_law_939 ?_
  refine tv_sld (j := i + 1) (tvl_1 hi hX.2.2.2) C hX dk_L_law_940 (tvli_1 hi hX.2.2.2) ?_
  refine tv_aload_n C dk_L_law_941 rfl ?_
  refine tv_callSW C hN dk_L_law_942 ml_RL_192 yw_L_lowMinutesByCounting yi_L_lowMinutesByCounting (m_L_lowMinutesByCounting _ M (xs (i + 1)) q0) rfl rfl (Nat.le_of_ble_eq_true rfl) (Nat.le_of_ble_eq_true rfl) (Nat.le_of_ble_eq_true rfl) (by omega) (by omega) rfl rfl rfl ?_
  refine tv_istore (L' := [_, _, _, _, _, _, _, _, _]) (hn := by decide) (hlt := (Nat.le_of_ble_eq_true rfl)) (hno := rfl) C dk_L_law_945 rfl ?_
  refine tv_aload_n C dk_L_law_947 rfl ?_
  refine tv_aload_n C dk_L_law_948 rfl ?_
  refine tv_iload C dk_L_law_949 rfl ?_
  refine tv_iconst (v := 1) C dk_L_law_951 (by decide) ?_
  refine tv_iadd C dk_L_law_952 ?_
  refine tv_sld (j := i + 1) (tvl_1 hi hX.2.2.2) C hX dk_L_law_953 (tvli_1 hi hX.2.2.2) ?_
  refine tv_cV1 C dk_L_law_954 ml_RL_194 yk_X9_lowMinutesByCounting yi_X9_lowMinutesByCounting (m_X9_lowMinutesByCounting _ ((f_L_lowMinutesByCounting M (xs (i + 1))).2) (xs (i + 1)) q1) (Nat.le_of_ble_eq_true rfl) rfl rfl rfl rfl (Nat.le_of_ble_eq_true rfl) (Nat.le_of_ble_eq_true rfl) (Nat.le_of_ble_eq_true rfl) (by omega) (by omega) ?_
  refine tv_istore (L' := [_, _, _, _, _, _, _, _, _]) (hn := by decide) (hlt := (Nat.le_of_ble_eq_true rfl)) (hno := rfl) C dk_L_law_957 rfl ?_
  refine tv_aload_n C dk_L_law_959 rfl ?_
  refine tv_cV1 C dk_L_law_960 ml_RL_152 yk_X9_thrown yi_X9_thrown (m_X9_thrown _ ((f_X9_lowMinutesByCounting ((f_L_lowMinutesByCounting M (xs (i + 1))).2) (xs (i + 1))).2)) (Nat.le_of_ble_eq_true rfl) rfl rfl rfl rfl (Nat.le_of_ble_eq_true rfl) (Nat.le_of_ble_eq_true rfl) (Nat.le_of_ble_eq_true rfl) (by omega) (by omega) ?_
  refine tv_iload C dk_L_law_963 rfl ?_
  refine tv_icmp_eq C dk_L_law_965 (fun _ => ?_) (fun h => tv_no (h q2))
  refine tv_iload C dk_L_law_970 rfl ?_
  refine tv_if_ne C dk_L_law_972 (fun _ => ?_) (fun h1 => ?_)
  · refine tv_goto C dk_L_law_987 ?_
    refine tv_widen (k' := k + 2) (sl' := sl + 12) (by omega) (by omega) ?_
    exact tv_drop (L2 := [some (.ref b), some (.ref (E.G.2.1 + 0)), some (.ref (E.G.2.1 + 249)), some (.ref (E.G.2.1 + 257)), some (.ref (E.G.2.1 + 258)), some (.int (nI i)), none, none, none]) (by simp [tvSubL]) kk
  refine tv_aload_n C dk_L_law_975 rfl ?_
  refine tv_iconst (v := 0) C dk_L_law_976 (by decide) ?_
  refine tv_lald (j := 0) rfl C dk_L_law_977 (Nat.le_of_ble_eq_true rfl) rfl (vp_in_nI (n := 0) (by decide) (by decide)) ?_
  refine tv_iload C dk_L_law_978 rfl ?_
  refine tv_i2l C dk_L_law_980 ?_
  refine tv_lcmp C dk_L_law_981 ?_
  refine tv_if_eq C dk_L_law_982 (fun _ => ?_) (fun h => tv_no (h (q3 h1)))
  refine tv_goto C dk_L_law_987 ?_
  refine tv_widen (k' := k + 2) (sl' := sl + 12) (by omega) (by omega) ?_
  exact tv_drop (L2 := [some (.ref b), some (.ref (E.G.2.1 + 0)), some (.ref (E.G.2.1 + 249)), some (.ref (E.G.2.1 + 257)), some (.ref (E.G.2.1 + 258)), some (.int (nI i)), none, none, none]) (by simp [tvSubL]) kk
/-- case 13 -/
def lq_13 (M : tvM) (a1 a2 a3 : Int32) : Prop := ((f_X8_alarm M) = (f_X9_alarm M).1) ∧ True
def lm_13 (M : tvM) (a1 a2 a3 : Int32) : tvM := (f_X9_alarm M).2
theorem w_law_13 {E : tvE} {b Ln i k sl : Nat} {xs : Nat → Int32} (C : tvC E RL cL_law 9 (some .boolean) 1000 100000 1000000 []) (hN : tvNcE E.s) (hX : tvScr E b Ln xs) (hi : i + 4 ≤ Ln) (hk : k + 2 ≤ 100000) (hs : sl + 12 ≤ 1000000) (M : tvM) (hq : lq_13 M (xs (i + 1)) (xs (i + 2)) (xs (i + 3))) (kk : tv_W E tvP0 (k + 2) (sl + 12) (lm_13 M (xs (i + 1)) (xs (i + 2)) (xs (i + 3))) 2545 [some (.ref b), some (.ref (E.G.2.1 + 0)), some (.ref (E.G.2.1 + 249)), some (.ref (E.G.2.1 + 257)), some (.ref (E.G.2.1 + 258)), some (.int (nI i)), none, none, none] []) : tv_W E tvP0 k sl M 990 [some (.ref b), some (.ref (E.G.2.1 + 0)), some (.ref (E.G.2.1 + 249)), some (.ref (E.G.2.1 + 257)), some (.ref (E.G.2.1 + 258)), some (.int (nI i)), none, none, none] [] := by
  have hk0 : k ≤ 100000 := by omega
  have hs0 : sl ≤ 1000000 := by omega
  obtain ⟨q0, -⟩ := hq
  refine tv_aload_n C dk_L_law_990 rfl ?_
  refine tv_cV1 C dk_L_law_991 ml_RL_195 yk_X8_alarm yi_X8_alarm (m_X8_alarm _ M) (Nat.le_of_ble_eq_true rfl) rfl rfl rfl rfl (Nat.le_of_ble_eq_true rfl) (Nat.le_of_ble_eq_true rfl) (Nat.le_of_ble_eq_true rfl) (by omega) (by omega) ?_
  refine tv_aload_n C dk_L_law_994 rfl ?_
  refine tv_cV1 C dk_L_law_995 ml_RL_198 yk_X9_alarm yi_X9_alarm (m_X9_alarm _ M) (Nat.le_of_ble_eq_true rfl) rfl rfl rfl rfl (Nat.le_of_ble_eq_true rfl) (Nat.le_of_ble_eq_true rfl) (Nat.le_of_ble_eq_true rfl) (by omega) (by omega) ?_
  refine tv_icmp_eq C dk_L_law_998 (fun _ => ?_) (fun h => tv_no (h q0))
  refine tv_widen (k' := k + 2) (sl' := sl + 12) (by omega) (by omega) ?_
  exact tv_drop (L2 := [some (.ref b), some (.ref (E.G.2.1 + 0)), some (.ref (E.G.2.1 + 249)), some (.ref (E.G.2.1 + 257)), some (.ref (E.G.2.1 + 258)), some (.int (nI i)), none, none, none]) (by simp [tvSubL]) kk
/-- case 14 -/
def lq_14 (M : tvM) (a1 a2 a3 : Int32) : Prop := ((f_X8_holders M) = (f_X9_holders M).1) ∧ True
def lm_14 (M : tvM) (a1 a2 a3 : Int32) : tvM := (f_X9_holders M).2
theorem w_law_14 {E : tvE} {b Ln i k sl : Nat} {xs : Nat → Int32} (C : tvC E RL cL_law 9 (some .boolean) 1000 100000 1000000 []) (hN : tvNcE E.s) (hX : tvScr E b Ln xs) (hi : i + 4 ≤ Ln) (hk : k + 2 ≤ 100000) (hs : sl + 12 ≤ 1000000) (M : tvM) (hq : lq_14 M (xs (i + 1)) (xs (i + 2)) (xs (i + 3))) (kk : tv_W E tvP0 (k + 2) (sl + 12) (lm_14 M (xs (i + 1)) (xs (i + 2)) (xs (i + 3))) 2545 [some (.ref b), some (.ref (E.G.2.1 + 0)), some (.ref (E.G.2.1 + 249)), some (.ref (E.G.2.1 + 257)), some (.ref (E.G.2.1 + 258)), some (.int (nI i)), none, none, none] []) : tv_W E tvP0 k sl M 1003 [some (.ref b), some (.ref (E.G.2.1 + 0)), some (.ref (E.G.2.1 + 249)), some (.ref (E.G.2.1 + 257)), some (.ref (E.G.2.1 + 258)), some (.int (nI i)), none, none, none] [] := by
  have hk0 : k ≤ 100000 := by omega
  have hs0 : sl ≤ 1000000 := by omega
  obtain ⟨q0, -⟩ := hq
  refine tv_aload_n C dk_L_law_1003 rfl ?_
  refine tv_cV1 C dk_L_law_1004 ml_RL_199 yk_X8_holders yi_X8_holders (m_X8_holders _ M) (Nat.le_of_ble_eq_true rfl) rfl rfl rfl rfl (Nat.le_of_ble_eq_true rfl) (Nat.le_of_ble_eq_true rfl) (Nat.le_of_ble_eq_true rfl) (by omega) (by omega) ?_
  refine tv_aload_n C dk_L_law_1007 rfl ?_
  refine tv_cV1 C dk_L_law_1008 ml_RL_202 yk_X9_holders yi_X9_holders (m_X9_holders _ M) (Nat.le_of_ble_eq_true rfl) rfl rfl rfl rfl (Nat.le_of_ble_eq_true rfl) (Nat.le_of_ble_eq_true rfl) (Nat.le_of_ble_eq_true rfl) (by omega) (by omega) ?_
  refine tv_icmp_eq C dk_L_law_1011 (fun _ => ?_) (fun h => tv_no (h q0))
  refine tv_widen (k' := k + 2) (sl' := sl + 12) (by omega) (by omega) ?_
  exact tv_drop (L2 := [some (.ref b), some (.ref (E.G.2.1 + 0)), some (.ref (E.G.2.1 + 249)), some (.ref (E.G.2.1 + 257)), some (.ref (E.G.2.1 + 258)), some (.int (nI i)), none, none, none]) (by simp [tvSubL]) kk
/-- case 15 -/
def lq_15 (M : tvM) (a1 a2 a3 : Int32) : Prop := (q_L_attempts M a1) ∧ (q_X9_attempts ((f_L_attempts M a1).2) a1) ∧ ((f_X9_thrown ((f_X9_attempts ((f_L_attempts M a1).2) a1).2)) = (f_L_attempts M a1).1) ∧ ((f_L_attempts M a1).1 = 0 → (lg_cmp (tgl ((f_X9_attempts ((f_L_attempts M a1).2) a1).2) 257 0) (((f_X9_attempts ((f_L_attempts M a1).2) a1).1).toInt64)) = 0) ∧ True
def lm_15 (M : tvM) (a1 a2 a3 : Int32) : tvM := (f_X9_attempts ((f_L_attempts M a1).2) a1).2
theorem w_law_15 {E : tvE} {b Ln i k sl : Nat} {xs : Nat → Int32} (C : tvC E RL cL_law 9 (some .boolean) 1000 100000 1000000 []) (hN : tvNcE E.s) (hX : tvScr E b Ln xs) (hi : i + 4 ≤ Ln) (hk : k + 2 ≤ 100000) (hs : sl + 12 ≤ 1000000) (M : tvM) (hq : lq_15 M (xs (i + 1)) (xs (i + 2)) (xs (i + 3))) (kk : tv_W E tvP0 (k + 2) (sl + 12) (lm_15 M (xs (i + 1)) (xs (i + 2)) (xs (i + 3))) 2545 [some (.ref b), some (.ref (E.G.2.1 + 0)), some (.ref (E.G.2.1 + 249)), some (.ref (E.G.2.1 + 257)), some (.ref (E.G.2.1 + 258)), some (.int (nI i)), none, none, none] []) : tv_W E tvP0 k sl M 1016 [some (.ref b), some (.ref (E.G.2.1 + 0)), some (.ref (E.G.2.1 + 249)), some (.ref (E.G.2.1 + 257)), some (.ref (E.G.2.1 + 258)), some (.int (nI i)), none, none, none] [] := by
  have hk0 : k ≤ 100000 := by omega
  have hs0 : sl ≤ 1000000 := by omega
  obtain ⟨q0, q1, q2, q3, -⟩ := hq
  refine tv_aload_n C dk_L_law_1016 rfl ?_
  refine tv_aload_n C dk_L_law_1017 rfl ?_
  refine tv_iload C dk_L_law_1018 rfl ?_
  refine tv_iconst (v := 1) C dk_L_law_1020 (by decide) ?_
  refine tv_iadd C dk_L_law_1021 ?_
  refine tv_sld (j := i + 1) (tvl_1 hi hX.2.2.2) C hX dk_L_law_1022 (tvli_1 hi hX.2.2.2) ?_
  refine tv_aload_n C dk_L_law_1023 rfl ?_
  refine tv_callSW C hN dk_L_law_1024 ml_RL_203 yw_L_attempts yi_L_attempts (m_L_attempts _ M (xs (i + 1)) q0) rfl rfl (Nat.le_of_ble_eq_true rfl) (Nat.le_of_ble_eq_true rfl) (Nat.le_of_ble_eq_true rfl) (by omega) (by omega) rfl rfl rfl ?_
  refine tv_istore (L' := [_, _, _, _, _, _, _, _, _]) (hn := by decide) (hlt := (Nat.le_of_ble_eq_true rfl)) (hno := rfl) C dk_L_law_1027 rfl ?_
  refine tv_aload_n C dk_L_law_1029 rfl ?_
  refine tv_aload_n C dk_L_law_1030 rfl ?_
  refine tv_iload C dk_L_law_1031 rfl ?_
  refine tv_iconst (v := 1) C dk_L_law_1033 (by decide) ?_
  refine tv_iadd C dk_L_law_1034 ?_
  refine tv_sld (j := i + 1) (tvl_1 hi hX.2.2.2) C hX dk_L_law_1035 (tvli_1 hi hX.2.2.2) ?_
  refine tv_cV1 C dk_L_law_1036 ml_RL_205 yk_X9_attempts yi_X9_attempts (m_X9_attempts _ ((f_L_attempts M (xs (i + 1))).2) (xs (i + 1)) q1) (Nat.le_of_ble_eq_true rfl) rfl rfl rfl rfl (Nat.le_of_ble_eq_true rfl) (Nat.le_of_ble_eq_true rfl) (Nat.le_of_ble_eq_true rfl) (by omega) (by omega) ?_
  refine tv_istore (L' := [_, _, _, _, _, _, _, _, _]) (hn := by decide) (hlt := (Nat.le_of_ble_eq_true rfl)) (hno := rfl) C dk_L_law_1039 rfl ?_
  refine tv_aload_n C dk_L_law_1041 rfl ?_
  refine tv_cV1 C dk_L_law_1042 ml_RL_152 yk_X9_thrown yi_X9_thrown (m_X9_thrown _ ((f_X9_attempts ((f_L_attempts M (xs (i + 1))).2) (xs (i + 1))).2)) (Nat.le_of_ble_eq_true rfl) rfl rfl rfl rfl (Nat.le_of_ble_eq_true rfl) (Nat.le_of_ble_eq_true rfl) (Nat.le_of_ble_eq_true rfl) (by omega) (by omega) ?_
  refine tv_iload C dk_L_law_1045 rfl ?_
  refine tv_icmp_eq C dk_L_law_1047 (fun _ => ?_) (fun h => tv_no (h q2))
  refine tv_iload C dk_L_law_1052 rfl ?_
  refine tv_if_ne C dk_L_law_1054 (fun _ => ?_) (fun h1 => ?_)
  · refine tv_goto C dk_L_law_1069 ?_
    refine tv_widen (k' := k + 2) (sl' := sl + 12) (by omega) (by omega) ?_
    exact tv_drop (L2 := [some (.ref b), some (.ref (E.G.2.1 + 0)), some (.ref (E.G.2.1 + 249)), some (.ref (E.G.2.1 + 257)), some (.ref (E.G.2.1 + 258)), some (.int (nI i)), none, none, none]) (by simp [tvSubL]) kk
  refine tv_aload_n C dk_L_law_1057 rfl ?_
  refine tv_iconst (v := 0) C dk_L_law_1058 (by decide) ?_
  refine tv_lald (j := 0) rfl C dk_L_law_1059 (Nat.le_of_ble_eq_true rfl) rfl (vp_in_nI (n := 0) (by decide) (by decide)) ?_
  refine tv_iload C dk_L_law_1060 rfl ?_
  refine tv_i2l C dk_L_law_1062 ?_
  refine tv_lcmp C dk_L_law_1063 ?_
  refine tv_if_eq C dk_L_law_1064 (fun _ => ?_) (fun h => tv_no (h (q3 h1)))
  refine tv_goto C dk_L_law_1069 ?_
  refine tv_widen (k' := k + 2) (sl' := sl + 12) (by omega) (by omega) ?_
  exact tv_drop (L2 := [some (.ref b), some (.ref (E.G.2.1 + 0)), some (.ref (E.G.2.1 + 249)), some (.ref (E.G.2.1 + 257)), some (.ref (E.G.2.1 + 258)), some (.int (nI i)), none, none, none]) (by simp [tvSubL]) kk
/-- case 16 -/
def lq_16 (M : tvM) (a1 a2 a3 : Int32) : Prop := (q_L_minutesLocked M a1) ∧ (q_X9_minutesLocked ((f_L_minutesLocked M a1).2) a1) ∧ ((f_X9_thrown ((f_X9_minutesLocked ((f_L_minutesLocked M a1).2) a1).2)) = (f_L_minutesLocked M a1).1) ∧ ((f_L_minutesLocked M a1).1 = 0 → (lg_cmp (tgl ((f_X9_minutesLocked ((f_L_minutesLocked M a1).2) a1).2) 257 0) (((f_X9_minutesLocked ((f_L_minutesLocked M a1).2) a1).1).toInt64)) = 0) ∧ True
def lm_16 (M : tvM) (a1 a2 a3 : Int32) : tvM := (f_X9_minutesLocked ((f_L_minutesLocked M a1).2) a1).2
theorem w_law_16 {E : tvE} {b Ln i k sl : Nat} {xs : Nat → Int32} (C : tvC E RL cL_law 9 (some .boolean) 1000 100000 1000000 []) (hN : tvNcE E.s) (hX : tvScr E b Ln xs) (hi : i + 4 ≤ Ln) (hk : k + 2 ≤ 100000) (hs : sl + 12 ≤ 1000000) (M : tvM) (hq : lq_16 M (xs (i + 1)) (xs (i + 2)) (xs (i + 3))) (kk : tv_W E tvP0 (k + 2) (sl + 12) (lm_16 M (xs (i + 1)) (xs (i + 2)) (xs (i + 3))) 2545 [some (.ref b), some (.ref (E.G.2.1 + 0)), some (.ref (E.G.2.1 + 249)), some (.ref (E.G.2.1 + 257)), some (.ref (E.G.2.1 + 258)), some (.int (nI i)), none, none, none] []) : tv_W E tvP0 k sl M 1072 [some (.ref b), some (.ref (E.G.2.1 + 0)), some (.ref (E.G.2.1 + 249)), some (.ref (E.G.2.1 + 257)), some (.ref (E.G.2.1 + 258)), some (.int (nI i)), none, none, none] [] := by
  have hk0 : k ≤ 100000 := by omega
  have hs0 : sl ≤ 1000000 := by omega
  obtain ⟨q0, q1, q2, q3, -⟩ := hq
  refine tv_aload_n C dk_L_law_1072 rfl ?_
  refine tv_aload_n C dk_L_law_1073 rfl ?_
  refine tv_iload C dk_L_law_1074 rfl ?_
  refine tv_iconst (v := 1) C dk_L_law_1076 (by decide) ?_
  refine tv_iadd C dk_L_law_1077 ?_
  refine tv_sld (j := i + 1) (tvl_1 hi hX.2.2.2) C hX dk_L_law_1078 (tvli_1 hi hX.2.2.2) ?_
  refine tv_aload_n C dk_L_law_1079 rfl ?_
  refine tv_callSW C hN dk_L_law_1080 ml_RL_206 yw_L_minutesLocked yi_L_minutesLocked (m_L_minutesLocked _ M (xs (i + 1)) q0) rfl rfl (Nat.le_of_ble_eq_true rfl) (Nat.le_of_ble_eq_true rfl) (Nat.le_of_ble_eq_true rfl) (by omega) (by omega) rfl rfl rfl ?_
  refine tv_istore (L' := [_, _, _, _, _, _, _, _, _]) (hn := by decide) (hlt := (Nat.le_of_ble_eq_true rfl)) (hno := rfl) C dk_L_law_1083 rfl ?_
  refine tv_aload_n C dk_L_law_1085 rfl ?_
  refine tv_aload_n C dk_L_law_1086 rfl ?_
  refine tv_iload C dk_L_law_1087 rfl ?_
  refine tv_iconst (v := 1) C dk_L_law_1089 (by decide) ?_
  refine tv_iadd C dk_L_law_1090 ?_
  refine tv_sld (j := i + 1) (tvl_1 hi hX.2.2.2) C hX dk_L_law_1091 (tvli_1 hi hX.2.2.2) ?_
  refine tv_cV1 C dk_L_law_1092 ml_RL_208 yk_X9_minutesLocked yi_X9_minutesLocked (m_X9_minutesLocked _ ((f_L_minutesLocked M (xs (i + 1))).2) (xs (i + 1)) q1) (Nat.le_of_ble_eq_true rfl) rfl rfl rfl rfl (Nat.le_of_ble_eq_true rfl) (Nat.le_of_ble_eq_true rfl) (Nat.le_of_ble_eq_true rfl) (by omega) (by omega) ?_
  refine tv_istore (L' := [_, _, _, _, _, _, _, _, _]) (hn := by decide) (hlt := (Nat.le_of_ble_eq_true rfl)) (hno := rfl) C dk_L_law_1095 rfl ?_
  refine tv_aload_n C dk_L_law_1097 rfl ?_
  refine tv_cV1 C dk_L_law_1098 ml_RL_152 yk_X9_thrown yi_X9_thrown (m_X9_thrown _ ((f_X9_minutesLocked ((f_L_minutesLocked M (xs (i + 1))).2) (xs (i + 1))).2)) (Nat.le_of_ble_eq_true rfl) rfl rfl rfl rfl (Nat.le_of_ble_eq_true rfl) (Nat.le_of_ble_eq_true rfl) (Nat.le_of_ble_eq_true rfl) (by omega) (by omega) ?_
  refine tv_iload C dk_L_law_1101 rfl ?_
  refine tv_icmp_eq C dk_L_law_1103 (fun _ => ?_) (fun h => tv_no (h q2))
  refine tv_iload C dk_L_law_1108 rfl ?_
  refine tv_if_ne C dk_L_law_1110 (fun _ => ?_) (fun h1 => ?_)
  · refine tv_goto C dk_L_law_1125 ?_
    refine tv_widen (k' := k + 2) (sl' := sl + 12) (by omega) (by omega) ?_
    exact tv_drop (L2 := [some (.ref b), some (.ref (E.G.2.1 + 0)), some (.ref (E.G.2.1 + 249)), some (.ref (E.G.2.1 + 257)), some (.ref (E.G.2.1 + 258)), some (.int (nI i)), none, none, none]) (by simp [tvSubL]) kk
  refine tv_aload_n C dk_L_law_1113 rfl ?_
  refine tv_iconst (v := 0) C dk_L_law_1114 (by decide) ?_
  refine tv_lald (j := 0) rfl C dk_L_law_1115 (Nat.le_of_ble_eq_true rfl) rfl (vp_in_nI (n := 0) (by decide) (by decide)) ?_
  refine tv_iload C dk_L_law_1116 rfl ?_
  refine tv_i2l C dk_L_law_1118 ?_
  refine tv_lcmp C dk_L_law_1119 ?_
  refine tv_if_eq C dk_L_law_1120 (fun _ => ?_) (fun h => tv_no (h (q3 h1)))
  refine tv_goto C dk_L_law_1125 ?_
  refine tv_widen (k' := k + 2) (sl' := sl + 12) (by omega) (by omega) ?_
  exact tv_drop (L2 := [some (.ref b), some (.ref (E.G.2.1 + 0)), some (.ref (E.G.2.1 + 249)), some (.ref (E.G.2.1 + 257)), some (.ref (E.G.2.1 + 258)), some (.int (nI i)), none, none, none]) (by simp [tvSubL]) kk
/-- case 17 -/
def lq_17 (M : tvM) (a1 a2 a3 : Int32) : Prop := (q_L_boxesOf M a1) ∧ (q_X9_boxesOf ((f_L_boxesOf M a1).2) a1) ∧ ((f_X9_thrown ((f_X9_boxesOf ((f_L_boxesOf M a1).2) a1).2)) = (f_L_boxesOf M a1).1) ∧ ((f_L_boxesOf M a1).1 = 0 → (lg_cmp (tgl ((f_X9_boxesOf ((f_L_boxesOf M a1).2) a1).2) 257 0) (((f_X9_boxesOf ((f_L_boxesOf M a1).2) a1).1).toInt64)) = 0) ∧ True
def lm_17 (M : tvM) (a1 a2 a3 : Int32) : tvM := (f_X9_boxesOf ((f_L_boxesOf M a1).2) a1).2
theorem w_law_17 {E : tvE} {b Ln i k sl : Nat} {xs : Nat → Int32} (C : tvC E RL cL_law 9 (some .boolean) 1000 100000 1000000 []) (hN : tvNcE E.s) (hX : tvScr E b Ln xs) (hi : i + 4 ≤ Ln) (hk : k + 2 ≤ 100000) (hs : sl + 12 ≤ 1000000) (M : tvM) (hq : lq_17 M (xs (i + 1)) (xs (i + 2)) (xs (i + 3))) (kk : tv_W E tvP0 (k + 2) (sl + 12) (lm_17 M (xs (i + 1)) (xs (i + 2)) (xs (i + 3))) 2545 [some (.ref b), some (.ref (E.G.2.1 + 0)), some (.ref (E.G.2.1 + 249)), some (.ref (E.G.2.1 + 257)), some (.ref (E.G.2.1 + 258)), some (.int (nI i)), none, none, none] []) : tv_W E tvP0 k sl M 1128 [some (.ref b), some (.ref (E.G.2.1 + 0)), some (.ref (E.G.2.1 + 249)), some (.ref (E.G.2.1 + 257)), some (.ref (E.G.2.1 + 258)), some (.int (nI i)), none, none, none] [] := by
  have hk0 : k ≤ 100000 := by omega
  have hs0 : sl ≤ 1000000 := by omega
  obtain ⟨q0, q1, q2, q3, -⟩ := hq
  refine tv_aload_n C dk_L_law_1128 rfl ?_
  refine tv_aload_n C dk_L_law_1129 rfl ?_
  refine tv_iload C dk_L_law_1130 rfl ?_
  refine tv_iconst (v := 1) C dk_L_law_1132 (by decide) ?_
  refine tv_iadd C dk_L_law_1133 ?_
  refine tv_sld (j := i + 1) (tvl_1 hi hX.2.2.2) C hX dk_L_law_1134 (tvli_1 hi hX.2.2.2) ?_
  refine tv_aload_n C dk_L_law_1135 rfl ?_
  refine tv_callSW C hN dk_L_law_1136 ml_RL_209 yw_L_boxesOf yi_L_boxesOf (m_L_boxesOf _ M (xs (i + 1)) q0) rfl rfl (Nat.le_of_ble_eq_true rfl) (Nat.le_of_ble_eq_true rfl) (Nat.le_of_ble_eq_true rfl) (by omega) (by omega) rfl rfl rfl ?_
  refine tv_istore (L' := [_, _, _, _, _, _, _, _, _]) (hn := by decide) (hlt := (Nat.le_of_ble_eq_true rfl)) (hno := rfl) C dk_L_law_1139 rfl ?_
  refine tv_aload_n C dk_L_law_1141 rfl ?_
  refine tv_aload_n C dk_L_law_1142 rfl ?_
  refine tv_iload C dk_L_law_1143 rfl ?_
  refine tv_iconst (v := 1) C dk_L_law_1145 (by decide) ?_
  refine tv_iadd C dk_L_law_1146 ?_
  refine tv_sld (j := i + 1) (tvl_1 hi hX.2.2.2) C hX dk_L_law_1147 (tvli_1 hi hX.2.2.2) ?_
  refine tv_cV1 C dk_L_law_1148 ml_RL_211 yk_X9_boxesOf yi_X9_boxesOf (n_X9_boxesOf _ ((f_L_boxesOf M (xs (i + 1))).2) (xs (i + 1)) q1) (Nat.le_of_ble_eq_true rfl) rfl rfl rfl rfl (Nat.le_of_ble_eq_true rfl) (Nat.le_of_ble_eq_true rfl) (Nat.le_of_ble_eq_true rfl) (by omega) (by omega) ?_
  refine tv_istore (L' := [_, _, _, _, _, _, _, _, _]) (hn := by decide) (hlt := (Nat.le_of_ble_eq_true rfl)) (hno := rfl) C dk_L_law_1151 rfl ?_
  refine tv_aload_n C dk_L_law_1153 rfl ?_
  refine tv_cV1 C dk_L_law_1154 ml_RL_152 yk_X9_thrown yi_X9_thrown (m_X9_thrown _ ((f_X9_boxesOf ((f_L_boxesOf M (xs (i + 1))).2) (xs (i + 1))).2)) (Nat.le_of_ble_eq_true rfl) rfl rfl rfl rfl (Nat.le_of_ble_eq_true rfl) (Nat.le_of_ble_eq_true rfl) (Nat.le_of_ble_eq_true rfl) (by omega) (by omega) ?_
  refine tv_iload C dk_L_law_1157 rfl ?_
  refine tv_icmp_eq C dk_L_law_1159 (fun _ => ?_) (fun h => tv_no (h q2))
  refine tv_iload C dk_L_law_1164 rfl ?_
  refine tv_if_ne C dk_L_law_1166 (fun _ => ?_) (fun h1 => ?_)
  · refine tv_goto C dk_L_law_1181 ?_
    refine tv_widen (k' := k + 2) (sl' := sl + 12) (by omega) (by omega) ?_
    exact tv_drop (L2 := [some (.ref b), some (.ref (E.G.2.1 + 0)), some (.ref (E.G.2.1 + 249)), some (.ref (E.G.2.1 + 257)), some (.ref (E.G.2.1 + 258)), some (.int (nI i)), none, none, none]) (by simp [tvSubL]) kk
  refine tv_aload_n C dk_L_law_1169 rfl ?_
  refine tv_iconst (v := 0) C dk_L_law_1170 (by decide) ?_
  refine tv_lald (j := 0) rfl C dk_L_law_1171 (Nat.le_of_ble_eq_true rfl) rfl (vp_in_nI (n := 0) (by decide) (by decide)) ?_
  refine tv_iload C dk_L_law_1172 rfl ?_
  refine tv_i2l C dk_L_law_1174 ?_
  refine tv_lcmp C dk_L_law_1175 ?_
  refine tv_if_eq C dk_L_law_1176 (fun _ => ?_) (fun h => tv_no (h (q3 h1)))
  refine tv_goto C dk_L_law_1181 ?_
  refine tv_widen (k' := k + 2) (sl' := sl + 12) (by omega) (by omega) ?_
  exact tv_drop (L2 := [some (.ref b), some (.ref (E.G.2.1 + 0)), some (.ref (E.G.2.1 + 249)), some (.ref (E.G.2.1 + 257)), some (.ref (E.G.2.1 + 258)), some (.int (nI i)), none, none, none]) (by simp [tvSubL]) kk
/-- case 18 -/
def lq_18 (M : tvM) (a1 a2 a3 : Int32) : Prop := ((f_X8_boxes M) = (f_X9_boxes M).1) ∧ True
def lm_18 (M : tvM) (a1 a2 a3 : Int32) : tvM := (f_X9_boxes M).2
theorem w_law_18 {E : tvE} {b Ln i k sl : Nat} {xs : Nat → Int32} (C : tvC E RL cL_law 9 (some .boolean) 1000 100000 1000000 []) (hN : tvNcE E.s) (hX : tvScr E b Ln xs) (hi : i + 4 ≤ Ln) (hk : k + 2 ≤ 100000) (hs : sl + 12 ≤ 1000000) (M : tvM) (hq : lq_18 M (xs (i + 1)) (xs (i + 2)) (xs (i + 3))) (kk : tv_W E tvP0 (k + 2) (sl + 12) (lm_18 M (xs (i + 1)) (xs (i + 2)) (xs (i + 3))) 2545 [some (.ref b), some (.ref (E.G.2.1 + 0)), some (.ref (E.G.2.1 + 249)), some (.ref (E.G.2.1 + 257)), some (.ref (E.G.2.1 + 258)), some (.int (nI i)), none, none, none] []) : tv_W E tvP0 k sl M 1184 [some (.ref b), some (.ref (E.G.2.1 + 0)), some (.ref (E.G.2.1 + 249)), some (.ref (E.G.2.1 + 257)), some (.ref (E.G.2.1 + 258)), some (.int (nI i)), none, none, none] [] := by
  have hk0 : k ≤ 100000 := by omega
  have hs0 : sl ≤ 1000000 := by omega
  obtain ⟨q0, -⟩ := hq
  refine tv_aload_n C dk_L_law_1184 rfl ?_
  refine tv_cV1 C dk_L_law_1185 ml_RL_212 yk_X8_boxes yi_X8_boxes (m_X8_boxes _ M) (Nat.le_of_ble_eq_true rfl) rfl rfl rfl rfl (Nat.le_of_ble_eq_true rfl) (Nat.le_of_ble_eq_true rfl) (Nat.le_of_ble_eq_true rfl) (by omega) (by omega) ?_
  refine tv_aload_n C dk_L_law_1188 rfl ?_
  refine tv_cV1 C dk_L_law_1189 ml_RL_215 yk_X9_boxes yi_X9_boxes (m_X9_boxes _ M) (Nat.le_of_ble_eq_true rfl) rfl rfl rfl rfl (Nat.le_of_ble_eq_true rfl) (Nat.le_of_ble_eq_true rfl) (Nat.le_of_ble_eq_true rfl) (by omega) (by omega) ?_
  refine tv_icmp_eq C dk_L_law_1192 (fun _ => ?_) (fun h => tv_no (h q0))
  refine tv_widen (k' := k + 2) (sl' := sl + 12) (by omega) (by omega) ?_
  exact tv_drop (L2 := [some (.ref b), some (.ref (E.G.2.1 + 0)), some (.ref (E.G.2.1 + 249)), some (.ref (E.G.2.1 + 257)), some (.ref (E.G.2.1 + 258)), some (.int (nI i)), none, none, none]) (by simp [tvSubL]) kk
/-- case 19 -/
def lq_19 (M : tvM) (a1 a2 a3 : Int32) : Prop := (q_L_otherHolder M a1 a2) ∧ (q_X9_otherHolder ((f_L_otherHolder M a1 a2).2) a1 a2) ∧ ((f_X9_thrown ((f_X9_otherHolder ((f_L_otherHolder M a1 a2).2) a1 a2).2)) = (f_L_otherHolder M a1 a2).1) ∧ ((f_L_otherHolder M a1 a2).1 = 0 → (lg_cmp (tgl ((f_X9_otherHolder ((f_L_otherHolder M a1 a2).2) a1 a2).2) 257 0) (((f_X9_otherHolder ((f_L_otherHolder M a1 a2).2) a1 a2).1).toInt64)) = 0) ∧ True
def lm_19 (M : tvM) (a1 a2 a3 : Int32) : tvM := (f_X9_otherHolder ((f_L_otherHolder M a1 a2).2) a1 a2).2
theorem w_law_19 {E : tvE} {b Ln i k sl : Nat} {xs : Nat → Int32} (C : tvC E RL cL_law 9 (some .boolean) 1000 100000 1000000 []) (hN : tvNcE E.s) (hX : tvScr E b Ln xs) (hi : i + 4 ≤ Ln) (hk : k + 2 ≤ 100000) (hs : sl + 12 ≤ 1000000) (M : tvM) (hq : lq_19 M (xs (i + 1)) (xs (i + 2)) (xs (i + 3))) (kk : tv_W E tvP0 (k + 2) (sl + 12) (lm_19 M (xs (i + 1)) (xs (i + 2)) (xs (i + 3))) 2545 [some (.ref b), some (.ref (E.G.2.1 + 0)), some (.ref (E.G.2.1 + 249)), some (.ref (E.G.2.1 + 257)), some (.ref (E.G.2.1 + 258)), some (.int (nI i)), none, none, none] []) : tv_W E tvP0 k sl M 1197 [some (.ref b), some (.ref (E.G.2.1 + 0)), some (.ref (E.G.2.1 + 249)), some (.ref (E.G.2.1 + 257)), some (.ref (E.G.2.1 + 258)), some (.int (nI i)), none, none, none] [] := by
  have hk0 : k ≤ 100000 := by omega
  have hs0 : sl ≤ 1000000 := by omega
  obtain ⟨q0, q1, q2, q3, -⟩ := hq
  refine tv_aload_n C dk_L_law_1197 rfl ?_
  refine tv_aload_n C dk_L_law_1198 rfl ?_
  refine tv_iload C dk_L_law_1199 rfl ?_
  refine tv_iconst (v := 1) C dk_L_law_1201 (by decide) ?_
  refine tv_iadd C dk_L_law_1202 ?_
  refine tv_sld (j := i + 1) (tvl_1 hi hX.2.2.2) C hX dk_L_law_1203 (tvli_1 hi hX.2.2.2) ?_
  refine tv_aload_n C dk_L_law_1204 rfl ?_
  refine tv_iload C dk_L_law_1205 rfl ?_
  refine tv_iconst (v := 2) C dk_L_law_1207 (by decide) ?_
  refine tv_iadd C dk_L_law_1208 ?_
  refine tv_sld (j := i + 2) (tvl_2 hi hX.2.2.2) C hX dk_L_law_1209 (tvli_2 hi hX.2.2.2) ?_
  refine tv_aload_n C dk_L_law_1210 rfl ?_
  refine tv_callSW C hN dk_L_law_1211 ml_RL_216 yw_L_otherHolder yi_L_otherHolder (m_L_otherHolder _ M (xs (i + 1)) (xs (i + 2)) q0) rfl rfl (Nat.le_of_ble_eq_true rfl) (Nat.le_of_ble_eq_true rfl) (Nat.le_of_ble_eq_true rfl) (by omega) (by omega) rfl rfl rfl ?_
  refine tv_istore (L' := [_, _, _, _, _, _, _, _, _]) (hn := by decide) (hlt := (Nat.le_of_ble_eq_true rfl)) (hno := rfl) C dk_L_law_1214 rfl ?_
  refine tv_aload_n C dk_L_law_1216 rfl ?_
  refine tv_aload_n C dk_L_law_1217 rfl ?_
  refine tv_iload C dk_L_law_1218 rfl ?_
  refine tv_iconst (v := 1) C dk_L_law_1220 (by decide) ?_
  refine tv_iadd C dk_L_law_1221 ?_
  refine tv_sld (j := i + 1) (tvl_1 hi hX.2.2.2) C hX dk_L_law_1222 (tvli_1 hi hX.2.2.2) ?_
  refine tv_aload_n C dk_L_law_1223 rfl ?_
  refine tv_iload C dk_L_law_1224 rfl ?_
  refine tv_iconst (v := 2) C dk_L_law_1226 (by decide) ?_
  refine tv_iadd C dk_L_law_1227 ?_
  refine tv_sld (j := i + 2) (tvl_2 hi hX.2.2.2) C hX dk_L_law_1228 (tvli_2 hi hX.2.2.2) ?_
  refine tv_cV1 C dk_L_law_1229 ml_RL_218 yk_X9_otherHolder yi_X9_otherHolder (m_X9_otherHolder _ ((f_L_otherHolder M (xs (i + 1)) (xs (i + 2))).2) (xs (i + 1)) (xs (i + 2)) q1) (Nat.le_of_ble_eq_true rfl) rfl rfl rfl rfl (Nat.le_of_ble_eq_true rfl) (Nat.le_of_ble_eq_true rfl) (Nat.le_of_ble_eq_true rfl) (by omega) (by omega) ?_
  refine tv_istore (L' := [_, _, _, _, _, _, _, _, _]) (hn := by decide) (hlt := (Nat.le_of_ble_eq_true rfl)) (hno := rfl) C dk_L_law_1232 rfl ?_
  refine tv_aload_n C dk_L_law_1234 rfl ?_
  refine tv_cV1 C dk_L_law_1235 ml_RL_152 yk_X9_thrown yi_X9_thrown (m_X9_thrown _ ((f_X9_otherHolder ((f_L_otherHolder M (xs (i + 1)) (xs (i + 2))).2) (xs (i + 1)) (xs (i + 2))).2)) (Nat.le_of_ble_eq_true rfl) rfl rfl rfl rfl (Nat.le_of_ble_eq_true rfl) (Nat.le_of_ble_eq_true rfl) (Nat.le_of_ble_eq_true rfl) (by omega) (by omega) ?_
  refine tv_iload C dk_L_law_1238 rfl ?_
  refine tv_icmp_eq C dk_L_law_1240 (fun _ => ?_) (fun h => tv_no (h q2))
  refine tv_iload C dk_L_law_1245 rfl ?_
  refine tv_if_ne C dk_L_law_1247 (fun _ => ?_) (fun h1 => ?_)
  · refine tv_goto C dk_L_law_1262 ?_
    refine tv_widen (k' := k + 2) (sl' := sl + 12) (by omega) (by omega) ?_
    exact tv_drop (L2 := [some (.ref b), some (.ref (E.G.2.1 + 0)), some (.ref (E.G.2.1 + 249)), some (.ref (E.G.2.1 + 257)), some (.ref (E.G.2.1 + 258)), some (.int (nI i)), none, none, none]) (by simp [tvSubL]) kk
  refine tv_aload_n C dk_L_law_1250 rfl ?_
  refine tv_iconst (v := 0) C dk_L_law_1251 (by decide) ?_
  refine tv_lald (j := 0) rfl C dk_L_law_1252 (Nat.le_of_ble_eq_true rfl) rfl (vp_in_nI (n := 0) (by decide) (by decide)) ?_
  refine tv_iload C dk_L_law_1253 rfl ?_
  refine tv_i2l C dk_L_law_1255 ?_
  refine tv_lcmp C dk_L_law_1256 ?_
  refine tv_if_eq C dk_L_law_1257 (fun _ => ?_) (fun h => tv_no (h (q3 h1)))
  refine tv_goto C dk_L_law_1262 ?_
  refine tv_widen (k' := k + 2) (sl' := sl + 12) (by omega) (by omega) ?_
  exact tv_drop (L2 := [some (.ref b), some (.ref (E.G.2.1 + 0)), some (.ref (E.G.2.1 + 249)), some (.ref (E.G.2.1 + 257)), some (.ref (E.G.2.1 + 258)), some (.int (nI i)), none, none, none]) (by simp [tvSubL]) kk
/-- case 20 -/
def lq_20 (M : tvM) (a1 a2 a3 : Int32) : Prop := (q_L_status M a1) ∧ (q_X9_status ((f_L_status M a1).2) a1) ∧ ((f_X9_thrown ((f_X9_status ((f_L_status M a1).2) a1).2)) = (f_L_status M a1).1) ∧ ((f_L_status M a1).1 = 0 → (lg_cmp (tgl ((f_X9_status ((f_L_status M a1).2) a1).2) 257 0) (((f_X9_status ((f_L_status M a1).2) a1).1).toInt64)) = 0) ∧ True
def lm_20 (M : tvM) (a1 a2 a3 : Int32) : tvM := (f_X9_status ((f_L_status M a1).2) a1).2
theorem w_law_20 {E : tvE} {b Ln i k sl : Nat} {xs : Nat → Int32} (C : tvC E RL cL_law 9 (some .boolean) 1000 100000 1000000 []) (hN : tvNcE E.s) (hX : tvScr E b Ln xs) (hi : i + 4 ≤ Ln) (hk : k + 2 ≤ 100000) (hs : sl + 12 ≤ 1000000) (M : tvM) (hq : lq_20 M (xs (i + 1)) (xs (i + 2)) (xs (i + 3))) (kk : tv_W E tvP0 (k + 2) (sl + 12) (lm_20 M (xs (i + 1)) (xs (i + 2)) (xs (i + 3))) 2545 [some (.ref b), some (.ref (E.G.2.1 + 0)), some (.ref (E.G.2.1 + 249)), some (.ref (E.G.2.1 + 257)), some (.ref (E.G.2.1 + 258)), some (.int (nI i)), none, none, none] []) : tv_W E tvP0 k sl M 1265 [some (.ref b), some (.ref (E.G.2.1 + 0)), some (.ref (E.G.2.1 + 249)), some (.ref (E.G.2.1 + 257)), some (.ref (E.G.2.1 + 258)), some (.int (nI i)), none, none, none] [] := by
  have hk0 : k ≤ 100000 := by omega
  have hs0 : sl ≤ 1000000 := by omega
  obtain ⟨q0, q1, q2, q3, -⟩ := hq
  refine tv_aload_n C dk_L_law_1265 rfl ?_
  refine tv_aload_n C dk_L_law_1266 rfl ?_
  refine tv_iload C dk_L_law_1267 rfl ?_
  refine tv_iconst (v := 1) C dk_L_law_1269 (by decide) ?_
  refine tv_iadd C dk_L_law_1270 ?_
  refine tv_sld (j := i + 1) (tvl_1 hi hX.2.2.2) C hX dk_L_law_1271 (tvli_1 hi hX.2.2.2) ?_
  refine tv_aload_n C dk_L_law_1272 rfl ?_
  refine tv_callSW C hN dk_L_law_1273 ml_RL_219 yw_L_status yi_L_status (m_L_status _ M (xs (i + 1)) q0) rfl rfl (Nat.le_of_ble_eq_true rfl) (Nat.le_of_ble_eq_true rfl) (Nat.le_of_ble_eq_true rfl) (by omega) (by omega) rfl rfl rfl ?_
  refine tv_istore (L' := [_, _, _, _, _, _, _, _, _]) (hn := by decide) (hlt := (Nat.le_of_ble_eq_true rfl)) (hno := rfl) C dk_L_law_1276 rfl ?_
  refine tv_aload_n C dk_L_law_1278 rfl ?_
  refine tv_aload_n C dk_L_law_1279 rfl ?_
  refine tv_iload C dk_L_law_1280 rfl ?_
  refine tv_iconst (v := 1) C dk_L_law_1282 (by decide) ?_
  refine tv_iadd C dk_L_law_1283 ?_
  refine tv_sld (j := i + 1) (tvl_1 hi hX.2.2.2) C hX dk_L_law_1284 (tvli_1 hi hX.2.2.2) ?_
  refine tv_cV1 C dk_L_law_1285 ml_RL_221 yk_X9_status yi_X9_status (m_X9_status _ ((f_L_status M (xs (i + 1))).2) (xs (i + 1)) q1) (Nat.le_of_ble_eq_true rfl) rfl rfl rfl rfl (Nat.le_of_ble_eq_true rfl) (Nat.le_of_ble_eq_true rfl) (Nat.le_of_ble_eq_true rfl) (by omega) (by omega) ?_
  refine tv_istore (L' := [_, _, _, _, _, _, _, _, _]) (hn := by decide) (hlt := (Nat.le_of_ble_eq_true rfl)) (hno := rfl) C dk_L_law_1288 rfl ?_
  refine tv_aload_n C dk_L_law_1290 rfl ?_
  refine tv_cV1 C dk_L_law_1291 ml_RL_152 yk_X9_thrown yi_X9_thrown (m_X9_thrown _ ((f_X9_status ((f_L_status M (xs (i + 1))).2) (xs (i + 1))).2)) (Nat.le_of_ble_eq_true rfl) rfl rfl rfl rfl (Nat.le_of_ble_eq_true rfl) (Nat.le_of_ble_eq_true rfl) (Nat.le_of_ble_eq_true rfl) (by omega) (by omega) ?_
  refine tv_iload C dk_L_law_1294 rfl ?_
  refine tv_icmp_eq C dk_L_law_1296 (fun _ => ?_) (fun h => tv_no (h q2))
  refine tv_iload C dk_L_law_1301 rfl ?_
  refine tv_if_ne C dk_L_law_1303 (fun _ => ?_) (fun h1 => ?_)
  · refine tv_goto C dk_L_law_1318 ?_
    refine tv_widen (k' := k + 2) (sl' := sl + 12) (by omega) (by omega) ?_
    exact tv_drop (L2 := [some (.ref b), some (.ref (E.G.2.1 + 0)), some (.ref (E.G.2.1 + 249)), some (.ref (E.G.2.1 + 257)), some (.ref (E.G.2.1 + 258)), some (.int (nI i)), none, none, none]) (by simp [tvSubL]) kk
  refine tv_aload_n C dk_L_law_1306 rfl ?_
  refine tv_iconst (v := 0) C dk_L_law_1307 (by decide) ?_
  refine tv_lald (j := 0) rfl C dk_L_law_1308 (Nat.le_of_ble_eq_true rfl) rfl (vp_in_nI (n := 0) (by decide) (by decide)) ?_
  refine tv_iload C dk_L_law_1309 rfl ?_
  refine tv_i2l C dk_L_law_1311 ?_
  refine tv_lcmp C dk_L_law_1312 ?_
  refine tv_if_eq C dk_L_law_1313 (fun _ => ?_) (fun h => tv_no (h (q3 h1)))
  refine tv_goto C dk_L_law_1318 ?_
  refine tv_widen (k' := k + 2) (sl' := sl + 12) (by omega) (by omega) ?_
  exact tv_drop (L2 := [some (.ref b), some (.ref (E.G.2.1 + 0)), some (.ref (E.G.2.1 + 249)), some (.ref (E.G.2.1 + 257)), some (.ref (E.G.2.1 + 258)), some (.int (nI i)), none, none, none]) (by simp [tvSubL]) kk
/-- case 21 -/
def lq_21 (M : tvM) (a1 a2 a3 : Int32) : Prop := (q_L_firstHolder M a1) ∧ (q_X9_firstHolder ((f_L_firstHolder M a1).2) a1) ∧ ((f_X9_thrown ((f_X9_firstHolder ((f_L_firstHolder M a1).2) a1).2)) = (f_L_firstHolder M a1).1) ∧ ((f_L_firstHolder M a1).1 = 0 → (lg_cmp (tgl ((f_X9_firstHolder ((f_L_firstHolder M a1).2) a1).2) 257 0) (((f_X9_firstHolder ((f_L_firstHolder M a1).2) a1).1).toInt64)) = 0) ∧ True
def lm_21 (M : tvM) (a1 a2 a3 : Int32) : tvM := (f_X9_firstHolder ((f_L_firstHolder M a1).2) a1).2
theorem w_law_21 {E : tvE} {b Ln i k sl : Nat} {xs : Nat → Int32} (C : tvC E RL cL_law 9 (some .boolean) 1000 100000 1000000 []) (hN : tvNcE E.s) (hX : tvScr E b Ln xs) (hi : i + 4 ≤ Ln) (hk : k + 2 ≤ 100000) (hs : sl + 12 ≤ 1000000) (M : tvM) (hq : lq_21 M (xs (i + 1)) (xs (i + 2)) (xs (i + 3))) (kk : tv_W E tvP0 (k + 2) (sl + 12) (lm_21 M (xs (i + 1)) (xs (i + 2)) (xs (i + 3))) 2545 [some (.ref b), some (.ref (E.G.2.1 + 0)), some (.ref (E.G.2.1 + 249)), some (.ref (E.G.2.1 + 257)), some (.ref (E.G.2.1 + 258)), some (.int (nI i)), none, none, none] []) : tv_W E tvP0 k sl M 1321 [some (.ref b), some (.ref (E.G.2.1 + 0)), some (.ref (E.G.2.1 + 249)), some (.ref (E.G.2.1 + 257)), some (.ref (E.G.2.1 + 258)), some (.int (nI i)), none, none, none] [] := by
  have hk0 : k ≤ 100000 := by omega
  have hs0 : sl ≤ 1000000 := by omega
  obtain ⟨q0, q1, q2, q3, -⟩ := hq
  refine tv_aload_n C dk_L_law_1321 rfl ?_
  refine tv_aload_n C dk_L_law_1322 rfl ?_
  refine tv_iload C dk_L_law_1323 rfl ?_
  refine tv_iconst (v := 1) C dk_L_law_1325 (by decide) ?_
  refine tv_iadd C dk_L_law_1326 ?_
  refine tv_sld (j := i + 1) (tvl_1 hi hX.2.2.2) C hX dk_L_law_1327 (tvli_1 hi hX.2.2.2) ?_
  refine tv_aload_n C dk_L_law_1328 rfl ?_
  refine tv_callSW C hN dk_L_law_1329 ml_RL_222 yw_L_firstHolder yi_L_firstHolder (m_L_firstHolder _ M (xs (i + 1)) q0) rfl rfl (Nat.le_of_ble_eq_true rfl) (Nat.le_of_ble_eq_true rfl) (Nat.le_of_ble_eq_true rfl) (by omega) (by omega) rfl rfl rfl ?_
  refine tv_istore (L' := [_, _, _, _, _, _, _, _, _]) (hn := by decide) (hlt := (Nat.le_of_ble_eq_true rfl)) (hno := rfl) C dk_L_law_1332 rfl ?_
  refine tv_aload_n C dk_L_law_1334 rfl ?_
  refine tv_aload_n C dk_L_law_1335 rfl ?_
  refine tv_iload C dk_L_law_1336 rfl ?_
  refine tv_iconst (v := 1) C dk_L_law_1338 (by decide) ?_
  refine tv_iadd C dk_L_law_1339 ?_
  refine tv_sld (j := i + 1) (tvl_1 hi hX.2.2.2) C hX dk_L_law_1340 (tvli_1 hi hX.2.2.2) ?_
  refine tv_cV1 C dk_L_law_1341 ml_RL_224 yk_X9_firstHolder yi_X9_firstHolder (m_X9_firstHolder _ ((f_L_firstHolder M (xs (i + 1))).2) (xs (i + 1)) q1) (Nat.le_of_ble_eq_true rfl) rfl rfl rfl rfl (Nat.le_of_ble_eq_true rfl) (Nat.le_of_ble_eq_true rfl) (Nat.le_of_ble_eq_true rfl) (by omega) (by omega) ?_
  refine tv_istore (L' := [_, _, _, _, _, _, _, _, _]) (hn := by decide) (hlt := (Nat.le_of_ble_eq_true rfl)) (hno := rfl) C dk_L_law_1344 rfl ?_
  refine tv_aload_n C dk_L_law_1346 rfl ?_
  refine tv_cV1 C dk_L_law_1347 ml_RL_152 yk_X9_thrown yi_X9_thrown (m_X9_thrown _ ((f_X9_firstHolder ((f_L_firstHolder M (xs (i + 1))).2) (xs (i + 1))).2)) (Nat.le_of_ble_eq_true rfl) rfl rfl rfl rfl (Nat.le_of_ble_eq_true rfl) (Nat.le_of_ble_eq_true rfl) (Nat.le_of_ble_eq_true rfl) (by omega) (by omega) ?_
  refine tv_iload C dk_L_law_1350 rfl ?_
  refine tv_icmp_eq C dk_L_law_1352 (fun _ => ?_) (fun h => tv_no (h q2))
  refine tv_iload C dk_L_law_1357 rfl ?_
  refine tv_if_ne C dk_L_law_1359 (fun _ => ?_) (fun h1 => ?_)
  · refine tv_goto C dk_L_law_1374 ?_
    refine tv_widen (k' := k + 2) (sl' := sl + 12) (by omega) (by omega) ?_
    exact tv_drop (L2 := [some (.ref b), some (.ref (E.G.2.1 + 0)), some (.ref (E.G.2.1 + 249)), some (.ref (E.G.2.1 + 257)), some (.ref (E.G.2.1 + 258)), some (.int (nI i)), none, none, none]) (by simp [tvSubL]) kk
  refine tv_aload_n C dk_L_law_1362 rfl ?_
  refine tv_iconst (v := 0) C dk_L_law_1363 (by decide) ?_
  refine tv_lald (j := 0) rfl C dk_L_law_1364 (Nat.le_of_ble_eq_true rfl) rfl (vp_in_nI (n := 0) (by decide) (by decide)) ?_
  refine tv_iload C dk_L_law_1365 rfl ?_
  refine tv_i2l C dk_L_law_1367 ?_
  refine tv_lcmp C dk_L_law_1368 ?_
  refine tv_if_eq C dk_L_law_1369 (fun _ => ?_) (fun h => tv_no (h (q3 h1)))
  refine tv_goto C dk_L_law_1374 ?_
  refine tv_widen (k' := k + 2) (sl' := sl + 12) (by omega) (by omega) ?_
  exact tv_drop (L2 := [some (.ref b), some (.ref (E.G.2.1 + 0)), some (.ref (E.G.2.1 + 249)), some (.ref (E.G.2.1 + 257)), some (.ref (E.G.2.1 + 258)), some (.int (nI i)), none, none, none]) (by simp [tvSubL]) kk
/-- case 22 -/
def lq_22 (M : tvM) (a1 a2 a3 : Int32) : Prop := (q_L_remainingDelay M a1) ∧ (q_X9_remainingDelay ((f_L_remainingDelay M a1).2) a1) ∧ ((f_X9_thrown ((f_X9_remainingDelay ((f_L_remainingDelay M a1).2) a1).2)) = (f_L_remainingDelay M a1).1) ∧ ((f_L_remainingDelay M a1).1 = 0 → (lg_cmp (tgl ((f_X9_remainingDelay ((f_L_remainingDelay M a1).2) a1).2) 257 0) (((f_X9_remainingDelay ((f_L_remainingDelay M a1).2) a1).1).toInt64)) = 0) ∧ True
def lm_22 (M : tvM) (a1 a2 a3 : Int32) : tvM := (f_X9_remainingDelay ((f_L_remainingDelay M a1).2) a1).2
theorem w_law_22 {E : tvE} {b Ln i k sl : Nat} {xs : Nat → Int32} (C : tvC E RL cL_law 9 (some .boolean) 1000 100000 1000000 []) (hN : tvNcE E.s) (hX : tvScr E b Ln xs) (hi : i + 4 ≤ Ln) (hk : k + 2 ≤ 100000) (hs : sl + 12 ≤ 1000000) (M : tvM) (hq : lq_22 M (xs (i + 1)) (xs (i + 2)) (xs (i + 3))) (kk : tv_W E tvP0 (k + 2) (sl + 12) (lm_22 M (xs (i + 1)) (xs (i + 2)) (xs (i + 3))) 2545 [some (.ref b), some (.ref (E.G.2.1 + 0)), some (.ref (E.G.2.1 + 249)), some (.ref (E.G.2.1 + 257)), some (.ref (E.G.2.1 + 258)), some (.int (nI i)), none, none, none] []) : tv_W E tvP0 k sl M 1377 [some (.ref b), some (.ref (E.G.2.1 + 0)), some (.ref (E.G.2.1 + 249)), some (.ref (E.G.2.1 + 257)), some (.ref (E.G.2.1 + 258)), some (.int (nI i)), none, none, none] [] := by
  have hk0 : k ≤ 100000 := by omega
  have hs0 : sl ≤ 1000000 := by omega
  obtain ⟨q0, q1, q2, q3, -⟩ := hq
  refine tv_aload_n C dk_L_law_1377 rfl ?_
  refine tv_aload_n C dk_L_law_1378 rfl ?_
  refine tv_iload C dk_L_law_1379 rfl ?_
  refine tv_iconst (v := 1) C dk_L_law_1381 (by decide) ?_
  refine tv_iadd C dk_L_law_1382 ?_
  refine tv_sld (j := i + 1) (tvl_1 hi hX.2.2.2) C hX dk_L_law_1383 (tvli_1 hi hX.2.2.2) ?_
  refine tv_aload_n C dk_L_law_1384 rfl ?_
  refine tv_callSW C hN dk_L_law_1385 ml_RL_225 yw_L_remainingDelay yi_L_remainingDelay (m_L_remainingDelay _ M (xs (i + 1)) q0) rfl rfl (Nat.le_of_ble_eq_true rfl) (Nat.le_of_ble_eq_true rfl) (Nat.le_of_ble_eq_true rfl) (by omega) (by omega) rfl rfl rfl ?_
  refine tv_istore (L' := [_, _, _, _, _, _, _, _, _]) (hn := by decide) (hlt := (Nat.le_of_ble_eq_true rfl)) (hno := rfl) C dk_L_law_1388 rfl ?_
  refine tv_aload_n C dk_L_law_1390 rfl ?_
  refine tv_aload_n C dk_L_law_1391 rfl ?_
  refine tv_iload C dk_L_law_1392 rfl ?_
  refine tv_iconst (v := 1) C dk_L_law_1394 (by decide) ?_
  refine tv_iadd C dk_L_law_1395 ?_
  refine tv_sld (j := i + 1) (tvl_1 hi hX.2.2.2) C hX dk_L_law_1396 (tvli_1 hi hX.2.2.2) ?_
  refine tv_cV1 C dk_L_law_1397 ml_RL_227 yk_X9_remainingDelay yi_X9_remainingDelay (m_X9_remainingDelay _ ((f_L_remainingDelay M (xs (i + 1))).2) (xs (i + 1)) q1) (Nat.le_of_ble_eq_true rfl) rfl rfl rfl rfl (Nat.le_of_ble_eq_true rfl) (Nat.le_of_ble_eq_true rfl) (Nat.le_of_ble_eq_true rfl) (by omega) (by omega) ?_
  refine tv_istore (L' := [_, _, _, _, _, _, _, _, _]) (hn := by decide) (hlt := (Nat.le_of_ble_eq_true rfl)) (hno := rfl) C dk_L_law_1400 rfl ?_
  refine tv_aload_n C dk_L_law_1402 rfl ?_
  refine tv_cV1 C dk_L_law_1403 ml_RL_152 yk_X9_thrown yi_X9_thrown (m_X9_thrown _ ((f_X9_remainingDelay ((f_L_remainingDelay M (xs (i + 1))).2) (xs (i + 1))).2)) (Nat.le_of_ble_eq_true rfl) rfl rfl rfl rfl (Nat.le_of_ble_eq_true rfl) (Nat.le_of_ble_eq_true rfl) (Nat.le_of_ble_eq_true rfl) (by omega) (by omega) ?_
  refine tv_iload C dk_L_law_1406 rfl ?_
  refine tv_icmp_eq C dk_L_law_1408 (fun _ => ?_) (fun h => tv_no (h q2))
  refine tv_iload C dk_L_law_1413 rfl ?_
  refine tv_if_ne C dk_L_law_1415 (fun _ => ?_) (fun h1 => ?_)
  · refine tv_goto C dk_L_law_1430 ?_
    refine tv_widen (k' := k + 2) (sl' := sl + 12) (by omega) (by omega) ?_
    exact tv_drop (L2 := [some (.ref b), some (.ref (E.G.2.1 + 0)), some (.ref (E.G.2.1 + 249)), some (.ref (E.G.2.1 + 257)), some (.ref (E.G.2.1 + 258)), some (.int (nI i)), none, none, none]) (by simp [tvSubL]) kk
  refine tv_aload_n C dk_L_law_1418 rfl ?_
  refine tv_iconst (v := 0) C dk_L_law_1419 (by decide) ?_
  refine tv_lald (j := 0) rfl C dk_L_law_1420 (Nat.le_of_ble_eq_true rfl) rfl (vp_in_nI (n := 0) (by decide) (by decide)) ?_
  refine tv_iload C dk_L_law_1421 rfl ?_
  refine tv_i2l C dk_L_law_1423 ?_
  refine tv_lcmp C dk_L_law_1424 ?_
  refine tv_if_eq C dk_L_law_1425 (fun _ => ?_) (fun h => tv_no (h (q3 h1)))
  refine tv_goto C dk_L_law_1430 ?_
  refine tv_widen (k' := k + 2) (sl' := sl + 12) (by omega) (by omega) ?_
  exact tv_drop (L2 := [some (.ref b), some (.ref (E.G.2.1 + 0)), some (.ref (E.G.2.1 + 249)), some (.ref (E.G.2.1 + 257)), some (.ref (E.G.2.1 + 258)), some (.int (nI i)), none, none, none]) (by simp [tvSubL]) kk
/-- case 23 -/
def lq_23 (M : tvM) (a1 a2 a3 : Int32) : Prop := (q_L_minutesUntilOpen M a1) ∧ (q_X9_minutesUntilOpen ((f_L_minutesUntilOpen M a1).2) a1) ∧ ((f_X9_thrown ((f_X9_minutesUntilOpen ((f_L_minutesUntilOpen M a1).2) a1).2)) = (f_L_minutesUntilOpen M a1).1) ∧ ((f_L_minutesUntilOpen M a1).1 = 0 → (lg_cmp (tgl ((f_X9_minutesUntilOpen ((f_L_minutesUntilOpen M a1).2) a1).2) 257 0) (((f_X9_minutesUntilOpen ((f_L_minutesUntilOpen M a1).2) a1).1).toInt64)) = 0) ∧ True
def lm_23 (M : tvM) (a1 a2 a3 : Int32) : tvM := (f_X9_minutesUntilOpen ((f_L_minutesUntilOpen M a1).2) a1).2
theorem w_law_23 {E : tvE} {b Ln i k sl : Nat} {xs : Nat → Int32} (C : tvC E RL cL_law 9 (some .boolean) 1000 100000 1000000 []) (hN : tvNcE E.s) (hX : tvScr E b Ln xs) (hi : i + 4 ≤ Ln) (hk : k + 2 ≤ 100000) (hs : sl + 12 ≤ 1000000) (M : tvM) (hq : lq_23 M (xs (i + 1)) (xs (i + 2)) (xs (i + 3))) (kk : tv_W E tvP0 (k + 2) (sl + 12) (lm_23 M (xs (i + 1)) (xs (i + 2)) (xs (i + 3))) 2545 [some (.ref b), some (.ref (E.G.2.1 + 0)), some (.ref (E.G.2.1 + 249)), some (.ref (E.G.2.1 + 257)), some (.ref (E.G.2.1 + 258)), some (.int (nI i)), none, none, none] []) : tv_W E tvP0 k sl M 1433 [some (.ref b), some (.ref (E.G.2.1 + 0)), some (.ref (E.G.2.1 + 249)), some (.ref (E.G.2.1 + 257)), some (.ref (E.G.2.1 + 258)), some (.int (nI i)), none, none, none] [] := by
  have hk0 : k ≤ 100000 := by omega
  have hs0 : sl ≤ 1000000 := by omega
  obtain ⟨q0, q1, q2, q3, -⟩ := hq
  refine tv_aload_n C dk_L_law_1433 rfl ?_
  refine tv_aload_n C dk_L_law_1434 rfl ?_
  refine tv_iload C dk_L_law_1435 rfl ?_
  refine tv_iconst (v := 1) C dk_L_law_1437 (by decide) ?_
  refine tv_iadd C dk_L_law_1438 ?_
  refine tv_sld (j := i + 1) (tvl_1 hi hX.2.2.2) C hX dk_L_law_1439 (tvli_1 hi hX.2.2.2) ?_
  refine tv_aload_n C dk_L_law_1440 rfl ?_
  refine tv_callSW C hN dk_L_law_1441 ml_RL_228 yw_L_minutesUntilOpen yi_L_minutesUntilOpen (m_L_minutesUntilOpen _ M (xs (i + 1)) q0) rfl rfl (Nat.le_of_ble_eq_true rfl) (Nat.le_of_ble_eq_true rfl) (Nat.le_of_ble_eq_true rfl) (by omega) (by omega) rfl rfl rfl ?_
  refine tv_istore (L' := [_, _, _, _, _, _, _, _, _]) (hn := by decide) (hlt := (Nat.le_of_ble_eq_true rfl)) (hno := rfl) C dk_L_law_1444 rfl ?_
  refine tv_aload_n C dk_L_law_1446 rfl ?_
  refine tv_aload_n C dk_L_law_1447 rfl ?_
  refine tv_iload C dk_L_law_1448 rfl ?_
  refine tv_iconst (v := 1) C dk_L_law_1450 (by decide) ?_
  refine tv_iadd C dk_L_law_1451 ?_
  refine tv_sld (j := i + 1) (tvl_1 hi hX.2.2.2) C hX dk_L_law_1452 (tvli_1 hi hX.2.2.2) ?_
  refine tv_cV1 C dk_L_law_1453 ml_RL_230 yk_X9_minutesUntilOpen yi_X9_minutesUntilOpen (n_X9_minutesUntilOpen _ ((f_L_minutesUntilOpen M (xs (i + 1))).2) (xs (i + 1)) q1) (Nat.le_of_ble_eq_true rfl) rfl rfl rfl rfl (Nat.le_of_ble_eq_true rfl) (Nat.le_of_ble_eq_true rfl) (Nat.le_of_ble_eq_true rfl) (by omega) (by omega) ?_
  refine tv_istore (L' := [_, _, _, _, _, _, _, _, _]) (hn := by decide) (hlt := (Nat.le_of_ble_eq_true rfl)) (hno := rfl) C dk_L_law_1456 rfl ?_
  refine tv_aload_n C dk_L_law_1458 rfl ?_
  refine tv_cV1 C dk_L_law_1459 ml_RL_152 yk_X9_thrown yi_X9_thrown (m_X9_thrown _ ((f_X9_minutesUntilOpen ((f_L_minutesUntilOpen M (xs (i + 1))).2) (xs (i + 1))).2)) (Nat.le_of_ble_eq_true rfl) rfl rfl rfl rfl (Nat.le_of_ble_eq_true rfl) (Nat.le_of_ble_eq_true rfl) (Nat.le_of_ble_eq_true rfl) (by omega) (by omega) ?_
  refine tv_iload C dk_L_law_1462 rfl ?_
  refine tv_icmp_eq C dk_L_law_1464 (fun _ => ?_) (fun h => tv_no (h q2))
  refine tv_iload C dk_L_law_1469 rfl ?_
  refine tv_if_ne C dk_L_law_1471 (fun _ => ?_) (fun h1 => ?_)
  · refine tv_goto C dk_L_law_1486 ?_
    refine tv_widen (k' := k + 2) (sl' := sl + 12) (by omega) (by omega) ?_
    exact tv_drop (L2 := [some (.ref b), some (.ref (E.G.2.1 + 0)), some (.ref (E.G.2.1 + 249)), some (.ref (E.G.2.1 + 257)), some (.ref (E.G.2.1 + 258)), some (.int (nI i)), none, none, none]) (by simp [tvSubL]) kk
  refine tv_aload_n C dk_L_law_1474 rfl ?_
  refine tv_iconst (v := 0) C dk_L_law_1475 (by decide) ?_
  refine tv_lald (j := 0) rfl C dk_L_law_1476 (Nat.le_of_ble_eq_true rfl) rfl (vp_in_nI (n := 0) (by decide) (by decide)) ?_
  refine tv_iload C dk_L_law_1477 rfl ?_
  refine tv_i2l C dk_L_law_1479 ?_
  refine tv_lcmp C dk_L_law_1480 ?_
  refine tv_if_eq C dk_L_law_1481 (fun _ => ?_) (fun h => tv_no (h (q3 h1)))
  refine tv_goto C dk_L_law_1486 ?_
  refine tv_widen (k' := k + 2) (sl' := sl + 12) (by omega) (by omega) ?_
  exact tv_drop (L2 := [some (.ref b), some (.ref (E.G.2.1 + 0)), some (.ref (E.G.2.1 + 249)), some (.ref (E.G.2.1 + 257)), some (.ref (E.G.2.1 + 258)), some (.int (nI i)), none, none, none]) (by simp [tvSubL]) kk
