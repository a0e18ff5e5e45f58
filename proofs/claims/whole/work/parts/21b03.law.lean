/-- case 36 -/
def lq_36 (M : tvM) (a1 a2 a3 : Int32) : Prop := (q_X9_isConsistent ((f_X8_isConsistent M).2)) ∧ ((f_X8_isConsistent M).1 = (f_X9_isConsistent ((f_X8_isConsistent M).2)).1) ∧ True
def lm_36 (M : tvM) (a1 a2 a3 : Int32) : tvM := (f_X9_isConsistent ((f_X8_isConsistent M).2)).2
theorem w_law_36 {E : tvE} {b Ln i k sl : Nat} {xs : Nat → Int32} (C : tvC E RL cL_law 9 (some .boolean) 1000 100000 1000000 []) (hN : tvNcE E.s) (hX : tvScr E b Ln xs) (hi : i + 4 ≤ Ln) (hk : k + 2 ≤ 100000) (hs : sl + 12 ≤ 1000000) (M : tvM) (hq : lq_36 M (xs (i + 1)) (xs (i + 2)) (xs (i + 3))) (kk : tv_W E tvP0 (k + 2) (sl + 12) (lm_36 M (xs (i + 1)) (xs (i + 2)) (xs (i + 3))) 2545 [some (.ref b), some (.ref (E.G.2.1 + 0)), some (.ref (E.G.2.1 + 249)), some (.ref (E.G.2.1 + 257)), some (.ref (E.G.2.1 + 258)), some (.int (nI i)), none, none, none] []) : tv_W E tvP0 k sl M 2065 [some (.ref b), some (.ref (E.G.2.1 + 0)), some (.ref (E.G.2.1 + 249)), some (.ref (E.G.2.1 + 257)), some (.ref (E.G.2.1 + 258)), some (.int (nI i)), none, none, none] [] := by
  have hk0 : k ≤ 100000 := by omega
  have hs0 : sl ≤ 1000000 := by omega
  obtain ⟨q0, q1, -⟩ := hq
  refine tv_aload_n C dk_L_law_2065 rfl ?_
  refine tv_cV1 C dk_L_law_2066 ml_RL_272 yk_X8_isConsistent yi_X8_isConsistent (m_X8_isConsistent _ M) (Nat.le_of_ble_eq_true rfl) rfl rfl rfl rfl (Nat.le_of_ble_eq_true rfl) (Nat.le_of_ble_eq_true rfl) (Nat.le_of_ble_eq_true rfl) (by omega) (by omega) ?_
  refine tv_aload_n C dk_L_law_2069 rfl ?_
  refine tv_cV1 C dk_L_law_2070 ml_RL_275 yk_X9_isConsistent yi_X9_isConsistent (m_X9_isConsistent _ ((f_X8_isConsistent M).2) q0) (Nat.le_of_ble_eq_true rfl) rfl rfl rfl rfl (Nat.le_of_ble_eq_true rfl) (Nat.le_of_ble_eq_true rfl) (Nat.le_of_ble_eq_true rfl) (by omega) (by omega) ?_
  refine tv_icmp_eq C dk_L_law_2073 (fun _ => ?_) (fun h => tv_no (h q1))
  refine tv_widen (k' := k + 2) (sl' := sl + 12) (by omega) (by omega) ?_
  exact tv_drop (L2 := [some (.ref b), some (.ref (E.G.2.1 + 0)), some (.ref (E.G.2.1 + 249)), some (.ref (E.G.2.1 + 257)), some (.ref (E.G.2.1 + 258)), some (.int (nI i)), none, none, none]) (by simp [tvSubL]) kk
/-- case 37 -/
def lq_37 (M : tvM) (a1 a2 a3 : Int32) : Prop := (q_L_writeBox M a1) ∧ (q_X9_writeBox ((f_L_writeBox M a1).2) a1) ∧ ((f_X9_thrown ((f_X9_writeBox ((f_L_writeBox M a1).2) a1).2)) = (f_L_writeBox M a1).1) ∧ ((f_L_writeBox M a1).1 = 0 → (lg_cmp (tgl ((f_X9_writeBox ((f_L_writeBox M a1).2) a1).2) 257 0) (((f_X9_writeBox ((f_L_writeBox M a1).2) a1).1).toInt64)) = 0) ∧ True
def lm_37 (M : tvM) (a1 a2 a3 : Int32) : tvM := (f_X9_writeBox ((f_L_writeBox M a1).2) a1).2
theorem w_law_37 {E : tvE} {b Ln i k sl : Nat} {xs : Nat → Int32} (C : tvC E RL cL_law 9 (some .boolean) 1000 100000 1000000 []) (hN : tvNcE E.s) (hX : tvScr E b Ln xs) (hi : i + 4 ≤ Ln) (hk : k + 2 ≤ 100000) (hs : sl + 12 ≤ 1000000) (M : tvM) (hq : lq_37 M (xs (i + 1)) (xs (i + 2)) (xs (i + 3))) (kk : tv_W E tvP0 (k + 2) (sl + 12) (lm_37 M (xs (i + 1)) (xs (i + 2)) (xs (i + 3))) 2545 [some (.ref b), some (.ref (E.G.2.1 + 0)), some (.ref (E.G.2.1 + 249)), some (.ref (E.G.2.1 + 257)), some (.ref (E.G.2.1 + 258)), some (.int (nI i)), none, none, none] []) : tv_W E tvP0 k sl M 2078 [some (.ref b), some (.ref (E.G.2.1 + 0)), some (.ref (E.G.2.1 + 249)), some (.ref (E.G.2.1 + 257)), some (.ref (E.G.2.1 + 258)), some (.int (nI i)), none, none, none] [] := by
  have hk0 : k ≤ 100000 := by omega
  have hs0 : sl ≤ 1000000 := by omega
  obtain ⟨q0, q1, q2, q3, -⟩ := hq
  refine tv_aload_n C dk_L_law_2078 rfl ?_
  refine tv_aload_n C dk_L_law_2079 rfl ?_
  refine tv_iload C dk_L_law_2080 rfl ?_
  refine tv_iconst (v := 1) C dk_L_law_2082 (by decide) ?_
  refine tv_iadd C dk_L_law_2083 ?_
  refine tv_sld (j := i + 1) (tvl_1 hi hX.2.2.2) C hX dk_L_law_2084 (tvli_1 hi hX.2.2.2) ?_
  refine tv_aload_n C dk_L_law_2085 rfl ?_
  refine tv_callSW C hN dk_L_law_2086 ml_RL_276 yw_L_writeBox yi_L_writeBox (m_L_writeBox _ M (xs (i + 1)) q0) rfl rfl (Nat.le_of_ble_eq_true rfl) (Nat.le_of_ble_eq_true rfl) (Nat.le_of_ble_eq_true rfl) (by omega) (by omega) rfl rfl rfl ?_
  refine tv_istore (L' := [_, _, _, _, _, _, _, _, _]) (hn := by decide) (hlt := (Nat.le_of_ble_eq_true rfl)) (hno := rfl) C dk_L_law_2089 rfl ?_
  refine tv_aload_n C dk_L_law_2091 rfl ?_
  refine tv_aload_n C dk_L_law_2092 rfl ?_
  refine tv_iload C dk_L_law_2093 rfl ?_
  refine tv_iconst (v := 1) C dk_L_law_2095 (by decide) ?_
  refine tv_iadd C dk_L_law_2096 ?_
  refine tv_sld (j := i + 1) (tvl_1 hi hX.2.2.2) C hX dk_L_law_2097 (tvli_1 hi hX.2.2.2) ?_
  refine tv_cV1 C dk_L_law_2098 ml_RL_278 yk_X9_writeBox yi_X9_writeBox (n_X9_writeBox _ ((f_L_writeBox M (xs (i + 1))).2) (xs (i + 1)) q1) (Nat.le_of_ble_eq_true rfl) rfl rfl rfl rfl (Nat.le_of_ble_eq_true rfl) (Nat.le_of_ble_eq_true rfl) (Nat.le_of_ble_eq_true rfl) (by omega) (by omega) ?_
  refine tv_istore (L' := [_, _, _, _, _, _, _, _, _]) (hn := by decide) (hlt := (Nat.le_of_ble_eq_true rfl)) (hno := rfl) C dk_L_law_2101 rfl ?_
  refine tv_aload_n C dk_L_law_2103 rfl ?_
  refine tv_cV1 C dk_L_law_2104 ml_RL_152 yk_X9_thrown yi_X9_thrown (m_X9_thrown _ ((f_X9_writeBox ((f_L_writeBox M (xs (i + 1))).2) (xs (i + 1))).2)) (Nat.le_of_ble_eq_true rfl) rfl rfl rfl rfl (Nat.le_of_ble_eq_true rfl) (Nat.le_of_ble_eq_true rfl) (Nat.le_of_ble_eq_true rfl) (by omega) (by omega) ?_
  refine tv_iload C dk_L_law_2107 rfl ?_
  refine tv_icmp_eq C dk_L_law_2109 (fun _ => ?_) (fun h => tv_no (h q2))
  refine tv_iload C dk_L_law_2114 rfl ?_
  refine tv_if_ne C dk_L_law_2116 (fun _ => ?_) (fun h1 => ?_)
  · refine tv_goto C dk_L_law_2131 ?_
    refine tv_widen (k' := k + 2) (sl' := sl + 12) (by omega) (by omega) ?_
    exact tv_drop (L2 := [some (.ref b), some (.ref (E.G.2.1 + 0)), some (.ref (E.G.2.1 + 249)), some (.ref (E.G.2.1 + 257)), some (.ref (E.G.2.1 + 258)), some (.int (nI i)), none, none, none]) (by simp [tvSubL]) kk
  refine tv_aload_n C dk_L_law_2119 rfl ?_
  refine tv_iconst (v := 0) C dk_L_law_2120 (by decide) ?_
  refine tv_lald (j := 0) rfl C dk_L_law_2121 (Nat.le_of_ble_eq_true rfl) rfl (vp_in_nI (n := 0) (by decide) (by decide)) ?_
  refine tv_iload C dk_L_law_2122 rfl ?_
  refine tv_i2l C dk_L_law_2124 ?_
  refine tv_lcmp C dk_L_law_2125 ?_
  refine tv_if_eq C dk_L_law_2126 (fun _ => ?_) (fun h => tv_no (h (q3 h1)))
  refine tv_goto C dk_L_law_2131 ?_
  refine tv_widen (k' := k + 2) (sl' := sl + 12) (by omega) (by omega) ?_
  exact tv_drop (L2 := [some (.ref b), some (.ref (E.G.2.1 + 0)), some (.ref (E.G.2.1 + 249)), some (.ref (E.G.2.1 + 257)), some (.ref (E.G.2.1 + 258)), some (.int (nI i)), none, none, none]) (by simp [tvSubL]) kk
/-- case 38 -/
def lq_38 (M : tvM) (a1 a2 a3 : Int32) : Prop := (q_X9_writeEvents ((f_X8_writeEvents M).2)) ∧ ((f_X8_writeEvents M).1 = (f_X9_writeEvents ((f_X8_writeEvents M).2)).1) ∧ True
def lm_38 (M : tvM) (a1 a2 a3 : Int32) : tvM := (f_X9_writeEvents ((f_X8_writeEvents M).2)).2
theorem w_law_38 {E : tvE} {b Ln i k sl : Nat} {xs : Nat → Int32} (C : tvC E RL cL_law 9 (some .boolean) 1000 100000 1000000 []) (hN : tvNcE E.s) (hX : tvScr E b Ln xs) (hi : i + 4 ≤ Ln) (hk : k + 2 ≤ 100000) (hs : sl + 12 ≤ 1000000) (M : tvM) (hq : lq_38 M (xs (i + 1)) (xs (i + 2)) (xs (i + 3))) (kk : tv_W E tvP0 (k + 2) (sl + 12) (lm_38 M (xs (i + 1)) (xs (i + 2)) (xs (i + 3))) 2545 [some (.ref b), some (.ref (E.G.2.1 + 0)), some (.ref (E.G.2.1 + 249)), some (.ref (E.G.2.1 + 257)), some (.ref (E.G.2.1 + 258)), some (.int (nI i)), none, none, none] []) : tv_W E tvP0 k sl M 2134 [some (.ref b), some (.ref (E.G.2.1 + 0)), some (.ref (E.G.2.1 + 249)), some (.ref (E.G.2.1 + 257)), some (.ref (E.G.2.1 + 258)), some (.int (nI i)), none, none, none] [] := by
  have hk0 : k ≤ 100000 := by omega
  have hs0 : sl ≤ 1000000 := by omega
  obtain ⟨q0, q1, -⟩ := hq
  refine tv_aload_n C dk_L_law_2134 rfl ?_
  refine tv_cV1 C dk_L_law_2135 ml_RL_279 yk_X8_writeEvents yi_X8_writeEvents (n_X8_writeEvents _ M) (Nat.le_of_ble_eq_true rfl) rfl rfl rfl rfl (Nat.le_of_ble_eq_true rfl) (Nat.le_of_ble_eq_true rfl) (Nat.le_of_ble_eq_true rfl) (by omega) (by omega) ?_
  refine tv_aload_n C dk_L_law_2138 rfl ?_
  refine tv_cV1 C dk_L_law_2139 ml_RL_282 yk_X9_writeEvents yi_X9_writeEvents (n_X9_writeEvents _ ((f_X8_writeEvents M).2) q0) (Nat.le_of_ble_eq_true rfl) rfl rfl rfl rfl (Nat.le_of_ble_eq_true rfl) (Nat.le_of_ble_eq_true rfl) (Nat.le_of_ble_eq_true rfl) (by omega) (by omega) ?_
  refine tv_icmp_eq C dk_L_law_2142 (fun _ => ?_) (fun h => tv_no (h q1))
  refine tv_widen (k' := k + 2) (sl' := sl + 12) (by omega) (by omega) ?_
  exact tv_drop (L2 := [some (.ref b), some (.ref (E.G.2.1 + 0)), some (.ref (E.G.2.1 + 249)), some (.ref (E.G.2.1 + 257)), some (.ref (E.G.2.1 + 258)), some (.int (nI i)), none, none, none]) (by simp [tvSubL]) kk
/-- case 39 -/
def lq_39 (M : tvM) (a1 a2 a3 : Int32) : Prop := (q_L_charAt M a1) ∧ (q_X9_charAt ((f_L_charAt M a1).2) a1) ∧ ((f_X9_thrown ((f_X9_charAt ((f_L_charAt M a1).2) a1).2)) = (f_L_charAt M a1).1) ∧ ((f_L_charAt M a1).1 = 0 → (lg_cmp (tgl ((f_X9_charAt ((f_L_charAt M a1).2) a1).2) 257 0) (((f_X9_charAt ((f_L_charAt M a1).2) a1).1).toInt64)) = 0) ∧ True
def lm_39 (M : tvM) (a1 a2 a3 : Int32) : tvM := (f_X9_charAt ((f_L_charAt M a1).2) a1).2
theorem w_law_39 {E : tvE} {b Ln i k sl : Nat} {xs : Nat → Int32} (C : tvC E RL cL_law 9 (some .boolean) 1000 100000 1000000 []) (hN : tvNcE E.s) (hX : tvScr E b Ln xs) (hi : i + 4 ≤ Ln) (hk : k + 2 ≤ 100000) (hs : sl + 12 ≤ 1000000) (M : tvM) (hq : lq_39 M (xs (i + 1)) (xs (i + 2)) (xs (i + 3))) (kk : tv_W E tvP0 (k + 2) (sl + 12) (lm_39 M (xs (i + 1)) (xs (i + 2)) (xs (i + 3))) 2545 [some (.ref b), some (.ref (E.G.2.1 + 0)), some (.ref (E.G.2.1 + 249)), some (.ref (E.G.2.1 + 257)), some (.ref (E.G.2.1 + 258)), some (.int (nI i)), none, none, none] []) : tv_W E tvP0 k sl M 2147 [some (.ref b), some (.ref (E.G.2.1 + 0)), some (.ref (E.G.2.1 + 249)), some (.ref (E.G.2.1 + 257)), some (.ref (E.G.2.1 + 258)), some (.int (nI i)), none, none, none] [] := by
  have hk0 : k ≤ 100000 := by omega
  have hs0 : sl ≤ 1000000 := by omega
  obtain ⟨q0, q1, q2, q3, -⟩ := hq
  refine tv_aload_n C dk_L_law_2147 rfl ?_
  refine tv_aload_n C dk_L_law_2148 rfl ?_
  refine tv_iload C dk_L_law_2149 rfl ?_
  refine tv_iconst (v := 1) C dk_L_law_2151 (by decide) ?_
  refine tv_iadd C dk_L_law_2152 ?_
  refine tv_sld (j := i + 1) (tvl_1 hi hX.2.2.2) C hX dk_L_law_2153 (tvli_1 hi hX.2.2.2) ?_
  refine tv_aload_n C dk_L_law_2154 rfl ?_
  refine tv_callSW C hN dk_L_law_2155 ml_RL_283 yw_L_charAt yi_L_charAt (m_L_charAt _ M (xs (i + 1)) q0) rfl rfl (Nat.le_of_ble_eq_true rfl) (Nat.le_of_ble_eq_true rfl) (Nat.le_of_ble_eq_true rfl) (by omega) (by omega) rfl rfl rfl ?_
  refine tv_istore (L' := [_, _, _, _, _, _, _, _, _]) (hn := by decide) (hlt := (Nat.le_of_ble_eq_true rfl)) (hno := rfl) C dk_L_law_2158 rfl ?_
  refine tv_aload_n C dk_L_law_2160 rfl ?_
  refine tv_aload_n C dk_L_law_2161 rfl ?_
  refine tv_iload C dk_L_law_2162 rfl ?_
  refine tv_iconst (v := 1) C dk_L_law_2164 (by decide) ?_
  refine tv_iadd C dk_L_law_2165 ?_
  refine tv_sld (j := i + 1) (tvl_1 hi hX.2.2.2) C hX dk_L_law_2166 (tvli_1 hi hX.2.2.2) ?_
  refine tv_cV1 C dk_L_law_2167 ml_RL_285 yk_X9_charAt yi_X9_charAt (m_X9_charAt _ ((f_L_charAt M (xs (i + 1))).2) (xs (i + 1)) q1) (Nat.le_of_ble_eq_true rfl) rfl rfl rfl rfl (Nat.le_of_ble_eq_true rfl) (Nat.le_of_ble_eq_true rfl) (Nat.le_of_ble_eq_true rfl) (by omega) (by omega) ?_
  refine tv_istore (L' := [_, _, _, _, _, _, _, _, _]) (hn := by decide) (hlt := (Nat.le_of_ble_eq_true rfl)) (hno := rfl) C dk_L_law_2170 rfl ?_
  refine tv_aload_n C dk_L_law_2172 rfl ?_
  refine tv_cV1 C dk_L_law_2173 ml_RL_152 yk_X9_thrown yi_X9_thrown (m_X9_thrown _ ((f_X9_charAt ((f_L_charAt M (xs (i + 1))).2) (xs (i + 1))).2)) (Nat.le_of_ble_eq_true rfl) rfl rfl rfl rfl (Nat.le_of_ble_eq_true rfl) (Nat.le_of_ble_eq_true rfl) (Nat.le_of_ble_eq_true rfl) (by omega) (by omega) ?_
  refine tv_iload C dk_L_law_2176 rfl ?_
  refine tv_icmp_eq C dk_L_law_2178 (fun _ => ?_) (fun h => tv_no (h q2))
  refine tv_iload C dk_L_law_2183 rfl ?_
  refine tv_if_ne C dk_L_law_2185 (fun _ => ?_) (fun h1 => ?_)
  · refine tv_goto C dk_L_law_2200 ?_
    refine tv_widen (k' := k + 2) (sl' := sl + 12) (by omega) (by omega) ?_
    exact tv_drop (L2 := [some (.ref b), some (.ref (E.G.2.1 + 0)), some (.ref (E.G.2.1 + 249)), some (.ref (E.G.2.1 + 257)), some (.ref (E.G.2.1 + 258)), some (.int (nI i)), none, none, none]) (by simp [tvSubL]) kk
  refine tv_aload_n C dk_L_law_2188 rfl ?_
  refine tv_iconst (v := 0) C dk_L_law_2189 (by decide) ?_
  refine tv_lald (j := 0) rfl C dk_L_law_2190 (Nat.le_of_ble_eq_true rfl) rfl (vp_in_nI (n := 0) (by decide) (by decide)) ?_
  refine tv_iload C dk_L_law_2191 rfl ?_
  refine tv_i2l C dk_L_law_2193 ?_
  refine tv_lcmp C dk_L_law_2194 ?_
  refine tv_if_eq C dk_L_law_2195 (fun _ => ?_) (fun h => tv_no (h (q3 h1)))
  refine tv_goto C dk_L_law_2200 ?_
  refine tv_widen (k' := k + 2) (sl' := sl + 12) (by omega) (by omega) ?_
  exact tv_drop (L2 := [some (.ref b), some (.ref (E.G.2.1 + 0)), some (.ref (E.G.2.1 + 249)), some (.ref (E.G.2.1 + 257)), some (.ref (E.G.2.1 + 258)), some (.int (nI i)), none, none, none]) (by simp [tvSubL]) kk
/-- case 40 -/
def lq_40 (M : tvM) (a1 a2 a3 : Int32) : Prop := (q_L_type M ((a1.toUInt32 % 65536).toInt32)) ∧ (q_X9_type ((f_L_type M ((a1.toUInt32 % 65536).toInt32)).2) ((a1.toUInt32 % 65536).toInt32)) ∧ ((f_X9_thrown ((f_X9_type ((f_L_type M ((a1.toUInt32 % 65536).toInt32)).2) ((a1.toUInt32 % 65536).toInt32)).2)) = (f_L_type M ((a1.toUInt32 % 65536).toInt32)).1) ∧ ((f_L_type M ((a1.toUInt32 % 65536).toInt32)).1 = 0 → (lg_cmp (tgl ((f_X9_type ((f_L_type M ((a1.toUInt32 % 65536).toInt32)).2) ((a1.toUInt32 % 65536).toInt32)).2) 257 0) (((f_X9_type ((f_L_type M ((a1.toUInt32 % 65536).toInt32)).2) ((a1.toUInt32 % 65536).toInt32)).1).toInt64)) = 0) ∧ True
def lm_40 (M : tvM) (a1 a2 a3 : Int32) : tvM := (f_X9_type ((f_L_type M ((a1.toUInt32 % 65536).toInt32)).2) ((a1.toUInt32 % 65536).toInt32)).2
theorem w_law_40 {E : tvE} {b Ln i k sl : Nat} {xs : Nat → Int32} (C : tvC E RL cL_law 9 (some .boolean) 1000 100000 1000000 []) (hN : tvNcE E.s) (hX : tvScr E b Ln xs) (hi : i + 4 ≤ Ln) (hk : k + 2 ≤ 100000) (hs : sl + 12 ≤ 1000000) (M : tvM) (hq : lq_40 M (xs (i + 1)) (xs (i + 2)) (xs (i + 3))) (kk : tv_W E tvP0 (k + 2) (sl + 12) (lm_40 M (xs (i + 1)) (xs (i + 2)) (xs (i + 3))) 2545 [some (.ref b), some (.ref (E.G.2.1 + 0)), some (.ref (E.G.2.1 + 249)), some (.ref (E.G.2.1 + 257)), some (.ref (E.G.2.1 + 258)), some (.int (nI i)), none, none, none] []) : tv_W E tvP0 k sl M 2203 [some (.ref b), some (.ref (E.G.2.1 + 0)), some (.ref (E.G.2.1 + 249)), some (.ref (E.G.2.1 + 257)), some (.ref (E.G.2.1 + 258)), some (.int (nI i)), none, none, none] [] := by
  have hk0 : k ≤ 100000 := by omega
  have hs0 : sl ≤ 1000000 := by omega
  obtain ⟨q0, q1, q2, q3, -⟩ := hq
  refine tv_aload_n C dk_L_law_2203 rfl ?_
  refine tv_aload_n C dk_L_law_2204 rfl ?_
  refine tv_iload C dk_L_law_2205 rfl ?_
  refine tv_iconst (v := 1) C dk_L_law_2207 (by decide) ?_
  refine tv_iadd C dk_L_law_2208 ?_
  refine tv_sld (j := i + 1) (tvl_1 hi hX.2.2.2) C hX dk_L_law_2209 (tvli_1 hi hX.2.2.2) ?_
  refine tv_i2c C dk_L_law_2210 ?_
  refine tv_aload_n C dk_L_law_2211 rfl ?_
  refine tv_callSW C hN dk_L_law_2212 ml_RL_286 yw_L_type yi_L_type (m_L_type _ M (((xs (i + 1)).toUInt32 % 65536).toInt32) q0) rfl rfl (Nat.le_of_ble_eq_true rfl) (Nat.le_of_ble_eq_true rfl) (Nat.le_of_ble_eq_true rfl) (by omega) (by omega) rfl rfl rfl ?_
  refine tv_istore (L' := [_, _, _, _, _, _, _, _, _]) (hn := by decide) (hlt := (Nat.le_of_ble_eq_true rfl)) (hno := rfl) C dk_L_law_2215 rfl ?_
  refine tv_aload_n C dk_L_law_2217 rfl ?_
  refine tv_aload_n C dk_L_law_2218 rfl ?_
  refine tv_iload C dk_L_law_2219 rfl ?_
  refine tv_iconst (v := 1) C dk_L_law_2221 (by decide) ?_
  refine tv_iadd C dk_L_law_2222 ?_
  refine tv_sld (j := i + 1) (tvl_1 hi hX.2.2.2) C hX dk_L_law_2223 (tvli_1 hi hX.2.2.2) ?_
  refine tv_i2c C dk_L_law_2224 ?_
  refine tv_cV1 C dk_L_law_2225 ml_RL_289 yk_X9_type yi_X9_type (m_X9_type _ ((f_L_type M (((xs (i + 1)).toUInt32 % 65536).toInt32)).2) (((xs (i + 1)).toUInt32 % 65536).toInt32) q1) (Nat.le_of_ble_eq_true rfl) rfl rfl rfl rfl (Nat.le_of_ble_eq_true rfl) (Nat.le_of_ble_eq_true rfl) (Nat.le_of_ble_eq_true rfl) (by omega) (by omega) ?_
  refine tv_istore (L' := [_, _, _, _, _, _, _, _, _]) (hn := by decide) (hlt := (Nat.le_of_ble_eq_true rfl)) (hno := rfl) C dk_L_law_2228 rfl ?_
  refine tv_aload_n C dk_L_law_2230 rfl ?_
  refine tv_cV1 C dk_L_law_2231 ml_RL_152 yk_X9_thrown yi_X9_thrown (m_X9_thrown _ ((f_X9_type ((f_L_type M (((xs (i + 1)).toUInt32 % 65536).toInt32)).2) (((xs (i + 1)).toUInt32 % 65536).toInt32)).2)) (Nat.le_of_ble_eq_true rfl) rfl rfl rfl rfl (Nat.le_of_ble_eq_true rfl) (Nat.le_of_ble_eq_true rfl) (Nat.le_of_ble_eq_true rfl) (by omega) (by omega) ?_
  refine tv_iload C dk_L_law_2234 rfl ?_
  refine tv_icmp_eq C dk_L_law_2236 (fun _ => ?_) (fun h => tv_no (h q2))
  refine tv_iload C dk_L_law_2241 rfl ?_
  refine tv_if_ne C dk_L_law_2243 (fun _ => ?_) (fun h1 => ?_)
  · refine tv_goto C dk_L_law_2258 ?_
    refine tv_widen (k' := k + 2) (sl' := sl + 12) (by omega) (by omega) ?_
    exact tv_drop (L2 := [some (.ref b), some (.ref (E.G.2.1 + 0)), some (.ref (E.G.2.1 + 249)), some (.ref (E.G.2.1 + 257)), some (.ref (E.G.2.1 + 258)), some (.int (nI i)), none, none, none]) (by simp [tvSubL]) kk
  refine tv_aload_n C dk_L_law_2246 rfl ?_
  refine tv_iconst (v := 0) C dk_L_law_2247 (by decide) ?_
  refine tv_lald (j := 0) rfl C dk_L_law_2248 (Nat.le_of_ble_eq_true rfl) rfl (vp_in_nI (n := 0) (by decide) (by decide)) ?_
  refine tv_iload C dk_L_law_2249 rfl ?_
  refine tv_i2l C dk_L_law_2251 ?_
  refine tv_lcmp C dk_L_law_2252 ?_
  refine tv_if_eq C dk_L_law_2253 (fun _ => ?_) (fun h => tv_no (h (q3 h1)))
  refine tv_goto C dk_L_law_2258 ?_
  refine tv_widen (k' := k + 2) (sl' := sl + 12) (by omega) (by omega) ?_
  exact tv_drop (L2 := [some (.ref b), some (.ref (E.G.2.1 + 0)), some (.ref (E.G.2.1 + 249)), some (.ref (E.G.2.1 + 257)), some (.ref (E.G.2.1 + 258)), some (.int (nI i)), none, none, none]) (by simp [tvSubL]) kk
/-- case 41 -/
def lq_41 (M : tvM) (a1 a2 a3 : Int32) : Prop := (q_L_run M) ∧ (q_X9_run ((f_L_run M).2)) ∧ ((f_X9_thrown ((f_X9_run ((f_L_run M).2)).2)) = (f_L_run M).1) ∧ ((f_L_run M).1 = 0 → (lg_cmp (tgl ((f_X9_run ((f_L_run M).2)).2) 257 0) (((f_X9_run ((f_L_run M).2)).1).toInt64)) = 0) ∧ True
def lm_41 (M : tvM) (a1 a2 a3 : Int32) : tvM := (f_X9_run ((f_L_run M).2)).2
theorem w_law_41 {E : tvE} {b Ln i k sl : Nat} {xs : Nat → Int32} (C : tvC E RL cL_law 9 (some .boolean) 1000 100000 1000000 []) (hN : tvNcE E.s) (hX : tvScr E b Ln xs) (hi : i + 4 ≤ Ln) (hk : k + 2 ≤ 100000) (hs : sl + 12 ≤ 1000000) (M : tvM) (hq : lq_41 M (xs (i + 1)) (xs (i + 2)) (xs (i + 3))) (kk : tv_W E tvP0 (k + 2) (sl + 12) (lm_41 M (xs (i + 1)) (xs (i + 2)) (xs (i + 3))) 2545 [some (.ref b), some (.ref (E.G.2.1 + 0)), some (.ref (E.G.2.1 + 249)), some (.ref (E.G.2.1 + 257)), some (.ref (E.G.2.1 + 258)), some (.int (nI i)), none, none, none] []) : tv_W E tvP0 k sl M 2261 [some (.ref b), some (.ref (E.G.2.1 + 0)), some (.ref (E.G.2.1 + 249)), some (.ref (E.G.2.1 + 257)), some (.ref (E.G.2.1 + 258)), some (.int (nI i)), none, none, none] [] := by
  have hk0 : k ≤ 100000 := by omega
  have hs0 : sl ≤ 1000000 := by omega
  obtain ⟨q0, q1, q2, q3, -⟩ := hq
  refine tv_aload_n C dk_L_law_2261 rfl ?_
  refine tv_aload_n C dk_L_law_2262 rfl ?_
  refine tv_callSW C hN dk_L_law_2263 ml_RL_290 yw_L_run yi_L_run (m_L_run _ M q0) rfl rfl (Nat.le_of_ble_eq_true rfl) (Nat.le_of_ble_eq_true rfl) (Nat.le_of_ble_eq_true rfl) (by omega) (by omega) rfl rfl rfl ?_
  refine tv_istore (L' := [_, _, _, _, _, _, _, _, _]) (hn := by decide) (hlt := (Nat.le_of_ble_eq_true rfl)) (hno := rfl) C dk_L_law_2266 rfl ?_
  refine tv_aload_n C dk_L_law_2268 rfl ?_
  refine tv_cV1 C dk_L_law_2269 ml_RL_293 yk_X9_run yi_X9_run (n_X9_run _ ((f_L_run M).2) q1) (Nat.le_of_ble_eq_true rfl) rfl rfl rfl rfl (Nat.le_of_ble_eq_true rfl) (Nat.le_of_ble_eq_true rfl) (Nat.le_of_ble_eq_true rfl) (by omega) (by omega) ?_
  refine tv_istore (L' := [_, _, _, _, _, _, _, _, _]) (hn := by decide) (hlt := (Nat.le_of_ble_eq_true rfl)) (hno := rfl) C dk_L_law_2272 rfl ?_
  refine tv_aload_n C dk_L_law_2274 rfl ?_
  refine tv_cV1 C dk_L_law_2275 ml_RL_152 yk_X9_thrown yi_X9_thrown (m_X9_thrown _ ((f_X9_run ((f_L_run M).2)).2)) (Nat.le_of_ble_eq_true rfl) rfl rfl rfl rfl (Nat.le_of_ble_eq_true rfl) (Nat.le_of_ble_eq_true rfl) (Nat.le_of_ble_eq_true rfl) (by omega) (by omega) ?_
  refine tv_iload C dk_L_law_2278 rfl ?_
  refine tv_icmp_eq C dk_L_law_2280 (fun _ => ?_) (fun h => tv_no (h q2))
  refine tv_iload C dk_L_law_2285 rfl ?_
  refine tv_if_ne C dk_L_law_2287 (fun _ => ?_) (fun h1 => ?_)
  · refine tv_goto C dk_L_law_2302 ?_
    refine tv_widen (k' := k + 2) (sl' := sl + 12) (by omega) (by omega) ?_
    exact tv_drop (L2 := [some (.ref b), some (.ref (E.G.2.1 + 0)), some (.ref (E.G.2.1 + 249)), some (.ref (E.G.2.1 + 257)), some (.ref (E.G.2.1 + 258)), some (.int (nI i)), none, none, none]) (by simp [tvSubL]) kk
  refine tv_aload_n C dk_L_law_2290 rfl ?_
  refine tv_iconst (v := 0) C dk_L_law_2291 (by decide) ?_
  refine tv_lald (j := 0) rfl C dk_L_law_2292 (Nat.le_of_ble_eq_true rfl) rfl (vp_in_nI (n := 0) (by decide) (by decide)) ?_
  refine tv_iload C dk_L_law_2293 rfl ?_
  refine tv_i2l C dk_L_law_2295 ?_
  refine tv_lcmp C dk_L_law_2296 ?_
  refine tv_if_eq C dk_L_law_2297 (fun _ => ?_) (fun h => tv_no (h (q3 h1)))
  refine tv_goto C dk_L_law_2302 ?_
  refine tv_widen (k' := k + 2) (sl' := sl + 12) (by omega) (by omega) ?_
  exact tv_drop (L2 := [some (.ref b), some (.ref (E.G.2.1 + 0)), some (.ref (E.G.2.1 + 249)), some (.ref (E.G.2.1 + 257)), some (.ref (E.G.2.1 + 258)), some (.int (nI i)), none, none, none]) (by simp [tvSubL]) kk
/-- case 42 -/
def lq_42 (M : tvM) (a1 a2 a3 : Int32) : Prop := (q_L_errorPosition M) ∧ ((f_X9_thrown ((f_X9_errorPosition ((f_L_errorPosition M).2)).2)) = (f_L_errorPosition M).1) ∧ ((f_L_errorPosition M).1 = 0 → (lg_cmp (tgl ((f_X9_errorPosition ((f_L_errorPosition M).2)).2) 257 0) (((f_X9_errorPosition ((f_L_errorPosition M).2)).1).toInt64)) = 0) ∧ True
def lm_42 (M : tvM) (a1 a2 a3 : Int32) : tvM := (f_X9_errorPosition ((f_L_errorPosition M).2)).2
theorem w_law_42 {E : tvE} {b Ln i k sl : Nat} {xs : Nat → Int32} (C : tvC E RL cL_law 9 (some .boolean) 1000 100000 1000000 []) (hN : tvNcE E.s) (hX : tvScr E b Ln xs) (hi : i + 4 ≤ Ln) (hk : k + 2 ≤ 100000) (hs : sl + 12 ≤ 1000000) (M : tvM) (hq : lq_42 M (xs (i + 1)) (xs (i + 2)) (xs (i + 3))) (kk : tv_W E tvP0 (k + 2) (sl + 12) (lm_42 M (xs (i + 1)) (xs (i + 2)) (xs (i + 3))) 2545 [some (.ref b), some (.ref (E.G.2.1 + 0)), some (.ref (E.G.2.1 + 249)), some (.ref (E.G.2.1 + 257)), some (.ref (E.G.2.1 + 258)), some (.int (nI i)), none, none, none] []) : tv_W E tvP0 k sl M 2305 [some (.ref b), some (.ref (E.G.2.1 + 0)), some (.ref (E.G.2.1 + 249)), some (.ref (E.G.2.1 + 257)), some (.ref (E.G.2.1 + 258)), some (.int (nI i)), none, none, none] [] := by
  have hk0 : k ≤ 100000 := by omega
  have hs0 : sl ≤ 1000000 := by omega
  obtain ⟨q0, q1, q2, -⟩ := hq
  refine tv_aload_n C dk_L_law_2305 rfl ?_
  refine tv_aload_n C dk_L_law_2306 rfl ?_
  refine tv_callSW C hN dk_L_law_2307 ml_RL_294 yw_L_errorPosition yi_L_errorPosition (m_L_errorPosition _ M q0) rfl rfl (Nat.le_of_ble_eq_true rfl) (Nat.le_of_ble_eq_true rfl) (Nat.le_of_ble_eq_true rfl) (by omega) (by omega) rfl rfl rfl ?_
  refine tv_istore (L' := [_, _, _, _, _, _, _, _, _]) (hn := by decide) (hlt := (Nat.le_of_ble_eq_true rfl)) (hno := rfl) C dk_L_law_2310 rfl ?_
  refine tv_aload_n C dk_L_law_2312 rfl ?_
  refine tv_cV1 C dk_L_law_2313 ml_RL_296 yk_X9_errorPosition yi_X9_errorPosition (m_X9_errorPosition _ ((f_L_errorPosition M).2)) (Nat.le_of_ble_eq_true rfl) rfl rfl rfl rfl (Nat.le_of_ble_eq_true rfl) (Nat.le_of_ble_eq_true rfl) (Nat.le_of_ble_eq_true rfl) (by omega) (by omega) ?_
  refine tv_istore (L' := [_, _, _, _, _, _, _, _, _]) (hn := by decide) (hlt := (Nat.le_of_ble_eq_true rfl)) (hno := rfl) C dk_L_law_2316 rfl ?_
  refine tv_aload_n C dk_L_law_2318 rfl ?_
  refine tv_cV1 C dk_L_law_2319 ml_RL_152 yk_X9_thrown yi_X9_thrown (m_X9_thrown _ ((f_X9_errorPosition ((f_L_errorPosition M).2)).2)) (Nat.le_of_ble_eq_true rfl) rfl rfl rfl rfl (Nat.le_of_ble_eq_true rfl) (Nat.le_of_ble_eq_true rfl) (Nat.le_of_ble_eq_true rfl) (by omega) (by omega) ?_
  refine tv_iload C dk_L_law_2322 rfl ?_
  refine tv_icmp_eq C dk_L_law_2324 (fun _ => ?_) (fun h => tv_no (h q1))
  refine tv_iload C dk_L_law_2329 rfl ?_
  refine tv_if_ne C dk_L_law_2331 (fun _ => ?_) (fun h1 => ?_)
  · refine tv_goto C dk_L_law_2346 ?_
    refine tv_widen (k' := k + 2) (sl' := sl + 12) (by omega) (by omega) ?_
    exact tv_drop (L2 := [some (.ref b), some (.ref (E.G.2.1 + 0)), some (.ref (E.G.2.1 + 249)), some (.ref (E.G.2.1 + 257)), some (.ref (E.G.2.1 + 258)), some (.int (nI i)), none, none, none]) (by simp [tvSubL]) kk
  refine tv_aload_n C dk_L_law_2334 rfl ?_
  refine tv_iconst (v := 0) C dk_L_law_2335 (by decide) ?_
  refine tv_lald (j := 0) rfl C dk_L_law_2336 (Nat.le_of_ble_eq_true rfl) rfl (vp_in_nI (n := 0) (by decide) (by decide)) ?_
  refine tv_iload C dk_L_law_2337 rfl ?_
  refine tv_i2l C dk_L_law_2339 ?_
  refine tv_lcmp C dk_L_law_2340 ?_
  refine tv_if_eq C dk_L_law_2341 (fun _ => ?_) (fun h => tv_no (h (q2 h1)))
  refine tv_goto C dk_L_law_2346 ?_
  refine tv_widen (k' := k + 2) (sl' := sl + 12) (by omega) (by omega) ?_
  exact tv_drop (L2 := [some (.ref b), some (.ref (E.G.2.1 + 0)), some (.ref (E.G.2.1 + 249)), some (.ref (E.G.2.1 + 257)), some (.ref (E.G.2.1 + 258)), some (.int (nI i)), none, none, none]) (by simp [tvSubL]) kk
/-- case 43 -/
def lq_43 (M : tvM) (a1 a2 a3 : Int32) : Prop := (q_L_failedCommand M) ∧ ((f_X9_thrown ((f_X9_failedCommand ((f_L_failedCommand M).2)).2)) = (f_L_failedCommand M).1) ∧ ((f_L_failedCommand M).1 = 0 → (lg_cmp (tgl ((f_X9_failedCommand ((f_L_failedCommand M).2)).2) 257 0) (((f_X9_failedCommand ((f_L_failedCommand M).2)).1).toInt64)) = 0) ∧ True
def lm_43 (M : tvM) (a1 a2 a3 : Int32) : tvM := (f_X9_failedCommand ((f_L_failedCommand M).2)).2
theorem w_law_43 {E : tvE} {b Ln i k sl : Nat} {xs : Nat → Int32} (C : tvC E RL cL_law 9 (some .boolean) 1000 100000 1000000 []) (hN : tvNcE E.s) (hX : tvScr E b Ln xs) (hi : i + 4 ≤ Ln) (hk : k + 2 ≤ 100000) (hs : sl + 12 ≤ 1000000) (M : tvM) (hq : lq_43 M (xs (i + 1)) (xs (i + 2)) (xs (i + 3))) (kk : tv_W E tvP0 (k + 2) (sl + 12) (lm_43 M (xs (i + 1)) (xs (i + 2)) (xs (i + 3))) 2545 [some (.ref b), some (.ref (E.G.2.1 + 0)), some (.ref (E.G.2.1 + 249)), some (.ref (E.G.2.1 + 257)), some (.ref (E.G.2.1 + 258)), some (.int (nI i)), none, none, none] []) : tv_W E tvP0 k sl M 2349 [some (.ref b), some (.ref (E.G.2.1 + 0)), some (.ref (E.G.2.1 + 249)), some (.ref (E.G.2.1 + 257)), some (.ref (E.G.2.1 + 258)), some (.int (nI i)), none, none, none] [] := by
  have hk0 : k ≤ 100000 := by omega
  have hs0 : sl ≤ 1000000 := by omega
  obtain ⟨q0, q1, q2, -⟩ := hq
  refine tv_aload_n C dk_L_law_2349 rfl ?_
  refine tv_aload_n C dk_L_law_2350 rfl ?_
  refine tv_callSW C hN dk_L_law_2351 ml_RL_297 yw_L_failedCommand yi_L_failedCommand (m_L_failedCommand _ M q0) rfl rfl (Nat.le_of_ble_eq_true rfl) (Nat.le_of_ble_eq_true rfl) (Nat.le_of_ble_eq_true rfl) (by omega) (by omega) rfl rfl rfl ?_
  refine tv_istore (L' := [_, _, _, _, _, _, _, _, _]) (hn := by decide) (hlt := (Nat.le_of_ble_eq_true rfl)) (hno := rfl) C dk_L_law_2354 rfl ?_
  refine tv_aload_n C dk_L_law_2356 rfl ?_
  refine tv_cV1 C dk_L_law_2357 ml_RL_299 yk_X9_failedCommand yi_X9_failedCommand (m_X9_failedCommand _ ((f_L_failedCommand M).2)) (Nat.le_of_ble_eq_true rfl) rfl rfl rfl rfl (Nat.le_of_ble_eq_true rfl) (Nat.le_of_ble_eq_true rfl) (Nat.le_of_ble_eq_true rfl) (by omega) (by omega) ?_
  refine tv_istore (L' := [_, _, _, _, _, _, _, _, _]) (hn := by decide) (hlt := (Nat.le_of_ble_eq_true rfl)) (hno := rfl) C dk_L_law_2360 rfl ?_
  refine tv_aload_n C dk_L_law_2362 rfl ?_
  refine tv_cV1 C dk_L_law_2363 ml_RL_152 yk_X9_thrown yi_X9_thrown (m_X9_thrown _ ((f_X9_failedCommand ((f_L_failedCommand M).2)).2)) (Nat.le_of_ble_eq_true rfl) rfl rfl rfl rfl (Nat.le_of_ble_eq_true rfl) (Nat.le_of_ble_eq_true rfl) (Nat.le_of_ble_eq_true rfl) (by omega) (by omega) ?_
  refine tv_iload C dk_L_law_2366 rfl ?_
  refine tv_icmp_eq C dk_L_law_2368 (fun _ => ?_) (fun h => tv_no (h q1))
  refine tv_iload C dk_L_law_2373 rfl ?_
  refine tv_if_ne C dk_L_law_2375 (fun _ => ?_) (fun h1 => ?_)
  · refine tv_goto C dk_L_law_2390 ?_
    refine tv_widen (k' := k + 2) (sl' := sl + 12) (by omega) (by omega) ?_
    exact tv_drop (L2 := [some (.ref b), some (.ref (E.G.2.1 + 0)), some (.ref (E.G.2.1 + 249)), some (.ref (E.G.2.1 + 257)), some (.ref (E.G.2.1 + 258)), some (.int (nI i)), none, none, none]) (by simp [tvSubL]) kk
  refine tv_aload_n C dk_L_law_2378 rfl ?_
  refine tv_iconst (v := 0) C dk_L_law_2379 (by decide) ?_
  refine tv_lald (j := 0) rfl C dk_L_law_2380 (Nat.le_of_ble_eq_true rfl) rfl (vp_in_nI (n := 0) (by decide) (by decide)) ?_
  refine tv_iload C dk_L_law_2381 rfl ?_
  refine tv_i2l C dk_L_law_2383 ?_
  refine tv_lcmp C dk_L_law_2384 ?_
  refine tv_if_eq C dk_L_law_2385 (fun _ => ?_) (fun h => tv_no (h (q2 h1)))
  refine tv_goto C dk_L_law_2390 ?_
  refine tv_widen (k' := k + 2) (sl' := sl + 12) (by omega) (by omega) ?_
  exact tv_drop (L2 := [some (.ref b), some (.ref (E.G.2.1 + 0)), some (.ref (E.G.2.1 + 249)), some (.ref (E.G.2.1 + 257)), some (.ref (E.G.2.1 + 258)), some (.int (nI i)), none, none, none]) (by simp [tvSubL]) kk
/-- case 44 -/
def lq_44 (M : tvM) (a1 a2 a3 : Int32) : Prop := (q_L_wasWrongCode M) ∧ ((f_X9_thrown ((f_X9_wasWrongCode ((f_L_wasWrongCode M).2)).2)) = (f_L_wasWrongCode M).1) ∧ ((f_L_wasWrongCode M).1 = 0 → (f_X9_wasWrongCode ((f_L_wasWrongCode M).2)).1 = 0 → (lg_cmp (tgl ((f_X9_wasWrongCode ((f_L_wasWrongCode M).2)).2) 257 0) 0) = 0) ∧ ((f_L_wasWrongCode M).1 = 0 → ¬ (f_X9_wasWrongCode ((f_L_wasWrongCode M).2)).1 = 0 → (lg_cmp (tgl ((f_X9_wasWrongCode ((f_L_wasWrongCode M).2)).2) 257 0) 1) = 0) ∧ True
def lm_44 (M : tvM) (a1 a2 a3 : Int32) : tvM := (f_X9_wasWrongCode ((f_L_wasWrongCode M).2)).2
theorem w_law_44 {E : tvE} {b Ln i k sl : Nat} {xs : Nat → Int32} (C : tvC E RL cL_law 9 (some .boolean) 1000 100000 1000000 []) (hN : tvNcE E.s) (hX : tvScr E b Ln xs) (hi : i + 4 ≤ Ln) (hk : k + 2 ≤ 100000) (hs : sl + 12 ≤ 1000000) (M : tvM) (hq : lq_44 M (xs (i + 1)) (xs (i + 2)) (xs (i + 3))) (kk : tv_W E tvP0 (k + 2) (sl + 12) (lm_44 M (xs (i + 1)) (xs (i + 2)) (xs (i + 3))) 2545 [some (.ref b), some (.ref (E.G.2.1 + 0)), some (.ref (E.G.2.1 + 249)), some (.ref (E.G.2.1 + 257)), some (.ref (E.G.2.1 + 258)), some (.int (nI i)), none, none, none] []) : tv_W E tvP0 k sl M 2393 [some (.ref b), some (.ref (E.G.2.1 + 0)), some (.ref (E.G.2.1 + 249)), some (.ref (E.G.2.1 + 257)), some (.ref (E.G.2.1 + 258)), some (.int (nI i)), none, none, none] [] := by
  have hk0 : k ≤ 100000 := by omega
  have hs0 : sl ≤ 1000000 := by omega
  obtain ⟨q0, q1, q2, q3, -⟩ := hq
  refine tv_aload_n C dk_L_law_2393 rfl ?_
  refine tv_aload_n C dk_L_law_2394 rfl ?_
  refine tv_callSW C hN dk_L_law_2395 ml_RL_300 yw_L_wasWrongCode yi_L_wasWrongCode (m_L_wasWrongCode _ M q0) rfl rfl (Nat.le_of_ble_eq_true rfl) (Nat.le_of_ble_eq_true rfl) (Nat.le_of_ble_eq_true rfl) (by omega) (by omega) rfl rfl rfl ?_
  refine tv_istore (L' := [_, _, _, _, _, _, _, _, _]) (hn := by decide) (hlt := (Nat.le_of_ble_eq_true rfl)) (hno := rfl) C dk_L_law_2398 rfl ?_
  refine tv_aload_n C dk_L_law_2400 rfl ?_
  refine tv_cV1 C dk_L_law_2401 ml_RL_302 yk_X9_wasWrongCode yi_X9_wasWrongCode (m_X9_wasWrongCode _ ((f_L_wasWrongCode M).2)) (Nat.le_of_ble_eq_true rfl) rfl rfl rfl rfl (Nat.le_of_ble_eq_true rfl) (Nat.le_of_ble_eq_true rfl) (Nat.le_of_ble_eq_true rfl) (by omega) (by omega) ?_
  refine tv_istore (L' := [_, _, _, _, _, _, _, _, _]) (hn := by decide) (hlt := (Nat.le_of_ble_eq_true rfl)) (hno := rfl) C dk_L_law_2404 rfl ?_
  refine tv_aload_n C dk_L_law_2406 rfl ?_
  refine tv_cV1 C dk_L_law_2407 ml_RL_152 yk_X9_thrown yi_X9_thrown (m_X9_thrown _ ((f_X9_wasWrongCode ((f_L_wasWrongCode M).2)).2)) (Nat.le_of_ble_eq_true rfl) rfl rfl rfl rfl (Nat.le_of_ble_eq_true rfl) (Nat.le_of_ble_eq_true rfl) (Nat.le_of_ble_eq_true rfl) (by omega) (by omega) ?_
  refine tv_iload C dk_L_law_2410 rfl ?_
  refine tv_icmp_eq C dk_L_law_2412 (fun _ => ?_) (fun h => tv_no (h q1))
  refine tv_iload C dk_L_law_2417 rfl ?_
  refine tv_if_ne C dk_L_law_2419 (fun _ => ?_) (fun h1 => ?_)
  · refine tv_goto C dk_L_law_2441 ?_
    refine tv_widen (k' := k + 2) (sl' := sl + 12) (by omega) (by omega) ?_
    exact tv_drop (L2 := [some (.ref b), some (.ref (E.G.2.1 + 0)), some (.ref (E.G.2.1 + 249)), some (.ref (E.G.2.1 + 257)), some (.ref (E.G.2.1 + 258)), some (.int (nI i)), none, none, none]) (by simp [tvSubL]) kk
  refine tv_aload_n C dk_L_law_2422 rfl ?_
  refine tv_iconst (v := 0) C dk_L_law_2423 (by decide) ?_
  refine tv_lald (j := 0) rfl C dk_L_law_2424 (Nat.le_of_ble_eq_true rfl) rfl (vp_in_nI (n := 0) (by decide) (by decide)) ?_
  refine tv_iload C dk_L_law_2425 rfl ?_
  refine tv_if_eq C dk_L_law_2427 (fun g2 => ?_) (fun g2 => ?_)
  · refine tv_lconst (v := 0) C dk_L_law_2434 (by decide) ?_
    refine tv_lcmp C dk_L_law_2435 ?_
    refine tv_if_eq C dk_L_law_2436 (fun _ => ?_) (fun h => tv_no (h (q2 h1 g2)))
    refine tv_goto C dk_L_law_2441 ?_
    refine tv_widen (k' := k + 2) (sl' := sl + 12) (by omega) (by omega) ?_
    exact tv_drop (L2 := [some (.ref b), some (.ref (E.G.2.1 + 0)), some (.ref (E.G.2.1 + 249)), some (.ref (E.G.2.1 + 257)), some (.ref (E.G.2.1 + 258)), some (.int (nI i)), none, none, none]) (by simp [tvSubL]) kk
  refine tv_lconst (v := 1) C dk_L_law_2430 (by decide) ?_
  refine tv_goto C dk_L_law_2431 ?_
  refine tv_lcmp C dk_L_law_2435 ?_
  refine tv_if_eq C dk_L_law_2436 (fun _ => ?_) (fun h => tv_no (h (q3 h1 g2)))
  refine tv_goto C dk_L_law_2441 ?_
  refine tv_widen (k' := k + 2) (sl' := sl + 12) (by omega) (by omega) ?_
  exact tv_drop (L2 := [some (.ref b), some (.ref (E.G.2.1 + 0)), some (.ref (E.G.2.1 + 249)), some (.ref (E.G.2.1 + 257)), some (.ref (E.G.2.1 + 258)), some (.int (nI i)), none, none, none]) (by simp [tvSubL]) kk
/-- case 45 -/
def lq_45 (M : tvM) (a1 a2 a3 : Int32) : Prop := (q_L_undo M) ∧ (q_X9_undo ((f_L_undo M).2)) ∧ ((f_X9_thrown ((f_X9_undo ((f_L_undo M).2)).2)) = (f_L_undo M).1) ∧ ((f_L_undo M).1 = 0 → (lg_cmp (tgl ((f_X9_undo ((f_L_undo M).2)).2) 257 0) (((f_X9_undo ((f_L_undo M).2)).1).toInt64)) = 0) ∧ True
def lm_45 (M : tvM) (a1 a2 a3 : Int32) : tvM := (f_X9_undo ((f_L_undo M).2)).2
theorem w_law_45 {E : tvE} {b Ln i k sl : Nat} {xs : Nat → Int32} (C : tvC E RL cL_law 9 (some .boolean) 1000 100000 1000000 []) (hN : tvNcE E.s) (hX : tvScr E b Ln xs) (hi : i + 4 ≤ Ln) (hk : k + 2 ≤ 100000) (hs : sl + 12 ≤ 1000000) (M : tvM) (hq : lq_45 M (xs (i + 1)) (xs (i + 2)) (xs (i + 3))) (kk : tv_W E tvP0 (k + 2) (sl + 12) (lm_45 M (xs (i + 1)) (xs (i + 2)) (xs (i + 3))) 2545 [some (.ref b), some (.ref (E.G.2.1 + 0)), some (.ref (E.G.2.1 + 249)), some (.ref (E.G.2.1 + 257)), some (.ref (E.G.2.1 + 258)), some (.int (nI i)), none, none, none] []) : tv_W E tvP0 k sl M 2444 [some (.ref b), some (.ref (E.G.2.1 + 0)), some (.ref (E.G.2.1 + 249)), some (.ref (E.G.2.1 + 257)), some (.ref (E.G.2.1 + 258)), some (.int (nI i)), none, none, none] [] := by
  have hk0 : k ≤ 100000 := by omega
  have hs0 : sl ≤ 1000000 := by omega
  obtain ⟨q0, q1, q2, q3, -⟩ := hq
  refine tv_aload_n C dk_L_law_2444 rfl ?_
  refine tv_aload_n C dk_L_law_2445 rfl ?_
  refine tv_callSW C hN dk_L_law_2446 ml_RL_303 yw_L_undo yi_L_undo (m_L_undo _ M q0) rfl rfl (Nat.le_of_ble_eq_true rfl) (Nat.le_of_ble_eq_true rfl) (Nat.le_of_ble_eq_true rfl) (by omega) (by omega) rfl rfl rfl ?_
  refine tv_istore (L' := [_, _, _, _, _, _, _, _, _]) (hn := by decide) (hlt := (Nat.le_of_ble_eq_true rfl)) (hno := rfl) C dk_L_law_2449 rfl ?_
  refine tv_aload_n C dk_L_law_2451 rfl ?_
  refine tv_cV1 C dk_L_law_2452 ml_RL_305 yk_X9_undo yi_X9_undo (m_X9_undo _ ((f_L_undo M).2) q1) (Nat.le_of_ble_eq_true rfl) rfl rfl rfl rfl (Nat.le_of_ble_eq_true rfl) (Nat.le_of_ble_eq_true rfl) (Nat.le_of_ble_eq_true rfl) (by omega) (by omega) ?_
  refine tv_istore (L' := [_, _, _, _, _, _, _, _, _]) (hn := by decide) (hlt := (Nat.le_of_ble_eq_true rfl)) (hno := rfl) C dk_L_law_2455 rfl ?_
  refine tv_aload_n C dk_L_law_2457 rfl ?_
  refine tv_cV1 C dk_L_law_2458 ml_RL_152 yk_X9_thrown yi_X9_thrown (m_X9_thrown _ ((f_X9_undo ((f_L_undo M).2)).2)) (Nat.le_of_ble_eq_true rfl) rfl rfl rfl rfl (Nat.le_of_ble_eq_true rfl) (Nat.le_of_ble_eq_true rfl) (Nat.le_of_ble_eq_true rfl) (by omega) (by omega) ?_
  refine tv_iload C dk_L_law_2461 rfl ?_
  refine tv_icmp_eq C dk_L_law_2463 (fun _ => ?_) (fun h => tv_no (h q2))
  refine tv_iload C dk_L_law_2468 rfl ?_
  refine tv_if_ne C dk_L_law_2470 (fun _ => ?_) (fun h1 => ?_)
  · refine tv_goto C dk_L_law_2485 ?_
    refine tv_widen (k' := k + 2) (sl' := sl + 12) (by omega) (by omega) ?_
    exact tv_drop (L2 := [some (.ref b), some (.ref (E.G.2.1 + 0)), some (.ref (E.G.2.1 + 249)), some (.ref (E.G.2.1 + 257)), some (.ref (E.G.2.1 + 258)), some (.int (nI i)), none, none, none]) (by simp [tvSubL]) kk
  refine tv_aload_n C dk_L_law_2473 rfl ?_
  refine tv_iconst (v := 0) C dk_L_law_2474 (by decide) ?_
  refine tv_lald (j := 0) rfl C dk_L_law_2475 (Nat.le_of_ble_eq_true rfl) rfl (vp_in_nI (n := 0) (by decide) (by decide)) ?_
  refine tv_iload C dk_L_law_2476 rfl ?_
  refine tv_i2l C dk_L_law_2478 ?_
  refine tv_lcmp C dk_L_law_2479 ?_
  refine tv_if_eq C dk_L_law_2480 (fun _ => ?_) (fun h => tv_no (h (q3 h1)))
  refine tv_goto C dk_L_law_2485 ?_
  refine tv_widen (k' := k + 2) (sl' := sl + 12) (by omega) (by omega) ?_
  exact tv_drop (L2 := [some (.ref b), some (.ref (E.G.2.1 + 0)), some (.ref (E.G.2.1 + 249)), some (.ref (E.G.2.1 + 257)), some (.ref (E.G.2.1 + 258)), some (.int (nI i)), none, none, none]) (by simp [tvSubL]) kk
/-- case 46 -/
def lq_46 (M : tvM) (a1 a2 a3 : Int32) : Prop := ((f_X8_save M).1 = (f_X9_save ((f_X8_save M).2)).1) ∧ True
def lm_46 (M : tvM) (a1 a2 a3 : Int32) : tvM := (f_X9_save ((f_X8_save M).2)).2
theorem w_law_46 {E : tvE} {b Ln i k sl : Nat} {xs : Nat → Int32} (C : tvC E RL cL_law 9 (some .boolean) 1000 100000 1000000 []) (hN : tvNcE E.s) (hX : tvScr E b Ln xs) (hi : i + 4 ≤ Ln) (hk : k + 2 ≤ 100000) (hs : sl + 12 ≤ 1000000) (M : tvM) (hq : lq_46 M (xs (i + 1)) (xs (i + 2)) (xs (i + 3))) (kk : tv_W E tvP0 (k + 2) (sl + 12) (lm_46 M (xs (i + 1)) (xs (i + 2)) (xs (i + 3))) 2545 [some (.ref b), some (.ref (E.G.2.1 + 0)), some (.ref (E.G.2.1 + 249)), some (.ref (E.G.2.1 + 257)), some (.ref (E.G.2.1 + 258)), some (.int (nI i)), none, none, none] []) : tv_W E tvP0 k sl M 2488 [some (.ref b), some (.ref (E.G.2.1 + 0)), some (.ref (E.G.2.1 + 249)), some (.ref (E.G.2.1 + 257)), some (.ref (E.G.2.1 + 258)), some (.int (nI i)), none, none, none] [] := by
  have hk0 : k ≤ 100000 := by omega
  have hs0 : sl ≤ 1000000 := by omega
  obtain ⟨q0, -⟩ := hq
  refine tv_aload_n C dk_L_law_2488 rfl ?_
  refine tv_cV1 C dk_L_law_2489 ml_RL_306 yk_X8_save yi_X8_save (m_X8_save _ M) (Nat.le_of_ble_eq_true rfl) rfl rfl rfl rfl (Nat.le_of_ble_eq_true rfl) (Nat.le_of_ble_eq_true rfl) (Nat.le_of_ble_eq_true rfl) (by omega) (by omega) ?_
  refine tv_aload_n C dk_L_law_2492 rfl ?_
  refine tv_cV1 C dk_L_law_2493 ml_RL_309 yk_X9_save yi_X9_save (m_X9_save _ ((f_X8_save M).2)) (Nat.le_of_ble_eq_true rfl) rfl rfl rfl rfl (Nat.le_of_ble_eq_true rfl) (Nat.le_of_ble_eq_true rfl) (Nat.le_of_ble_eq_true rfl) (by omega) (by omega) ?_
  refine tv_icmp_eq C dk_L_law_2496 (fun _ => ?_) (fun h => tv_no (h q0))
  refine tv_widen (k' := k + 2) (sl' := sl + 12) (by omega) (by omega) ?_
  exact tv_drop (L2 := [some (.ref b), some (.ref (E.G.2.1 + 0)), some (.ref (E.G.2.1 + 249)), some (.ref (E.G.2.1 + 257)), some (.ref (E.G.2.1 + 258)), some (.int (nI i)), none, none, none]) (by simp [tvSubL]) kk
/-- case 47 -/
def lq_47 (M : tvM) (a1 a2 a3 : Int32) : Prop := (q_L_restore M) ∧ ((f_X9_thrown ((f_X9_restore ((f_L_restore M).2)).2)) = (f_L_restore M).1) ∧ ((f_L_restore M).1 = 0 → (lg_cmp (tgl ((f_X9_restore ((f_L_restore M).2)).2) 257 0) (((f_X9_restore ((f_L_restore M).2)).1).toInt64)) = 0) ∧ True
def lm_47 (M : tvM) (a1 a2 a3 : Int32) : tvM := (f_X9_restore ((f_L_restore M).2)).2
theorem w_law_47 {E : tvE} {b Ln i k sl : Nat} {xs : Nat → Int32} (C : tvC E RL cL_law 9 (some .boolean) 1000 100000 1000000 []) (hN : tvNcE E.s) (hX : tvScr E b Ln xs) (hi : i + 4 ≤ Ln) (hk : k + 2 ≤ 100000) (hs : sl + 12 ≤ 1000000) (M : tvM) (hq : lq_47 M (xs (i + 1)) (xs (i + 2)) (xs (i + 3))) (kk : tv_W E tvP0 (k + 2) (sl + 12) (lm_47 M (xs (i + 1)) (xs (i + 2)) (xs (i + 3))) 2545 [some (.ref b), some (.ref (E.G.2.1 + 0)), some (.ref (E.G.2.1 + 249)), some (.ref (E.G.2.1 + 257)), some (.ref (E.G.2.1 + 258)), some (.int (nI i)), none, none, none] []) : tv_W E tvP0 k sl M 2501 [some (.ref b), some (.ref (E.G.2.1 + 0)), some (.ref (E.G.2.1 + 249)), some (.ref (E.G.2.1 + 257)), some (.ref (E.G.2.1 + 258)), some (.int (nI i)), none, none, none] [] := by
  have hk0 : k ≤ 100000 := by omega
  have hs0 : sl ≤ 1000000 := by omega
  obtain ⟨q0, q1, q2, -⟩ := hq
  refine tv_aload_n C dk_L_law_2501 rfl ?_
  refine tv_aload_n C dk_L_law_2502 rfl ?_
  refine tv_callSW C hN dk_L_law_2503 ml_RL_310 yw_L_restore yi_L_restore (m_L_restore _ M q0) rfl rfl (Nat.le_of_ble_eq_true rfl) (Nat.le_of_ble_eq_true rfl) (Nat.le_of_ble_eq_true rfl) (by omega) (by omega) rfl rfl rfl ?_
  refine tv_istore (L' := [_, _, _, _, _, _, _, _, _]) (hn := by decide) (hlt := (Nat.le_of_ble_eq_true rfl)) (hno := rfl) C dk_L_law_2506 rfl ?_
  refine tv_aload_n C dk_L_law_2508 rfl ?_
  refine tv_cV1 C dk_L_law_2509 ml_RL_312 yk_X9_restore yi_X9_restore (m_X9_restore _ ((f_L_restore M).2)) (Nat.le_of_ble_eq_true rfl) rfl rfl rfl rfl (Nat.le_of_ble_eq_true rfl) (Nat.le_of_ble_eq_true rfl) (Nat.le_of_ble_eq_true rfl) (by omega) (by omega) ?_
  refine tv_istore (L' := [_, _, _, _, _, _, _, _, _]) (hn := by decide) (hlt := (Nat.le_of_ble_eq_true rfl)) (hno := rfl) C dk_L_law_2512 rfl ?_
  refine tv_aload_n C dk_L_law_2514 rfl ?_
  refine tv_cV1 C dk_L_law_2515 ml_RL_152 yk_X9_thrown yi_X9_thrown (m_X9_thrown _ ((f_X9_restore ((f_L_restore M).2)).2)) (Nat.le_of_ble_eq_true rfl) rfl rfl rfl rfl (Nat.le_of_ble_eq_true rfl) (Nat.le_of_ble_eq_true rfl) (Nat.le_of_ble_eq_true rfl) (by omega) (by omega) ?_
  refine tv_iload C dk_L_law_2518 rfl ?_
  refine tv_icmp_eq C dk_L_law_2520 (fun _ => ?_) (fun h => tv_no (h q1))
  refine tv_iload C dk_L_law_2525 rfl ?_
  refine tv_if_ne C dk_L_law_2527 (fun _ => ?_) (fun h1 => ?_)
  · refine tv_goto C dk_L_law_2542 ?_
    refine tv_widen (k' := k + 2) (sl' := sl + 12) (by omega) (by omega) ?_
    exact tv_drop (L2 := [some (.ref b), some (.ref (E.G.2.1 + 0)), some (.ref (E.G.2.1 + 249)), some (.ref (E.G.2.1 + 257)), some (.ref (E.G.2.1 + 258)), some (.int (nI i)), none, none, none]) (by simp [tvSubL]) kk
  refine tv_aload_n C dk_L_law_2530 rfl ?_
  refine tv_iconst (v := 0) C dk_L_law_2531 (by decide) ?_
  refine tv_lald (j := 0) rfl C dk_L_law_2532 (Nat.le_of_ble_eq_true rfl) rfl (vp_in_nI (n := 0) (by decide) (by decide)) ?_
  refine tv_iload C dk_L_law_2533 rfl ?_
  refine tv_i2l C dk_L_law_2535 ?_
  refine tv_lcmp C dk_L_law_2536 ?_
  refine tv_if_eq C dk_L_law_2537 (fun _ => ?_) (fun h => tv_no (h (q2 h1)))
  refine tv_goto C dk_L_law_2542 ?_
  refine tv_widen (k' := k + 2) (sl' := sl + 12) (by omega) (by omega) ?_
  exact tv_drop (L2 := [some (.ref b), some (.ref (E.G.2.1 + 0)), some (.ref (E.G.2.1 + 249)), some (.ref (E.G.2.1 + 257)), some (.ref (E.G.2.1 + 258)), some (.int (nI i)), none, none, none]) (by simp [tvSubL]) kk
