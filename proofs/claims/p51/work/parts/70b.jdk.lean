theorem a_J5_isLatin1 (G : tvG) (X : va_W) (M : tvM) {i p : Nat} {fs : List Value} (hx : X[i]? = some (p, .inr (9, fs))) (h1 : fs[1]? = some (.int 0)) : tvRunX G yJ5_isLatin1_aae02 (tvWd yJ5_isLatin1_aae02 cJ5_isLatin1_aae02 1 (some .boolean)) 1 0 0 X [.ref p] M (sbV (some (.int 1)) M (fun X1 => X1 = X)) := by
  refine tvRunX.of yk_J5_isLatin1_aae02 rfl [some (.ref p)] rfl (Nat.le_of_ble_eq_true rfl) ?_
  intro E hG C hI hQ; subst hG
  refine tv_getCS C dk_J5_isLatin1_aae02_0 xc_RJ5_18 ?_
  refine tv_if_eq C dk_J5_isLatin1_aae02_3 (fun h => absurd h (by decide)) (fun _ => ?_)
  refine tv_aload_n C dk_J5_isLatin1_aae02_6 rfl ?_
  refine tx_getf C dk_J5_isLatin1_aae02_7 xf_RJ5_22 hx h1 ?_
  refine tv_if_ne C dk_J5_isLatin1_aae02_10 (fun h => absurd rfl h) (fun _ => ?_)
  refine tv_iconst (v := 1) C dk_J5_isLatin1_aae02_13 (by decide) ?_
  refine tv_goto C dk_J5_isLatin1_aae02_14 ?_
  exact tx_iret C hQ dk_J5_isLatin1_aae02_18 rfl ⟨rfl, rfl, rfl⟩ (by omega) (by omega)
theorem a_J0_coder (G : tvG) (X : va_W) (M : tvM) {a b n : Nat} {f : Nat → Int32} (hx : tvTxt G X a b n f) : tvRunX G yJ0_coder_7d493 (tvWd yJ0_coder_7d493 cJ0_coder_7d493 1 (some .byte)) 1 0 0 X [.ref a] M (sbV (some (.int 0)) M (fun X1 => X1 = X)) := by
  refine tvRunX.of yk_J0_coder_7d493 rfl [some (.ref a)] rfl (Nat.le_of_ble_eq_true rfl) ?_
  intro E hG C hI hQ; subst hG
  refine tv_getCS C dk_J0_coder_7d493_0 xc_RJ0_38 ?_
  refine tv_if_eq C dk_J0_coder_7d493_3 (fun h => absurd h (by decide)) (fun _ => ?_)
  refine tv_aload_n C dk_J0_coder_7d493_6 rfl ?_
  refine tx_tcoder C dk_J0_coder_7d493_7 xf_RJ0_15 hx ?_
  refine tv_goto C dk_J0_coder_7d493_10 ?_
  exact tx_iret C hQ dk_J0_coder_7d493_14 rfl ⟨rfl, rfl, rfl⟩ (by omega) (by omega)
theorem a_J0_isLatin1 (G : tvG) (X : va_W) (M : tvM) {a b n : Nat} {f : Nat → Int32} (hx : tvTxt G X a b n f) : tvRunX G yJ0_isLatin1_aae02 (tvWd yJ0_isLatin1_aae02 cJ0_isLatin1_aae02 1 (some .boolean)) 1 0 0 X [.ref a] M (sbV (some (.int 1)) M (fun X1 => X1 = X)) := by
  refine tvRunX.of yk_J0_isLatin1_aae02 rfl [some (.ref a)] rfl (Nat.le_of_ble_eq_true rfl) ?_
  intro E hG C hI hQ; subst hG
  refine tv_getCS C dk_J0_isLatin1_aae02_0 xc_RJ0_38 ?_
  refine tv_if_eq C dk_J0_isLatin1_aae02_3 (fun h => absurd h (by decide)) (fun _ => ?_)
  refine tv_aload_n C dk_J0_isLatin1_aae02_6 rfl ?_
  refine tx_tcoder C dk_J0_isLatin1_aae02_7 xf_RJ0_15 hx ?_
  refine tv_if_ne C dk_J0_isLatin1_aae02_10 (fun h => absurd rfl h) (fun _ => ?_)
  refine tv_iconst (v := 1) C dk_J0_isLatin1_aae02_13 (by decide) ?_
  refine tv_goto C dk_J0_isLatin1_aae02_14 ?_
  exact tx_iret C hQ dk_J0_isLatin1_aae02_18 rfl ⟨rfl, rfl, rfl⟩ (by omega) (by omega)
theorem a_J0_length (G : tvG) (X : va_W) (M : tvM) {a b n : Nat} {f : Nat → Int32} (hx : tvTxt G X a b n f) : tvRunX G yJ0_length_8abf5 (tvWd yJ0_length_8abf5 cJ0_length_8abf5 1 (some .int)) 2 0 0 X [.ref a] M (sbV (some (.int (nI n))) M (fun X1 => X1 = X)) := by
  refine tvRunX.of yk_J0_length_8abf5 rfl [some (.ref a)] rfl (Nat.le_of_ble_eq_true rfl) ?_
  intro E hG C hI hQ; subst hG
  refine tv_aload_n C dk_J0_length_8abf5_0 rfl ?_
  refine tx_tvalue C dk_J0_length_8abf5_1 xf_RJ0_9 hx ?_
  refine tx_tlen C dk_J0_length_8abf5_4 hx ?_
  refine tv_aload_n C dk_J0_length_8abf5_5 rfl ?_
  refine tx_pT C dk_J0_length_8abf5_6 ml_RJ0_335 yk_J0_coder_7d493 yi_J0_coder_7d493 (a_J0_coder _ X M hx) sbV_no hx rfl rfl rfl (Nat.le_of_ble_eq_true rfl) (Nat.le_of_ble_eq_true rfl) (Nat.le_of_ble_eq_true rfl) (by omega) (by omega) (fun v1 X1 M1 h1 => ?_)
  obtain ⟨e1, e2, h1⟩ := h1
  cases e1
  rw [e2]
  rw [h1]
  show tv_W E _ _ _ _ _ _ [.int 0, .int (nI n)]
  refine tv_ishr C dk_J0_length_8abf5_9 ?_
  refine tv_ti (v := nI n) (sb_shr0 _) ?_
  exact tx_iret C hQ dk_J0_length_8abf5_10 rfl ⟨rfl, rfl, rfl⟩ (by omega) (by omega)
theorem a_J8_newLength (G : tvG) (X : va_W) (M : tvM) {a b c : Nat} (h0 : 0 < a + max b c) (ha : a < 1000) (hb : b < 1000) (hc : c < 1000) : tvRunX G yJ8_newLength_cabcc (tvWd yJ8_newLength_cabcc cJ8_newLength_cabcc 4 (some .int)) 2 0 0 X [.int (nI a), .int (nI b), .int (nI c)] M (sbV (some (.int (nI (a + max b c)))) M (fun X1 => X1 = X)) := by
  refine tvRunX.of yk_J8_newLength_cabcc rfl [some (.int (nI a)), some (.int (nI b)), some (.int (nI c)), none] rfl (Nat.le_of_ble_eq_true rfl) ?_
  intro E hG C hI hQ; subst hG
  refine tv_iload_n C dk_J8_newLength_cabcc_0 rfl ?_
  refine tv_iload_n C dk_J8_newLength_cabcc_1 rfl ?_
  refine tv_iload_n C dk_J8_newLength_cabcc_2 rfl ?_
  refine tx_cS C dk_J8_newLength_cabcc_3 ml_RJ8_194 yk_J9_max_7cf53 yi_J9_max_7cf53 (fun w => m_J9_max_7cf53 _ M (nI b) (nI c)) rfl rfl (Nat.le_of_ble_eq_true rfl) (Nat.le_of_ble_eq_true rfl) (Nat.le_of_ble_eq_true rfl) (by omega) (by omega) rfl rfl rfl ?_
  refine tv_ti (v := nI (max b c)) (fx_max M (by omega) (by omega)) ?_
  refine tv_iadd C dk_J8_newLength_cabcc_6 ?_
  refine tv_ti (v := nI (a + (max b c))) (nI_add a (max b c)) ?_
  refine tv_istore_n (L' := [_, _, _, _]) (hn := by decide) (hlt := (Nat.le_of_ble_eq_true rfl)) (hno := rfl) C dk_J8_newLength_cabcc_7 rfl ?_
  refine tv_iconst (v := nI 0) C dk_J8_newLength_cabcc_8 (by decide) ?_
  refine tv_iload_n C dk_J8_newLength_cabcc_9 rfl ?_
  refine tv_icmp_ge C dk_J8_newLength_cabcc_10 (fun h => absurd h (fun q => by rw [pn_le (by omega) (by omega)] at q; omega)) (fun _ => ?_)
  refine tv_iload_n C dk_J8_newLength_cabcc_13 rfl ?_
  refine tv_ldcI C dk_J8_newLength_cabcc_14 xk_RJ8_200 ?_
  refine tv_ti (v := nI 2147483639) rfl ?_
  refine tv_icmp_gt C dk_J8_newLength_cabcc_16 (fun h => absurd h (fun q => by rw [pn_lt (by omega) (by omega)] at q; omega)) (fun _ => ?_)
  refine tv_iload_n C dk_J8_newLength_cabcc_19 rfl ?_
  exact tx_iret C hQ dk_J8_newLength_cabcc_20 rfl ⟨rfl, rfl, rfl⟩ (by omega) (by omega)
theorem a_J5_newCapacity (G : tvG) (X : va_W) (M : tvM) {i j p q n m : Nat} {z : Int32} {f : Nat → Int32} (hx : X[i]? = some (sbO p q n z)) (hj : X[j]? = some (sbA G q m f)) {c : Nat} (hm : m < c) (hc : c ≤ 60) : tvRunX G yJ5_newCapacity_0f7a4 (tvWd yJ5_newCapacity_0f7a4 cJ5_newCapacity_0f7a4 6 (some .int)) 3 0 0 X [.ref p, .int (nI c)] M (sbV (some (.int (nI (m + max (c - m) (m + 2))))) M (fun X1 => X1 = X)) := by
  refine tvRunX.of yk_J5_newCapacity_0f7a4 rfl [some (.ref p), some (.int (nI c)), none, none, none, none] rfl (Nat.le_of_ble_eq_true rfl) ?_
  intro E hG C hI hQ; subst hG
  refine tv_aload_n C dk_J5_newCapacity_0f7a4_0 rfl ?_
  refine tx_getf (i := i) C dk_J5_newCapacity_0f7a4_1 xf_RJ5_15 hx rfl ?_
  refine tx_blen C dk_J5_newCapacity_0f7a4_4 hj ?_
  refine tv_istore_n (L' := [_, _, _, _, _, _]) (hn := by decide) (hlt := (Nat.le_of_ble_eq_true rfl)) (hno := rfl) C dk_J5_newCapacity_0f7a4_5 rfl ?_
  refine tv_iload_n C dk_J5_newCapacity_0f7a4_6 rfl ?_
  refine tv_aload_n C dk_J5_newCapacity_0f7a4_7 rfl ?_
  refine tx_getf (i := i) C dk_J5_newCapacity_0f7a4_8 xf_RJ5_22 hx rfl ?_
  refine tv_ishl C dk_J5_newCapacity_0f7a4_11 ?_
  refine tv_ti (v := nI c) (sb_shl0 _) ?_
  refine tv_istore_n (L' := [_, _, _, _, _, _]) (hn := by decide) (hlt := (Nat.le_of_ble_eq_true rfl)) (hno := rfl) C dk_J5_newCapacity_0f7a4_12 rfl ?_
  refine tv_iload_n C dk_J5_newCapacity_0f7a4_13 rfl ?_
  refine tv_iload_n C dk_J5_newCapacity_0f7a4_14 rfl ?_
  refine tv_isub C dk_J5_newCapacity_0f7a4_15 ?_
  refine tv_ti (v := nI (c - m)) (pn_sub (by omega)) ?_
  refine tv_istore (L' := [_, _, _, _, _, _]) (hn := by decide) (hlt := (Nat.le_of_ble_eq_true rfl)) (hno := rfl) C dk_J5_newCapacity_0f7a4_16 rfl ?_
  refine tv_iload_n C dk_J5_newCapacity_0f7a4_18 rfl ?_
  refine tv_iload C dk_J5_newCapacity_0f7a4_19 rfl ?_
  refine tv_iload_n C dk_J5_newCapacity_0f7a4_21 rfl ?_
  refine tv_iconst (v := nI 2) C dk_J5_newCapacity_0f7a4_22 (by decide) ?_
  refine tv_aload_n C dk_J5_newCapacity_0f7a4_23 rfl ?_
  refine tx_getf (i := i) C dk_J5_newCapacity_0f7a4_24 xf_RJ5_22 hx rfl ?_
  refine tv_ishl C dk_J5_newCapacity_0f7a4_27 ?_
  refine tv_ti (v := nI 2) (sb_shl0 _) ?_
  refine tv_iadd C dk_J5_newCapacity_0f7a4_28 ?_
  refine tv_ti (v := nI (m + 2)) (nI_add m 2) ?_
  refine tx_pS C dk_J5_newCapacity_0f7a4_29 ml_RJ5_114 yk_J8_newLength_cabcc yi_J8_newLength_cabcc (a_J8_newLength _ X M (a := m) (b := c - m) (c := m + 2) (by omega) (by omega) (by omega) (by omega)) sbV_no rfl rfl (Nat.le_of_ble_eq_true rfl) (Nat.le_of_ble_eq_true rfl) (Nat.le_of_ble_eq_true rfl) (by omega) (by omega) (fun v1 X1 M1 h1 => ?_)
  obtain ⟨e1, e2, h1⟩ := h1
  cases e1
  rw [e2]
  rw [h1]
  show tv_W E _ _ _ _ _ _ [.int (nI (m + max (c - m) (m + 2)))]
  refine tv_istore (L' := [_, _, _, _, _, _]) (hn := by decide) (hlt := (Nat.le_of_ble_eq_true rfl)) (hno := rfl) C dk_J5_newCapacity_0f7a4_32 rfl ?_
  refine tv_iload C dk_J5_newCapacity_0f7a4_34 rfl ?_
  refine tv_ldcI C dk_J5_newCapacity_0f7a4_36 xk_RJ5_39 ?_
  refine tv_ti (v := nI 2147483647) rfl ?_
  refine tv_icmp_ne C dk_J5_newCapacity_0f7a4_38 (fun _ => ?_) (fun h => absurd h (fun q => by rw [pn_eq (by omega) (by omega)] at q; omega))
  refine tv_iload C dk_J5_newCapacity_0f7a4_51 rfl ?_
  refine tv_aload_n C dk_J5_newCapacity_0f7a4_53 rfl ?_
  refine tx_getf (i := i) C dk_J5_newCapacity_0f7a4_54 xf_RJ5_22 hx rfl ?_
  refine tv_ishr C dk_J5_newCapacity_0f7a4_57 ?_
  refine tv_ti (v := nI (m + max (c - m) (m + 2))) (sb_shr0 _) ?_
  exact tx_iret C hQ dk_J5_newCapacity_0f7a4_58 rfl ⟨rfl, rfl, rfl⟩ (by omega) (by omega)
theorem a_J7_copyOf (G : tvG) (X : va_W) (M : tvM) {j q m c : Nat} {f : Nat → Int32} (hj : X[j]? = some (sbA G q m f)) (hf : byF f) (hm : m < c) (hc : c ≤ 120) : tvRunX G yJ7_copyOf_9075b (tvWd yJ7_copyOf_9075b cJ7_copyOf_9075b 3 (some (.array .byte))) 2 1 120 X [.ref q, .int (nI c)] M (sbR M (fun q1 X1 => X1 = X ++ [sbA G q1 c (va_cpy f (fun _ => 0) 0 0 m)])) := by
  refine tvRunX.of yk_J7_copyOf_9075b rfl [some (.ref q), some (.int (nI c)), none] rfl (Nat.le_of_ble_eq_true rfl) ?_
  intro E hG C hI hQ; subst hG
  refine tv_iload_n C dk_J7_copyOf_9075b_0 rfl ?_
  refine tv_aload_n C dk_J7_copyOf_9075b_1 rfl ?_
  refine tx_blen C dk_J7_copyOf_9075b_2 hj ?_
  refine tv_icmp_ne C dk_J7_copyOf_9075b_3 (fun _ => ?_) (fun h => absurd h (fun q => by rw [pn_eq (by omega) (by omega)] at q; omega))
  refine tv_iload_n C dk_J7_copyOf_9075b_14 rfl ?_
  refine tx_newarr (t0 := 2) (N := c) (a0 := (c, .inl (fun _ => 0))) C dk_J7_copyOf_9075b_15 xa_byte rfl rfl (fun U c h => va_nm_byte h) (fun _ => rfl) (pn_neg (by omega)) (pn_c (by omega)) (Nat.le_trans (Nat.mul_le_mul_left _ (show componentBytes .byte ≤ 1 from by decide)) (by omega)) (Nat.le_of_ble_eq_true rfl) (by omega) (fun q1 => ?_)
  have hj := sb_app [sbA E.G q1 c (fun _ => 0)] hj
  have hl := sb_last X (sbA E.G q1 c (fun _ => 0))
  refine tv_astore_n (L' := [_, _, _]) (hn := by decide) (hlt := (Nat.le_of_ble_eq_true rfl)) (hno := rfl) C dk_J7_copyOf_9075b_17 rfl ?_
  refine tv_aload_n C dk_J7_copyOf_9075b_18 rfl ?_
  refine tv_iconst (v := nI 0) C dk_J7_copyOf_9075b_19 (by decide) ?_
  refine tv_aload_n C dk_J7_copyOf_9075b_20 rfl ?_
  refine tv_iconst (v := nI 0) C dk_J7_copyOf_9075b_21 (by decide) ?_
  refine tv_aload_n C dk_J7_copyOf_9075b_22 rfl ?_
  refine tx_blen C dk_J7_copyOf_9075b_23 hj ?_
  refine tv_iload_n C dk_J7_copyOf_9075b_24 rfl ?_
  refine tx_cS C dk_J7_copyOf_9075b_25 ml_RJ7_304 yk_J9_min_7cf53 yi_J9_min_7cf53 (fun w => m_J9_min_7cf53 _ M (nI m) (nI c)) rfl rfl (Nat.le_of_ble_eq_true rfl) (Nat.le_of_ble_eq_true rfl) (Nat.le_of_ble_eq_true rfl) (by omega) (by omega) rfl rfl rfl ?_
  refine tv_ti (v := nI m) ((fx_min M (by omega) (by omega)).trans (by rw [Nat.min_eq_left (by omega)])) ?_
  refine tx_copy C dk_J7_copyOf_9075b_28 ml_RJ7_150 hj hl (by decide) (by decide) (pn_neg (by omega)) (by rw [pn_c (by omega), pn_c (by omega)]; omega) (by rw [pn_c (by omega), pn_c (by omega)]; omega) (fun k _ => hf _) (Nat.le_of_ble_eq_true rfl) (Nat.le_of_ble_eq_true rfl) ?_
  rw [sb_setl, pn_c (n := m) (by omega), pn_c (n := 0) (by omega)]
  refine tv_aload_n C dk_J7_copyOf_9075b_31 rfl ?_
  exact tx_aret C (Or.inr ⟨_, rfl⟩) hQ dk_J7_copyOf_9075b_32 ⟨_, rfl, rfl, rfl⟩ (by omega) (by omega)
theorem a_J5_ensure (G : tvG) (X : va_W) (M : tvM) {i j p n m c : Nat} (hB : sbB G X i j p n m) (hm : m ≤ 120) (hc : c ≤ 60) : tvRunX G yJ5_ensureCapacityInternal_d00df (tvWd yJ5_ensureCapacityInternal_d00df cJ5_ensureCapacityInternal_d00df 3 none) 4 1 120 X [.ref p, .int (nI c)] M (sbV none M (fun X1 => ∃ j1 m1 : Nat, sbB G X1 i j1 p n m1 ∧ c ≤ m1 ∧ m1 ≤ 120 ∧ sbK X X1 i j j1)) := by
  refine tvRunX.of yk_J5_ensureCapacityInternal_d00df rfl [some (.ref p), some (.int (nI c)), none] rfl (Nat.le_of_ble_eq_true rfl) ?_
  intro E hG C hI hQ; subst hG
  have hB0 := hB
  obtain ⟨q, z, f, hx, hj, hnm, hF, hG⟩ := hB
  refine tv_aload_n C dk_J5_ensureCapacityInternal_d00df_0 rfl ?_
  refine tx_getf (i := i) C dk_J5_ensureCapacityInternal_d00df_1 xf_RJ5_15 hx rfl ?_
  refine tx_blen C dk_J5_ensureCapacityInternal_d00df_4 hj ?_
  refine tv_aload_n C dk_J5_ensureCapacityInternal_d00df_5 rfl ?_
  refine tx_getf (i := i) C dk_J5_ensureCapacityInternal_d00df_6 xf_RJ5_22 hx rfl ?_
  refine tv_ishr C dk_J5_ensureCapacityInternal_d00df_9 ?_
  refine tv_ti (v := nI m) (sb_shr0 _) ?_
  refine tv_istore_n (L' := [_, _, _]) (hn := by decide) (hlt := (Nat.le_of_ble_eq_true rfl)) (hno := rfl) C dk_J5_ensureCapacityInternal_d00df_10 rfl ?_
  refine tv_iload_n C dk_J5_ensureCapacityInternal_d00df_11 rfl ?_
  refine tv_iload_n C dk_J5_ensureCapacityInternal_d00df_12 rfl ?_
  refine tv_isub C dk_J5_ensureCapacityInternal_d00df_13 ?_
  by_cases hcm : c ≤ m
  · skip
    refine tv_if_le C dk_J5_ensureCapacityInternal_d00df_14 (fun _ => ?_) (fun h => absurd (sb_le (by omega) (by omega) hcm) h)
    exact tx_vret C hQ dk_J5_ensureCapacityInternal_d00df_38 ⟨rfl, rfl, j, m, hB0, hcm, hm, Nat.le_refl _, fun _ _ _ _ => rfl, Or.inl rfl⟩ (by omega) (by omega)
  refine tv_if_le C dk_J5_ensureCapacityInternal_d00df_14 (fun h => absurd h (sb_nle' (by omega) (by omega) (by omega))) (fun _ => ?_)
  refine tv_aload_n C dk_J5_ensureCapacityInternal_d00df_17 rfl ?_
  refine tv_aload_n C dk_J5_ensureCapacityInternal_d00df_18 rfl ?_
  refine tx_getf (i := i) C dk_J5_ensureCapacityInternal_d00df_19 xf_RJ5_15 hx rfl ?_
  refine tv_aload_n C dk_J5_ensureCapacityInternal_d00df_22 rfl ?_
  refine tv_iload_n C dk_J5_ensureCapacityInternal_d00df_23 rfl ?_
  refine tx_pV (i := i) (ci := 9) (T := TJ4) (N := 4) (Cn := "java/lang/StringBuilder") C dk_J5_ensureCapacityInternal_d00df_24 ml_RJ5_104 yk_J5_newCapacity_0f7a4 im_J5_newCapacity_0f7a4 xs_J5_newCapacity_0f7a4 (a_J5_newCapacity _ X M hx hj (c := c) (by omega) hc) sbV_no hx rfl rfl rfl (Nat.le_of_ble_eq_true rfl) (Nat.le_of_ble_eq_true rfl) (Nat.le_of_ble_eq_true rfl) (by omega) (by omega) (fun v1 X1 M1 h1 => ?_)
  obtain ⟨e1, e2, h1⟩ := h1
  cases e1
  rw [e2]
  rw [h1]
  show tv_W E _ _ _ _ _ _ [.int (nI (m + max (c - m) (m + 2))), .ref q, .ref p]
  refine tv_aload_n C dk_J5_ensureCapacityInternal_d00df_27 rfl ?_
  refine tx_getf (i := i) C dk_J5_ensureCapacityInternal_d00df_28 xf_RJ5_22 hx rfl ?_
  refine tv_ishl C dk_J5_ensureCapacityInternal_d00df_31 ?_
  refine tv_ti (v := nI (m + max (c - m) (m + 2))) (sb_shl0 _) ?_
  refine tx_pS C dk_J5_ensureCapacityInternal_d00df_32 ml_RJ5_108 yk_J7_copyOf_9075b yi_J7_copyOf_9075b (a_J7_copyOf _ X M hj hF (c := m + max (c - m) (m + 2)) (by omega) (by omega)) sbR_no rfl rfl (Nat.le_of_ble_eq_true rfl) (Nat.le_of_ble_eq_true rfl) (Nat.le_of_ble_eq_true rfl) (by omega) (by omega) (fun v1 X1 M1 h1 => ?_)
  obtain ⟨q1, e1, e2, h2⟩ := h1
  cases e1
  rw [e2, h2]
  show tv_W E _ _ _ _ _ _ [.ref q1, .ref p]
  refine tx_putf (i := i) C dk_J5_ensureCapacityInternal_d00df_35 xf_RJ5_15 (xw_9 _ 0 (by decide)) (sb_app _ hx) rfl rfl (Nat.le_of_ble_eq_true rfl) (fs' := [.ref q1, .int 0, .int z, .int (nI n)]) rfl ?_
  have li := sb_lt hx
  have lj := sb_lt hj
  have hij : i ≠ j := fun e => by rw [e, hj] at hx; cases hx
  exact tx_vret C hQ dk_J5_ensureCapacityInternal_d00df_38 ⟨rfl, rfl, X.length, m + max (c - m) (m + 2), ⟨q1, z, _, by rw [List.getElem?_set_self (by simp; omega)], by rw [List.getElem?_set_ne (by omega)]; exact sb_last _ _, by omega, byF_cpy (fun k _ => hF _) byF_0, byG_c hG (fun k hk => sb_cpy0 (by omega))⟩, by omega, by omega, by simp, fun k hk h1 h2 => by rw [List.getElem?_set_ne (by omega), List.getElem?_append_left hk], Or.inr (Nat.le_refl _)⟩ (by omega) (by omega)
theorem a_J5_inflate (G : tvG) (X : va_W) (M : tvM) {i p : Nat} {fs : List Value} (ho : X[i]? = some (p, .inr (9, fs))) (h1 : fs[1]? = some (.int 0)) {a b n : Nat} {f : Nat → Int32} (hx : tvTxt G X a b n f) : tvRunX G yJ5_inflateIfNeededFor_a7421 (tvWd yJ5_inflateIfNeededFor_a7421 cJ5_inflateIfNeededFor_a7421 2 none) 2 0 0 X [.ref p, .ref a] M (sbV none M (fun X1 => X1 = X)) := by
  refine tvRunX.of yk_J5_inflateIfNeededFor_a7421 rfl [some (.ref p), some (.ref a)] rfl (Nat.le_of_ble_eq_true rfl) ?_
  intro E hG C hI hQ; subst hG
  refine tv_getCS C dk_J5_inflateIfNeededFor_a7421_0 xc_RJ5_18 ?_
  refine tv_if_eq C dk_J5_inflateIfNeededFor_a7421_3 (fun h => absurd h (by decide)) (fun _ => ?_)
  refine tv_aload_n C dk_J5_inflateIfNeededFor_a7421_6 rfl ?_
  refine tx_getf C dk_J5_inflateIfNeededFor_a7421_7 xf_RJ5_22 ho h1 ?_
  refine tv_aload_n C dk_J5_inflateIfNeededFor_a7421_10 rfl ?_
  refine tx_pT C dk_J5_inflateIfNeededFor_a7421_11 ml_RJ5_40 yk_J0_coder_7d493 yi_J0_coder_7d493 (a_J0_coder _ X M hx) sbV_no hx rfl rfl rfl (Nat.le_of_ble_eq_true rfl) (Nat.le_of_ble_eq_true rfl) (Nat.le_of_ble_eq_true rfl) (by omega) (by omega) (fun v1 X1 M1 h1 => ?_)
  obtain ⟨e1, e2, h2⟩ := h1
  cases e1
  rw [e2]
  rw [h2]
  show tv_W E _ _ _ _ _ _ [.int 0, .int 0]
  refine tv_icmp_eq C dk_J5_inflateIfNeededFor_a7421_14 (fun _ => ?_) (fun h => absurd rfl h)
  exact tx_vret C hQ dk_J5_inflateIfNeededFor_a7421_21 ⟨rfl, rfl, rfl⟩ (by omega) (by omega)
theorem a_J0_getBytes (G : tvG) (X : va_W) (M : tvM) {j q m o : Nat} {g : Nat → Int32} (hj : X[j]? = some (sbA G q m g)) {a b n : Nat} {f : Nat → Int32} (hx : tvTxt G X a b n f) (hf : byG n f) (ho : o + n ≤ m) (hm : m ≤ 120) : tvRunX G yJ0_getBytes_840e7 (tvWd yJ0_getBytes_840e7 cJ0_getBytes_840e7 4 none) 2 0 0 X [.ref a, .ref q, .int (nI o), .int 0] M (sbV none M (fun X1 => X1 = X.set j (sbA G q m (va_cpy f g 0 o n)))) := by
  refine tvRunX.of yk_J0_getBytes_840e7 rfl [some (.ref a), some (.ref q), some (.int (nI o)), some (.int 0)] rfl (Nat.le_of_ble_eq_true rfl) ?_
  intro E hG C hI hQ; subst hG
  refine tv_aload_n C dk_J0_getBytes_840e7_0 rfl ?_
  refine tx_pT C dk_J0_getBytes_840e7_1 ml_RJ0_335 yk_J0_coder_7d493 yi_J0_coder_7d493 (a_J0_coder _ X M hx) sbV_no hx rfl rfl rfl (Nat.le_of_ble_eq_true rfl) (Nat.le_of_ble_eq_true rfl) (Nat.le_of_ble_eq_true rfl) (by omega) (by omega) (fun v1 X1 M1 h1 => ?_)
  obtain ⟨e1, e2, h1⟩ := h1
  cases e1
  rw [e2]
  rw [h1]
  show tv_W E _ _ _ _ _ _ [.int 0]
  refine tv_iload_n C dk_J0_getBytes_840e7_4 rfl ?_
  refine tv_icmp_ne C dk_J0_getBytes_840e7_5 (fun h => absurd rfl h) (fun _ => ?_)
  refine tv_aload_n C dk_J0_getBytes_840e7_8 rfl ?_
  refine tx_tvalue C dk_J0_getBytes_840e7_9 xf_RJ0_9 hx ?_
  refine tv_iconst (v := 0) C dk_J0_getBytes_840e7_12 (by decide) ?_
  refine tv_aload_n C dk_J0_getBytes_840e7_13 rfl ?_
  refine tv_iload_n C dk_J0_getBytes_840e7_14 rfl ?_
  refine tv_iload_n C dk_J0_getBytes_840e7_15 rfl ?_
  refine tv_ishl C dk_J0_getBytes_840e7_16 ?_
  refine tv_ti (v := nI o) (sb_shl0 _) ?_
  refine tv_aload_n C dk_J0_getBytes_840e7_17 rfl ?_
  refine tx_tvalue C dk_J0_getBytes_840e7_18 xf_RJ0_9 hx ?_
  refine tx_tlen C dk_J0_getBytes_840e7_21 hx ?_
  refine tx_tcopy C dk_J0_getBytes_840e7_22 ml_RJ0_212 hx hj (pn_neg (by omega)) (pn_neg (by omega)) (by rw [pn_c (by omega)]; omega) (by rw [pn_c (by omega), pn_c (by omega)]; omega) (fun k hk => byG_fit hf (by rw [pn_c (by omega)] at hk; exact hk)) (Nat.le_of_ble_eq_true rfl) (Nat.le_of_ble_eq_true rfl) ?_
  rw [pn_c (n := o) (by omega), pn_c (n := n) (by omega)]
  refine tv_goto C dk_J0_getBytes_840e7_25 ?_
  exact tx_vret C hQ dk_J0_getBytes_840e7_43 ⟨rfl, rfl, rfl⟩ (by omega) (by omega)
theorem a_J5_putStringAt (G : tvG) (X : va_W) (M : tvM) {i j p q k m o : Nat} {z : Int32} {g : Nat → Int32} (hi : X[i]? = some (sbO p q k z)) (hj : X[j]? = some (sbA G q m g)) {a b n : Nat} {f : Nat → Int32} (hx : tvTxt G X a b n f) (hf : byG n f) (ho : o + n ≤ m) (hm : m ≤ 120) : tvRunX G yJ5_putStringAt_47b60 (tvWd yJ5_putStringAt_47b60 cJ5_putStringAt_47b60 3 none) 3 0 0 X [.ref p, .int (nI o), .ref a] M (sbV none M (fun X1 => X1 = X.set j (sbA G q m (va_cpy f g 0 o n)))) := by
  refine tvRunX.of yk_J5_putStringAt_47b60 rfl [some (.ref p), some (.int (nI o)), some (.ref a)] rfl (Nat.le_of_ble_eq_true rfl) ?_
  intro E hG C hI hQ; subst hG
  refine tv_aload_n C dk_J5_putStringAt_47b60_0 rfl ?_
  refine tv_aload_n C dk_J5_putStringAt_47b60_1 rfl ?_
  refine tx_pV (i := i) (ci := 9) (T := TJ4) (N := 4) (Cn := "java/lang/StringBuilder") C dk_J5_putStringAt_47b60_2 ml_RJ5_397 yk_J5_inflateIfNeededFor_a7421 im_J5_inflateIfNeededFor_a7421 xs_J5_inflateIfNeededFor_a7421 (a_J5_inflate _ X M hi rfl hx) sbV_no hi rfl rfl rfl (Nat.le_of_ble_eq_true rfl) (Nat.le_of_ble_eq_true rfl) (Nat.le_of_ble_eq_true rfl) (by omega) (by omega) (fun v1 X1 M1 h1 => ?_)
  obtain ⟨e1, e2, h1⟩ := h1
  cases e1
  rw [e2]
  rw [h1]
  show tv_W E _ _ _ _ _ _ []
  refine tv_aload_n C dk_J5_putStringAt_47b60_5 rfl ?_
  refine tv_aload_n C dk_J5_putStringAt_47b60_6 rfl ?_
  refine tx_getf (i := i) C dk_J5_putStringAt_47b60_7 xf_RJ5_15 hi rfl ?_
  refine tv_iload_n C dk_J5_putStringAt_47b60_10 rfl ?_
  refine tv_aload_n C dk_J5_putStringAt_47b60_11 rfl ?_
  refine tx_getf (i := i) C dk_J5_putStringAt_47b60_12 xf_RJ5_22 hi rfl ?_
  refine tx_pT C dk_J5_putStringAt_47b60_15 ml_RJ5_399 yk_J0_getBytes_840e7 yi_J0_getBytes_840e7 (a_J0_getBytes _ X M hj hx hf ho hm) sbV_no hx rfl rfl rfl (Nat.le_of_ble_eq_true rfl) (Nat.le_of_ble_eq_true rfl) (Nat.le_of_ble_eq_true rfl) (by omega) (by omega) (fun v1 X1 M1 h1 => ?_)
  obtain ⟨e1, e2, h2⟩ := h1
  cases e1
  rw [e2]
  rw [h2]
  show tv_W E _ _ _ _ _ _ []
  exact tx_vret C hQ dk_J5_putStringAt_47b60_18 ⟨rfl, rfl, rfl⟩ (by omega) (by omega)
theorem a_J5_appendS (G : tvG) (X : va_W) (M : tvM) {i j p n m a b w : Nat} {f : Nat → Int32} (hB : sbB G X i j p n m) (hm : m ≤ 120) (hT : sbT G X j a b w f) (hf : byG w f) (hw : n + w ≤ 60) : tvRunX G yJ5_append_cf1ce (tvWd yJ5_append_cf1ce cJ5_append_cf1ce 3 (some (.object "java/lang/AbstractStringBuilder"))) 5 1 120 X [.ref p, .ref a] M (sbV (some (.ref p)) M (fun X1 => ∃ j1 m1 : Nat, sbB G X1 i j1 p (n + w) m1 ∧ m1 ≤ 120 ∧ sbK X X1 i j j1)) := by
  refine tvRunX.of yk_J5_append_cf1ce rfl [some (.ref p), some (.ref a), none] rfl (Nat.le_of_ble_eq_true rfl) ?_
  intro E hG C hI hQ; subst hG
  obtain ⟨q, z, g, hx, hj, hnm, hF, hG⟩ := id hB
  refine tv_aload_n C dk_J5_append_cf1ce_0 rfl ?_
  refine tv_ifnonnull C dk_J5_append_cf1ce_1 ?_
  refine tv_aload_n C dk_J5_append_cf1ce_9 rfl ?_
  refine tx_pT C dk_J5_append_cf1ce_10 ml_RJ5_32 yk_J0_length_8abf5 yi_J0_length_8abf5 (a_J0_length _ X M hT.txt) sbV_no hT.txt rfl rfl rfl (Nat.le_of_ble_eq_true rfl) (Nat.le_of_ble_eq_true rfl) (Nat.le_of_ble_eq_true rfl) (by omega) (by omega) (fun v1 X1 M1 h1 => ?_)
  obtain ⟨e1, e2, h1⟩ := h1
  cases e1
  rw [e2]
  rw [h1]
  show tv_W E _ _ _ _ _ _ [.int (nI w)]
  refine tv_istore_n (L' := [_, _, _]) (hn := by decide) (hlt := (Nat.le_of_ble_eq_true rfl)) (hno := rfl) C dk_J5_append_cf1ce_13 rfl ?_
  refine tv_aload_n C dk_J5_append_cf1ce_14 rfl ?_
  refine tv_aload_n C dk_J5_append_cf1ce_15 rfl ?_
  refine tx_getf (i := i) C dk_J5_append_cf1ce_16 xf_RJ5_79 hx rfl ?_
  refine tv_iload_n C dk_J5_append_cf1ce_19 rfl ?_
  refine tv_iadd C dk_J5_append_cf1ce_20 ?_
  refine tv_ti (v := nI (n + w)) (nI_add n w) ?_
  refine tx_pV (i := i) (ci := 9) (T := TJ4) (N := 4) (Cn := "java/lang/StringBuilder") C dk_J5_append_cf1ce_21 ml_RJ5_100 yk_J5_ensureCapacityInternal_d00df im_J5_ensureCapacityInternal_d00df xs_J5_ensureCapacityInternal_d00df (a_J5_ensure _ X M hB hm (c := n + w) hw) sbV_no hx rfl rfl rfl (Nat.le_of_ble_eq_true rfl) (Nat.le_of_ble_eq_true rfl) (Nat.le_of_ble_eq_true rfl) (by omega) (by omega) (fun v1 X1 M1 h1 => ?_)
  obtain ⟨e1, e2, ⟨j1, m1, hB1, hc1, hm1, hK⟩⟩ := h1
  cases e1
  rw [e2]
  show tv_W E _ _ _ _ _ _ []
  have hT1 := hT.keep hK hx hj
  obtain ⟨q1, z1, g1, hx1, hj1, hnm1, hF1, hG1⟩ := id hB1
  refine tv_aload_n C dk_J5_append_cf1ce_24 rfl ?_
  refine tv_aload_n C dk_J5_append_cf1ce_25 rfl ?_
  refine tx_getf (i := i) C dk_J5_append_cf1ce_26 xf_RJ5_79 hx1 rfl ?_
  refine tv_aload_n C dk_J5_append_cf1ce_29 rfl ?_
  refine tx_pV (i := i) (ci := 9) (T := TJ4) (N := 4) (Cn := "java/lang/StringBuilder") C dk_J5_append_cf1ce_30 ml_RJ5_208 yk_J5_putStringAt_47b60 im_J5_putStringAt_47b60 xs_J5_putStringAt_47b60 (a_J5_putStringAt _ X1 M hx1 hj1 hT1.txt hf (o := n) hc1 hm1) sbV_no hx1 rfl rfl rfl (Nat.le_of_ble_eq_true rfl) (Nat.le_of_ble_eq_true rfl) (Nat.le_of_ble_eq_true rfl) (by omega) (by omega) (fun v1 X2 M1 h1 => ?_)
  obtain ⟨e1, e2, h3⟩ := h1
  cases e1
  rw [e2]
  rw [h3]
  show tv_W E _ _ _ _ _ _ []
  have hij : i ≠ j1 := fun e => by rw [e, hj1] at hx1; cases hx1
  have li := sb_lt hx1
  have lj := sb_lt hj1
  have hx2 : (X1.set j1 (sbA E.G q1 m1 (va_cpy f g1 0 n w)))[i]? = some (sbO p q1 n z1) := by rw [List.getElem?_set_ne (fun e => hij e.symm)]; exact hx1
  refine tv_aload_n C dk_J5_append_cf1ce_33 rfl ?_
  refine tv_dup C dk_J5_append_cf1ce_34 rfl ?_
  refine tx_getf (i := i) C dk_J5_append_cf1ce_35 xf_RJ5_79 hx2 rfl ?_
  refine tv_iload_n C dk_J5_append_cf1ce_38 rfl ?_
  refine tv_iadd C dk_J5_append_cf1ce_39 ?_
  refine tv_ti (v := nI (n + w)) (nI_add n w) ?_
  refine tx_putf (i := i) C dk_J5_append_cf1ce_40 xf_RJ5_79 (xw_9 _ 3 (by decide)) hx2 rfl rfl (Nat.le_of_ble_eq_true rfl) (fs' := [.ref q1, .int 0, .int z1, .int (nI (n + w))]) rfl ?_
  refine tv_aload_n C dk_J5_append_cf1ce_43 rfl ?_
  exact tx_aret C (Or.inl ⟨_, rfl⟩) hQ dk_J5_append_cf1ce_44 ⟨rfl, rfl, j1, m1, ⟨q1, z1, _, by rw [List.getElem?_set_self (by simp; omega)], by rw [List.getElem?_set_ne hij, List.getElem?_set_self lj], hc1, byF_cpy (fun k hk => byG_fit hf (by omega)) hF1, byG_cat hG1 hf⟩, hm1, by simp; exact hK.1, fun k hk h1 h2 => by
      have h9 := hK.2.2
      rw [List.getElem?_set_ne (by omega), List.getElem?_set_ne (by omega)]
      exact hK.2.1 k hk h1 h2, hK.2.2⟩ (by omega) (by omega)
theorem a_J4_appendS (G : tvG) (X : va_W) (M : tvM) {i j p n m a b w : Nat} {f : Nat → Int32} (hB : sbB G X i j p n m) (hm : m ≤ 120) (hT : sbT G X j a b w f) (hf : byG w f) (hw : n + w ≤ 60) : tvRunX G yJ4_append_15ec4 (tvWd yJ4_append_15ec4 cJ4_append_15ec4 2 (some (.object "java/lang/StringBuilder"))) 6 1 120 X [.ref p, .ref a] M (sbV (some (.ref p)) M (fun X1 => ∃ j1 m1 : Nat, sbB G X1 i j1 p (n + w) m1 ∧ m1 ≤ 120 ∧ sbK X X1 i j j1)) := by
  refine tvRunX.of yk_J4_append_15ec4 rfl [some (.ref p), some (.ref a)] rfl (Nat.le_of_ble_eq_true rfl) ?_
  intro E hG C hI hQ; subst hG
  obtain ⟨q, z, g, hx, hj, hnm, hF, hG⟩ := id hB
  refine tv_aload_n C dk_J4_append_15ec4_0 rfl ?_
  refine tv_aload_n C dk_J4_append_15ec4_1 rfl ?_
  refine tx_pSU (i := i) (ci := 9) (T := TJ4) (N := 4) (Cn := "java/lang/StringBuilder") C dk_J4_append_15ec4_2 ml_RJ4_29 yk_J5_append_cf1ce im_J5_append_cf1ce (tvgc (tvc_7 (List.mem_of_getElem? (i := 57) (by decide +kernel))) rfl) (tvgc (tvc_4 (List.mem_of_getElem? (i := 232) (by decide +kernel))) rfl) (by decide +kernel) (a_J5_appendS _ X M hB hm hT hf hw) sbV_no hx rfl rfl rfl (Nat.le_of_ble_eq_true rfl) (Nat.le_of_ble_eq_true rfl) (Nat.le_of_ble_eq_true rfl) (by omega) (by omega) (fun v1 X1 M1 h1 => ?_)
  obtain ⟨e1, e2, h1⟩ := h1
  cases e1
  rw [e2]
  show tv_W E _ _ _ _ _ _ [.ref p]
  refine tv_pop C dk_J4_append_15ec4_5 rfl ?_
  refine tv_aload_n C dk_J4_append_15ec4_6 rfl ?_
  exact tx_aret C (Or.inl ⟨_, rfl⟩) hQ dk_J4_append_15ec4_7 ⟨rfl, rfl, h1⟩ (by omega) (by omega)
theorem a_J6_stringSize (G : tvG) (X : va_W) (M : tvM) {v : Nat} (hv : v < 100) : tvRunX G yJ6_stringSize_0f7a4 (tvWd yJ6_stringSize_0f7a4 cJ6_stringSize_0f7a4 4 (some .int)) 1 0 0 X [.int (nI v)] M (sbV (some (.int (nI (if v < 10 then 1 else 2)))) M (fun X1 => X1 = X)) := by
  refine tvRunX.of yk_J6_stringSize_0f7a4 rfl [some (.int (nI v)), none, none, none] rfl (Nat.le_of_ble_eq_true rfl) ?_
  intro E hG C hI hQ; subst hG
  refine tv_iconst (v := nI 1) C dk_J6_stringSize_0f7a4_0 (by decide) ?_
  refine tv_istore_n (L' := [_, _, _, _]) (hn := by decide) (hlt := (Nat.le_of_ble_eq_true rfl)) (hno := rfl) C dk_J6_stringSize_0f7a4_1 rfl ?_
  refine tv_iload_n C dk_J6_stringSize_0f7a4_2 rfl ?_
  refine tv_if_lt C dk_J6_stringSize_0f7a4_3 (fun h => absurd h (pn_neg (by omega))) (fun _ => ?_)
  refine tv_iconst (v := nI 0) C dk_J6_stringSize_0f7a4_6 (by decide) ?_
  refine tv_istore_n (L' := [_, _, _, _]) (hn := by decide) (hlt := (Nat.le_of_ble_eq_true rfl)) (hno := rfl) C dk_J6_stringSize_0f7a4_7 rfl ?_
  refine tv_iload_n C dk_J6_stringSize_0f7a4_8 rfl ?_
  refine tv_ineg C dk_J6_stringSize_0f7a4_9 ?_
  refine tv_istore_n (L' := [_, _, _, _]) (hn := by decide) (hlt := (Nat.le_of_ble_eq_true rfl)) (hno := rfl) C dk_J6_stringSize_0f7a4_10 rfl ?_
  refine tv_bipush (v := (-10)) C dk_J6_stringSize_0f7a4_11 (by decide) ?_
  refine tv_istore_n (L' := [_, _, _, _]) (hn := by decide) (hlt := (Nat.le_of_ble_eq_true rfl)) (hno := rfl) C dk_J6_stringSize_0f7a4_13 rfl ?_
  refine tv_iconst (v := nI 1) C dk_J6_stringSize_0f7a4_14 (by decide) ?_
  refine tv_istore_n (L' := [_, _, _, _]) (hn := by decide) (hlt := (Nat.le_of_ble_eq_true rfl)) (hno := rfl) C dk_J6_stringSize_0f7a4_15 rfl ?_
  refine tv_iload_n C dk_J6_stringSize_0f7a4_16 rfl ?_
  refine tv_bipush (v := nI 10) C dk_J6_stringSize_0f7a4_17 (by decide) ?_
  refine tv_icmp_ge C dk_J6_stringSize_0f7a4_19 (fun h => absurd h (by decide)) (fun _ => ?_)
  refine tv_iload_n C dk_J6_stringSize_0f7a4_22 rfl ?_
  refine tv_iload_n C dk_J6_stringSize_0f7a4_23 rfl ?_
  by_cases h10 : v < 10
  · skip
    rw [if_pos h10] at hQ
    refine tv_icmp_le C dk_J6_stringSize_0f7a4_24 (fun h => absurd h (fun h => by have h := (sb_nle (a := v) (b := 10) (by omega) (by omega)).1 h; omega)) (fun _ => ?_)
    refine tv_iload_n C dk_J6_stringSize_0f7a4_27 rfl ?_
    refine tv_iload_n C dk_J6_stringSize_0f7a4_28 rfl ?_
    refine tv_iadd C dk_J6_stringSize_0f7a4_29 ?_
    refine tv_ti (v := nI (1 + 0)) (nI_add 1 0) ?_
    exact tx_iret C hQ dk_J6_stringSize_0f7a4_30 rfl ⟨rfl, rfl, rfl⟩ (by omega) (by omega)
  rw [if_neg h10] at hQ
  refine tv_icmp_le C dk_J6_stringSize_0f7a4_24 (fun _ => ?_) (fun h => absurd ((sb_nle (a := v) (b := 10) (by omega) (by omega)).2 (by omega)) h)
  refine tv_bipush (v := nI 10) C dk_J6_stringSize_0f7a4_31 (by decide) ?_
  refine tv_iload_n C dk_J6_stringSize_0f7a4_33 rfl ?_
  refine tv_imul C dk_J6_stringSize_0f7a4_34 ?_
  refine tv_ti (v := (-100)) (by decide) ?_
  refine tv_istore_n (L' := [_, _, _, _]) (hn := by decide) (hlt := (Nat.le_of_ble_eq_true rfl)) (hno := rfl) C dk_J6_stringSize_0f7a4_35 rfl ?_
  refine tv_iinc (v := nI (1 + 1)) (L' := [_, _, _, _]) (hn := by decide) (hlt := (Nat.le_of_ble_eq_true rfl)) (hno := rfl) C dk_J6_stringSize_0f7a4_36 rfl (nI_add 1 1) rfl ?_
  refine tv_goto C dk_J6_stringSize_0f7a4_39 ?_
  refine tv_iload_n C dk_J6_stringSize_0f7a4_16 rfl ?_
  refine tv_bipush (v := nI 10) C dk_J6_stringSize_0f7a4_17 (by decide) ?_
  refine tv_icmp_ge C dk_J6_stringSize_0f7a4_19 (fun h => absurd h (by decide)) (fun _ => ?_)
  refine tv_iload_n C dk_J6_stringSize_0f7a4_22 rfl ?_
  refine tv_iload_n C dk_J6_stringSize_0f7a4_23 rfl ?_
  refine tv_icmp_le C dk_J6_stringSize_0f7a4_24 (fun h => absurd h (fun h => by have h := (sb_nle (a := v) (b := 100) (by omega) (by omega)).1 h; omega)) (fun _ => ?_)
  refine tv_iload_n C dk_J6_stringSize_0f7a4_27 rfl ?_
  refine tv_iload_n C dk_J6_stringSize_0f7a4_28 rfl ?_
  refine tv_iadd C dk_J6_stringSize_0f7a4_29 ?_
  refine tv_ti (v := nI ((1 + 1) + 0)) (nI_add (1 + 1) 0) ?_
  exact tx_iret C hQ dk_J6_stringSize_0f7a4_30 rfl ⟨rfl, rfl, rfl⟩ (by omega) (by omega)
theorem a_J6_getChars (G : tvG) (X : va_W) (M : tvM) {v n m j q : Nat} {f : Nat → Int32} (hv : v < 100) (hj : X[j]? = some (sbA G q m f)) (hF : byF f) (hG : byG n f) (hm : n + (if v < 10 then 1 else 2) ≤ m) (hm2 : m ≤ 120) : tvRunX G yJ6_getChars_ba4f3 (tvWd yJ6_getChars_ba4f3 cJ6_getChars_ba4f3 7 (some .int)) 1 0 0 X [.int (nI v), .int (nI (n + (if v < 10 then 1 else 2))), .ref q] M (fun o X1 M1 => ∃ (x : Int32) (g : Nat → Int32), o = .inl (some (.int x)) ∧ M1 = M ∧ X1 = X.set j (sbA G q m g) ∧ byF g ∧ byG (n + (if v < 10 then 1 else 2)) g) := by
  refine tvRunX.of yk_J6_getChars_ba4f3 rfl [some (.int (nI v)), some (.int (nI (n + (if v < 10 then 1 else 2)))), some (.ref q), none, none, none, none] rfl (Nat.le_of_ble_eq_true rfl) ?_
  intro E hG C hI hQ; subst hG
  refine tv_iload_n C dk_J6_getChars_ba4f3_0 rfl ?_
  refine tv_istore (L' := [_, _, _, _, _, _, _]) (hn := by decide) (hlt := (Nat.le_of_ble_eq_true rfl)) (hno := rfl) C dk_J6_getChars_ba4f3_1 rfl ?_
  refine tv_iload_n C dk_J6_getChars_ba4f3_3 rfl ?_
  refine tv_if_ge C dk_J6_getChars_ba4f3_4 (fun _ => ?_) (fun h => absurd (nI_pos' (by omega)) h)
  refine tv_iconst (v := nI 0) C dk_J6_getChars_ba4f3_11 (by decide) ?_
  refine tv_istore (L' := [_, _, _, _, _, _, _]) (hn := by decide) (hlt := (Nat.le_of_ble_eq_true rfl)) (hno := rfl) C dk_J6_getChars_ba4f3_12 rfl ?_
  refine tv_iload C dk_J6_getChars_ba4f3_14 rfl ?_
  refine tv_if_ne C dk_J6_getChars_ba4f3_16 (fun h => absurd rfl h) (fun _ => ?_)
  refine tv_iload_n C dk_J6_getChars_ba4f3_19 rfl ?_
  refine tv_ineg C dk_J6_getChars_ba4f3_20 ?_
  refine tv_istore_n (L' := [_, _, _, _, _, _, _]) (hn := by decide) (hlt := (Nat.le_of_ble_eq_true rfl)) (hno := rfl) C dk_J6_getChars_ba4f3_21 rfl ?_
  refine tv_iload_n C dk_J6_getChars_ba4f3_22 rfl ?_
  refine tv_bipush (v := (-100)) C dk_J6_getChars_ba4f3_23 (by decide) ?_
  refine tv_icmp_gt C dk_J6_getChars_ba4f3_25 (fun _ => ?_) (fun h => absurd ((sb_nlt (a := 100) (b := v) (by omega) (by omega)).2 (by omega)) h)
  by_cases h10 : v < 10
  · skip
    simp only [if_pos h10] at hm hQ ⊢
    have e1 : nI (n + 1) + Int32.ofInt (-1) = nI n := sb_dec1 (by omega)
    refine tv_aload_n C dk_J6_getChars_ba4f3_72 rfl ?_
    refine tv_iinc (v := nI n) (L' := [_, _, _, _, _, _, _]) (hn := by decide) (hlt := (Nat.le_of_ble_eq_true rfl)) (hno := rfl) C dk_J6_getChars_ba4f3_73 rfl e1 rfl ?_
    refine tv_iload C dk_J6_getChars_ba4f3_76 rfl ?_
    refine tx_dgs (F := fun j => nI (48 + j % 10)) C dk_J6_getChars_ba4f3_78 (Or.inl ⟨rfl, rfl⟩) xg_RJ6_83 (fun qd hd => ?_)
    refine tv_iload_n C dk_J6_getChars_ba4f3_81 rfl ?_
    refine tv_ineg C dk_J6_getChars_ba4f3_82 ?_
    refine tv_ti (v := nI v) (Int32.neg_neg) ?_
    refine hd _ _ _ _ _ _ _ _ dk_J6_getChars_ba4f3_83 (vp_in_nI (by omega) (by omega)) ?_
    rw [pn_c (n := v) (by omega)]
    refine tx_bast (pn_c (n := n) (by omega)) (sb_nar (48 + v % 10) (by omega)).1 C dk_J6_getChars_ba4f3_84 hj (vp_in_nI (by omega) (by omega)) ?_
    refine tv_iload_n C dk_J6_getChars_ba4f3_85 rfl ?_
    refine tv_bipush (v := (-9)) C dk_J6_getChars_ba4f3_86 (by decide) ?_
    refine tv_icmp_ge C dk_J6_getChars_ba4f3_88 (fun _ => ?_) (fun h => absurd ((sb_nle (a := 9) (b := v) (by omega) (by omega)).2 (by omega)) h)
    refine tv_iload C dk_J6_getChars_ba4f3_104 rfl ?_
    refine tv_if_eq C dk_J6_getChars_ba4f3_106 (fun _ => ?_) (fun h => absurd rfl h)
    refine tv_iload C dk_J6_getChars_ba4f3_118 rfl ?_
    exact tx_iret C hQ dk_J6_getChars_ba4f3_120 rfl ⟨_, _, rfl, rfl, rfl, byF_upd hF (by omega), byG_put hG (by omega) (by omega)⟩ (by omega) (by omega)
  simp only [if_neg h10] at hm hQ ⊢
  have e1 : nI (n + 2) + Int32.ofInt (-1) = nI (n + 1) := sb_dec1 (by omega)
  have e2 : nI (n + 1) + Int32.ofInt (-1) = nI n := sb_dec1 (by omega)
  refine tv_aload_n C dk_J6_getChars_ba4f3_72 rfl ?_
  refine tv_iinc (v := nI (n + 1)) (L' := [_, _, _, _, _, _, _]) (hn := by decide) (hlt := (Nat.le_of_ble_eq_true rfl)) (hno := rfl) C dk_J6_getChars_ba4f3_73 rfl e1 rfl ?_
  refine tv_iload C dk_J6_getChars_ba4f3_76 rfl ?_
  refine tx_dgs (F := fun j => nI (48 + j % 10)) C dk_J6_getChars_ba4f3_78 (Or.inl ⟨rfl, rfl⟩) xg_RJ6_83 (fun qd hd => ?_)
  refine tv_iload_n C dk_J6_getChars_ba4f3_81 rfl ?_
  refine tv_ineg C dk_J6_getChars_ba4f3_82 ?_
  refine tv_ti (v := nI v) (Int32.neg_neg) ?_
  refine hd _ _ _ _ _ _ _ _ dk_J6_getChars_ba4f3_83 (vp_in_nI (by omega) (by omega)) ?_
  rw [pn_c (n := v) (by omega)]
  refine tx_bast (pn_c (n := n + 1) (by omega)) (sb_nar (48 + v % 10) (by omega)).1 C dk_J6_getChars_ba4f3_84 hj (vp_in_nI (by omega) (by omega)) ?_
  have lj := sb_lt hj
  have hj2 : (X.set j (sbA E.G q m (upd f (n + 1) (nI (48 + v % 10)))))[j]? = some (sbA E.G q m (upd f (n + 1) (nI (48 + v % 10)))) := List.getElem?_set_self lj
  refine tv_iload_n C dk_J6_getChars_ba4f3_85 rfl ?_
  refine tv_bipush (v := (-9)) C dk_J6_getChars_ba4f3_86 (by decide) ?_
  refine tv_icmp_ge C dk_J6_getChars_ba4f3_88 (fun h => absurd h (fun h => by have h := (sb_nle (a := 9) (b := v) (by omega) (by omega)).1 h; omega)) (fun _ => ?_)
  refine tv_aload_n C dk_J6_getChars_ba4f3_91 rfl ?_
  refine tv_iinc (v := nI n) (L' := [_, _, _, _, _, _, _]) (hn := by decide) (hlt := (Nat.le_of_ble_eq_true rfl)) (hno := rfl) C dk_J6_getChars_ba4f3_92 rfl e2 rfl ?_
  refine tv_iload C dk_J6_getChars_ba4f3_95 rfl ?_
  refine tx_dgs (F := fun j => nI (48 + j / 10)) C dk_J6_getChars_ba4f3_97 (Or.inr ⟨rfl, rfl⟩) xg_RJ6_87 (fun qd hd => ?_)
  refine tv_iload_n C dk_J6_getChars_ba4f3_100 rfl ?_
  refine tv_ineg C dk_J6_getChars_ba4f3_101 ?_
  refine tv_ti (v := nI v) (Int32.neg_neg) ?_
  refine hd _ _ _ _ _ _ _ _ dk_J6_getChars_ba4f3_102 (vp_in_nI (by omega) (by omega)) ?_
  rw [pn_c (n := v) (by omega)]
  refine tx_bast (pn_c (n := n) (by omega)) (sb_nar (48 + v / 10) (by omega)).1 C dk_J6_getChars_ba4f3_103 hj2 (vp_in_nI (by omega) (by omega)) ?_
  rw [List.set_set]
  refine tv_iload C dk_J6_getChars_ba4f3_104 rfl ?_
  refine tv_if_eq C dk_J6_getChars_ba4f3_106 (fun _ => ?_) (fun h => absurd rfl h)
  refine tv_iload C dk_J6_getChars_ba4f3_118 rfl ?_
  have hc : upd (upd f (n + 1) (nI (48 + v % 10))) n (nI (48 + v / 10)) = upd (upd f n (nI (48 + v / 10))) (n + 1) (nI (48 + v % 10)) := by funext k; simp only [upd]; split <;> split <;> first | rfl | omega
  rw [hc]
  exact tx_iret C hQ dk_J6_getChars_ba4f3_120 rfl ⟨_, _, rfl, rfl, rfl, byF_upd (byF_upd hF (by omega)) (by omega), byG_put (byG_put hG (by omega) (by omega)) (by omega) (by omega)⟩ (by omega) (by omega)
theorem a_J5_appendI (G : tvG) (X : va_W) (M : tvM) {i j p n m v : Nat} (hB : sbB G X i j p n m) (hm : m ≤ 120) (hv : v < 100) (hw : n + 2 ≤ 60) : tvRunX G yJ5_append_c97b9 (tvWd yJ5_append_c97b9 cJ5_append_c97b9 4 (some (.object "java/lang/AbstractStringBuilder"))) 5 1 120 X [.ref p, .int (nI v)] M (sbV (some (.ref p)) M (fun X1 => ∃ j1 m1 : Nat, sbB G X1 i j1 p (n + (if v < 10 then 1 else 2)) m1 ∧ m1 ≤ 120 ∧ sbK X X1 i j j1)) := by
  refine tvRunX.of yk_J5_append_c97b9 rfl [some (.ref p), some (.int (nI v)), none, none] rfl (Nat.le_of_ble_eq_true rfl) ?_
  intro E hG C hI hQ; subst hG
  obtain ⟨q, z, g, hx, hj, hnm, hF, hG⟩ := id hB
  have hdg : n + (if v < 10 then 1 else 2) ≤ 60 := by split <;> omega
  refine tv_aload_n C dk_J5_append_c97b9_0 rfl ?_
  refine tx_getf (i := i) C dk_J5_append_c97b9_1 xf_RJ5_79 hx rfl ?_
  refine tv_istore_n (L' := [_, _, _, _]) (hn := by decide) (hlt := (Nat.le_of_ble_eq_true rfl)) (hno := rfl) C dk_J5_append_c97b9_4 rfl ?_
  refine tv_iload_n C dk_J5_append_c97b9_5 rfl ?_
  refine tv_iload_n C dk_J5_append_c97b9_6 rfl ?_
  refine tx_pS C dk_J5_append_c97b9_7 ml_RJ5_245 yk_J6_stringSize_0f7a4 yi_J6_stringSize_0f7a4 (a_J6_stringSize _ X M hv) sbV_no rfl rfl (Nat.le_of_ble_eq_true rfl) (Nat.le_of_ble_eq_true rfl) (Nat.le_of_ble_eq_true rfl) (by omega) (by omega) (fun v1 X1 M1 h1 => ?_)
  obtain ⟨e1, e2, h1⟩ := h1
  cases e1
  rw [e2]
  rw [h1]
  show tv_W E _ _ _ _ _ _ [.int (nI (if v < 10 then 1 else 2)), .int (nI n)]
  refine tv_iadd C dk_J5_append_c97b9_10 ?_
  refine tv_ti (v := nI (n + (if v < 10 then 1 else 2))) (nI_add n (if v < 10 then 1 else 2)) ?_
  refine tv_istore_n (L' := [_, _, _, _]) (hn := by decide) (hlt := (Nat.le_of_ble_eq_true rfl)) (hno := rfl) C dk_J5_append_c97b9_11 rfl ?_
  refine tv_aload_n C dk_J5_append_c97b9_12 rfl ?_
  refine tv_iload_n C dk_J5_append_c97b9_13 rfl ?_
  refine tx_pV (i := i) (ci := 9) (T := TJ4) (N := 4) (Cn := "java/lang/StringBuilder") C dk_J5_append_c97b9_14 ml_RJ5_100 yk_J5_ensureCapacityInternal_d00df im_J5_ensureCapacityInternal_d00df xs_J5_ensureCapacityInternal_d00df (a_J5_ensure _ X M hB hm (c := n + (if v < 10 then 1 else 2)) hdg) sbV_no hx rfl rfl rfl (Nat.le_of_ble_eq_true rfl) (Nat.le_of_ble_eq_true rfl) (Nat.le_of_ble_eq_true rfl) (by omega) (by omega) (fun v1 X1 M1 h1 => ?_)
  obtain ⟨e1, e2, ⟨j1, m1, hB1, hc1, hm1, hK⟩⟩ := h1
  cases e1
  rw [e2]
  show tv_W E _ _ _ _ _ _ []
  obtain ⟨q1, z1, g1, hx1, hj1, hnm1, hF1, hG1⟩ := id hB1
  refine tv_aload_n C dk_J5_append_c97b9_17 rfl ?_
  refine tx_pV (i := i) (ci := 9) (T := TJ4) (N := 4) (Cn := "java/lang/StringBuilder") C dk_J5_append_c97b9_18 ml_RJ5_83 yk_J5_isLatin1_aae02 im_J5_isLatin1_aae02 xs_J5_isLatin1_aae02 (a_J5_isLatin1 _ X1 M hx1 rfl) sbV_no hx1 rfl rfl rfl (Nat.le_of_ble_eq_true rfl) (Nat.le_of_ble_eq_true rfl) (Nat.le_of_ble_eq_true rfl) (by omega) (by omega) (fun v1 X2 M1 h1 => ?_)
  obtain ⟨e1, e2, h3⟩ := h1
  cases e1
  rw [e2]
  rw [h3]
  show tv_W E _ _ _ _ _ _ [.int 1]
  refine tv_if_eq C dk_J5_append_c97b9_21 (fun h => absurd h (by decide)) (fun _ => ?_)
  refine tv_iload_n C dk_J5_append_c97b9_24 rfl ?_
  refine tv_iload_n C dk_J5_append_c97b9_25 rfl ?_
  refine tv_aload_n C dk_J5_append_c97b9_26 rfl ?_
  refine tx_getf (i := i) C dk_J5_append_c97b9_27 xf_RJ5_15 hx1 rfl ?_
  refine tx_pS C dk_J5_append_c97b9_30 ml_RJ5_248 yk_J6_getChars_ba4f3 yi_J6_getChars_ba4f3 (a_J6_getChars _ X1 M hv hj1 hF1 hG1 hc1 hm1) (fun e X1 M1 ⟨x, g, h, _⟩ => by cases h) rfl rfl (Nat.le_of_ble_eq_true rfl) (Nat.le_of_ble_eq_true rfl) (Nat.le_of_ble_eq_true rfl) (by omega) (by omega) (fun v1 X3 M1 h1 => ?_)
  obtain ⟨x2, g2, e1, e2, h4, hF2, hG2⟩ := h1
  cases e1
  rw [e2, h4]
  show tv_W E _ _ _ _ _ _ [.int x2]
  have hij : i ≠ j1 := fun e => by rw [e, hj1] at hx1; cases hx1
  have li := sb_lt hx1
  have lj := sb_lt hj1
  have hx2 : (X1.set j1 (sbA E.G q1 m1 g2))[i]? = some (sbO p q1 n z1) := by rw [List.getElem?_set_ne (fun e => hij e.symm)]; exact hx1
  refine tv_pop C dk_J5_append_c97b9_33 rfl ?_
  refine tv_goto C dk_J5_append_c97b9_34 ?_
  refine tv_aload_n C dk_J5_append_c97b9_48 rfl ?_
  refine tv_iload_n C dk_J5_append_c97b9_49 rfl ?_
  refine tx_putf (i := i) C dk_J5_append_c97b9_50 xf_RJ5_79 (xw_9 _ 3 (by decide)) hx2 rfl rfl (Nat.le_of_ble_eq_true rfl) (fs' := [.ref q1, .int 0, .int z1, .int (nI (n + (if v < 10 then 1 else 2)))]) rfl ?_
  refine tv_aload_n C dk_J5_append_c97b9_53 rfl ?_
  exact tx_aret C (Or.inl ⟨_, rfl⟩) hQ dk_J5_append_c97b9_54 ⟨rfl, rfl, j1, m1, ⟨q1, z1, _, by rw [List.getElem?_set_self (by simp; omega)], by rw [List.getElem?_set_ne hij, List.getElem?_set_self lj], hc1, hF2, hG2⟩, hm1, by simp; exact hK.1, fun k hk h1 h2 => by
      have h9 := hK.2.2
      rw [List.getElem?_set_ne (by omega), List.getElem?_set_ne (by omega)]
      exact hK.2.1 k hk h1 h2, hK.2.2⟩ (by omega) (by omega)
theorem a_J4_appendI (G : tvG) (X : va_W) (M : tvM) {i j p n m v : Nat} (hB : sbB G X i j p n m) (hm : m ≤ 120) (hv : v < 100) (hw : n + 2 ≤ 60) : tvRunX G yJ4_append_bf812 (tvWd yJ4_append_bf812 cJ4_append_bf812 2 (some (.object "java/lang/StringBuilder"))) 6 1 120 X [.ref p, .int (nI v)] M (sbV (some (.ref p)) M (fun X1 => ∃ j1 m1 : Nat, sbB G X1 i j1 p (n + (if v < 10 then 1 else 2)) m1 ∧ m1 ≤ 120 ∧ sbK X X1 i j j1)) := by
  refine tvRunX.of yk_J4_append_bf812 rfl [some (.ref p), some (.int (nI v))] rfl (Nat.le_of_ble_eq_true rfl) ?_
  intro E hG C hI hQ; subst hG
  obtain ⟨q, z, g, hx, hj, hnm, hF, hG⟩ := id hB
  refine tv_aload_n C dk_J4_append_bf812_0 rfl ?_
  refine tv_iload_n C dk_J4_append_bf812_1 rfl ?_
  refine tx_pSU (i := i) (ci := 9) (T := TJ4) (N := 4) (Cn := "java/lang/StringBuilder") C dk_J4_append_bf812_2 ml_RJ4_53 yk_J5_append_c97b9 im_J5_append_c97b9 (tvgc (tvc_7 (List.mem_of_getElem? (i := 64) (by decide +kernel))) rfl) (tvgc (tvc_4 (List.mem_of_getElem? (i := 232) (by decide +kernel))) rfl) (by decide +kernel) (a_J5_appendI _ X M hB hm hv hw) sbV_no hx rfl rfl rfl (Nat.le_of_ble_eq_true rfl) (Nat.le_of_ble_eq_true rfl) (Nat.le_of_ble_eq_true rfl) (by omega) (by omega) (fun v1 X1 M1 h1 => ?_)
  obtain ⟨e1, e2, h1⟩ := h1
  cases e1
  rw [e2]
  show tv_W E _ _ _ _ _ _ [.ref p]
  refine tv_pop C dk_J4_append_bf812_5 rfl ?_
  refine tv_aload_n C dk_J4_append_bf812_6 rfl ?_
  exact tx_aret C (Or.inl ⟨_, rfl⟩) hQ dk_J4_append_bf812_7 ⟨rfl, rfl, h1⟩ (by omega) (by omega)
theorem a_J5_getValue (G : tvG) (X : va_W) (M : tvM) {i p q n : Nat} {z : Int32} (hx : X[i]? = some (sbO p q n z)) : tvRunX G yJ5_getValue_6d5f1 (tvWd yJ5_getValue_6d5f1 cJ5_getValue_6d5f1 1 (some (.array .byte))) 1 0 0 X [.ref p] M (sbV (some (.ref q)) M (fun X1 => X1 = X)) := by
  refine tvRunX.of yk_J5_getValue_6d5f1 rfl [some (.ref p)] rfl (Nat.le_of_ble_eq_true rfl) ?_
  intro E hG C hI hQ; subst hG
  refine tv_aload_n C dk_J5_getValue_6d5f1_0 rfl ?_
  refine tx_getf (i := i) C dk_J5_getValue_6d5f1_1 xf_RJ5_15 hx rfl ?_
  exact tx_aret C (Or.inr ⟨_, rfl⟩) hQ dk_J5_getValue_6d5f1_4 ⟨rfl, rfl, rfl⟩ (by omega) (by omega)
theorem a_J5_length (G : tvG) (X : va_W) (M : tvM) {i p q n : Nat} {z : Int32} (hx : X[i]? = some (sbO p q n z)) : tvRunX G yJ5_length_8abf5 (tvWd yJ5_length_8abf5 cJ5_length_8abf5 1 (some .int)) 1 0 0 X [.ref p] M (sbV (some (.int (nI n))) M (fun X1 => X1 = X)) := by
  refine tvRunX.of yk_J5_length_8abf5 rfl [some (.ref p)] rfl (Nat.le_of_ble_eq_true rfl) ?_
  intro E hG C hI hQ; subst hG
  refine tv_aload_n C dk_J5_length_8abf5_0 rfl ?_
  refine tx_getf (i := i) C dk_J5_length_8abf5_1 xf_RJ5_79 hx rfl ?_
  exact tx_iret C hQ dk_J5_length_8abf5_4 rfl ⟨rfl, rfl, rfl⟩ (by omega) (by omega)
theorem a_J4_length (G : tvG) (X : va_W) (M : tvM) {i p q n : Nat} {z : Int32} (hx : X[i]? = some (sbO p q n z)) : tvRunX G yJ4_length_8abf5 (tvWd yJ4_length_8abf5 cJ4_length_8abf5 1 (some .int)) 2 0 0 X [.ref p] M (sbV (some (.int (nI n))) M (fun X1 => X1 = X)) := by
  refine tvRunX.of yk_J4_length_8abf5 rfl [some (.ref p)] rfl (Nat.le_of_ble_eq_true rfl) ?_
  intro E hG C hI hQ; subst hG
  refine tv_aload_n C dk_J4_length_8abf5_0 rfl ?_
  refine tx_pSU (i := i) (ci := 9) (T := TJ4) (N := 4) (Cn := "java/lang/StringBuilder") C dk_J4_length_8abf5_1 ml_RJ4_343 yk_J5_length_8abf5 im_J5_length_8abf5 (tvgc (tvc_5 (List.mem_of_getElem? (i := 155) (by decide +kernel))) rfl) (tvgc (tvc_4 (List.mem_of_getElem? (i := 232) (by decide +kernel))) rfl) (by decide +kernel) (a_J5_length _ X M hx) sbV_no hx rfl rfl rfl (Nat.le_of_ble_eq_true rfl) (Nat.le_of_ble_eq_true rfl) (Nat.le_of_ble_eq_true rfl) (by omega) (by omega) (fun v1 X1 M1 h1 => ?_)
  obtain ⟨e1, e2, h1⟩ := h1
  cases e1
  rw [e2]
  rw [h1]
  show tv_W E _ _ _ _ _ _ [.int (nI n)]
  exact tx_iret C hQ dk_J4_length_8abf5_4 rfl ⟨rfl, rfl, rfl⟩ (by omega) (by omega)
theorem a_J7_checkLength (G : tvG) (X : va_W) (M : tvM) {a b : Nat} (hab : a ≤ b) (hb : b < 1000) : tvRunX G yJ7_checkLength_df160 (tvWd yJ7_checkLength_df160 cJ7_checkLength_df160 2 none) 1 0 0 X [.int (nI a), .int (nI b)] M (sbV none M (fun X1 => X1 = X)) := by
  refine tvRunX.of yk_J7_checkLength_df160 rfl [some (.int (nI a)), some (.int (nI b))] rfl (Nat.le_of_ble_eq_true rfl) ?_
  intro E hG C hI hQ; subst hG
  refine tv_iload_n C dk_J7_checkLength_df160_0 rfl ?_
  refine tv_iload_n C dk_J7_checkLength_df160_1 rfl ?_
  refine tv_icmp_ge C dk_J7_checkLength_df160_2 (fun _ => ?_) (fun h => absurd ((pn_le (by omega) (by omega)).2 hab) h)
  exact tx_vret C hQ dk_J7_checkLength_df160_37 ⟨rfl, rfl, rfl⟩ (by omega) (by omega)
theorem a_J7_copyOfRangeByte (G : tvG) (X : va_W) (M : tvM) {j q m n : Nat} {f : Nat → Int32} (hj : X[j]? = some (sbA G q m f)) (hF : byF f) (hG : byG n f) (hn : n ≤ m) (hm : m ≤ 120) : tvRunX G yJ7_copyOfRangeByte_39247 (tvWd yJ7_copyOfRangeByte_39247 cJ7_copyOfRangeByte_39247 5 (some (.array .byte))) 2 1 120 X [.ref q, .int (nI 0), .int (nI n)] M (sbR M (fun q1 X1 => ∃ g : Nat → Int32, X1 = X ++ [sbA G q1 n g] ∧ byF g ∧ byG n g)) := by
  refine tvRunX.of yk_J7_copyOfRangeByte_39247 rfl [some (.ref q), some (.int (nI 0)), some (.int (nI n)), none, none] rfl (Nat.le_of_ble_eq_true rfl) ?_
  intro E hG C hI hQ; subst hG
  refine tv_iload_n C dk_J7_copyOfRangeByte_39247_0 rfl ?_
  refine tv_iload_n C dk_J7_copyOfRangeByte_39247_1 rfl ?_
  refine tx_pS C dk_J7_copyOfRangeByte_39247_2 ml_RJ7_343 yk_J7_checkLength_df160 yi_J7_checkLength_df160 (a_J7_checkLength _ X M (a := 0) (b := n) (by omega) (by omega)) sbV_no rfl rfl (Nat.le_of_ble_eq_true rfl) (Nat.le_of_ble_eq_true rfl) (Nat.le_of_ble_eq_true rfl) (by omega) (by omega) (fun v1 X1 M1 h1 => ?_)
  obtain ⟨e1, e2, h1⟩ := h1
  cases e1
  rw [e2]
  rw [h1]
  show tv_W E _ _ _ _ _ _ []
  refine tv_iload_n C dk_J7_copyOfRangeByte_39247_5 rfl ?_
  refine tv_iload_n C dk_J7_copyOfRangeByte_39247_6 rfl ?_
  refine tv_isub C dk_J7_copyOfRangeByte_39247_7 ?_
  refine tv_ti (v := nI n) (pn_sub (Nat.zero_le n)) ?_
  refine tv_istore_n (L' := [_, _, _, _, _]) (hn := by decide) (hlt := (Nat.le_of_ble_eq_true rfl)) (hno := rfl) C dk_J7_copyOfRangeByte_39247_8 rfl ?_
  refine tv_iload_n C dk_J7_copyOfRangeByte_39247_9 rfl ?_
  refine tx_newarr (t0 := 2) (N := n) (a0 := (n, .inl (fun _ => 0))) C dk_J7_copyOfRangeByte_39247_10 xa_byte rfl rfl (fun U c h => va_nm_byte h) (fun _ => rfl) (pn_neg (by omega)) (pn_c (by omega)) (Nat.le_trans (Nat.mul_le_mul_left _ (show componentBytes .byte ≤ 1 from by decide)) (by omega)) (Nat.le_of_ble_eq_true rfl) (by omega) (fun q1 => ?_)
  have hj := sb_app [sbA E.G q1 n (fun _ => 0)] hj
  have hl := sb_last X (sbA E.G q1 n (fun _ => 0))
  refine tv_astore (L' := [_, _, _, _, _]) (hn := by decide) (hlt := (Nat.le_of_ble_eq_true rfl)) (hno := rfl) C dk_J7_copyOfRangeByte_39247_12 rfl ?_
  refine tv_aload_n C dk_J7_copyOfRangeByte_39247_14 rfl ?_
  refine tv_iload_n C dk_J7_copyOfRangeByte_39247_15 rfl ?_
  refine tv_aload C dk_J7_copyOfRangeByte_39247_16 rfl ?_
  refine tv_iconst (v := nI 0) C dk_J7_copyOfRangeByte_39247_18 (by decide) ?_
  refine tv_aload_n C dk_J7_copyOfRangeByte_39247_19 rfl ?_
  refine tx_blen C dk_J7_copyOfRangeByte_39247_20 hj ?_
  refine tv_iload_n C dk_J7_copyOfRangeByte_39247_21 rfl ?_
  refine tv_isub C dk_J7_copyOfRangeByte_39247_22 ?_
  refine tv_ti (v := nI m) (pn_sub (Nat.zero_le m)) ?_
  refine tv_iload_n C dk_J7_copyOfRangeByte_39247_23 rfl ?_
  refine tx_cS C dk_J7_copyOfRangeByte_39247_24 ml_RJ7_304 yk_J9_min_7cf53 yi_J9_min_7cf53 (fun w => m_J9_min_7cf53 _ M (nI m) (nI n)) rfl rfl (Nat.le_of_ble_eq_true rfl) (Nat.le_of_ble_eq_true rfl) (Nat.le_of_ble_eq_true rfl) (by omega) (by omega) rfl rfl rfl ?_
  refine tv_ti (v := nI n) ((fx_min M (by omega) (by omega)).trans (by rw [Nat.min_eq_right (by omega)])) ?_
  refine tx_copy C dk_J7_copyOfRangeByte_39247_27 ml_RJ7_150 hj hl (by decide) (by decide) (pn_neg (by omega)) (by rw [pn_c (by omega), pn_c (by omega)]; omega) (by rw [pn_c (by omega), pn_c (by omega)]; omega) (fun k _ => hF _) (Nat.le_of_ble_eq_true rfl) (Nat.le_of_ble_eq_true rfl) ?_
  rw [sb_setl, pn_c (n := n) (by omega), pn_c (n := 0) (by omega)]
  refine tv_aload C dk_J7_copyOfRangeByte_39247_30 rfl ?_
  exact tx_aret C (Or.inr ⟨_, rfl⟩) hQ dk_J7_copyOfRangeByte_39247_32 ⟨_, rfl, rfl, _, rfl, byF_cpy (fun k _ => hF _) byF_0, byG_c hG (fun k hk => sb_cpy0 hk)⟩ (by omega) (by omega)
theorem a_J7_copyOfRange (G : tvG) (X : va_W) (M : tvM) {j q m n : Nat} {f : Nat → Int32} (hj : X[j]? = some (sbA G q m f)) (hF : byF f) (hG : byG n f) (hn : n ≤ m) (hm : m ≤ 120) : tvRunX G yJ7_copyOfRange_39247 (tvWd yJ7_copyOfRange_39247 cJ7_copyOfRange_39247 3 (some (.array .byte))) 3 1 120 X [.ref q, .int (nI 0), .int (nI n)] M (sbR M (fun q1 X1 => ∃ g : Nat → Int32, X1 = X ++ [sbA G q1 n g] ∧ byF g ∧ byG n g)) := by
  refine tvRunX.of yk_J7_copyOfRange_39247 rfl [some (.ref q), some (.int (nI 0)), some (.int (nI n))] rfl (Nat.le_of_ble_eq_true rfl) ?_
  intro E hG C hI hQ; subst hG
  refine tv_iload_n C dk_J7_copyOfRange_39247_0 rfl ?_
  refine tv_if_ne C dk_J7_copyOfRange_39247_1 (fun h => absurd rfl h) (fun _ => ?_)
  refine tv_iload_n C dk_J7_copyOfRange_39247_4 rfl ?_
  refine tv_aload_n C dk_J7_copyOfRange_39247_5 rfl ?_
  refine tx_blen C dk_J7_copyOfRange_39247_6 hj ?_
  by_cases hnm : n = m
  · skip
    subst hnm
    refine tv_icmp_eq C dk_J7_copyOfRange_39247_7 (fun _ => ?_) (fun h => absurd rfl h)
    refine tv_aload_n C dk_J7_copyOfRange_39247_17 rfl ?_
    refine tx_clone C dk_J7_copyOfRange_39247_18 xcl hj (fun k _ => hF k) rfl (Nat.le_of_ble_eq_true rfl) (Nat.le_of_ble_eq_true rfl) (by omega) (fun q1 => ?_)
    refine tx_castB C dk_J7_copyOfRange_39247_21 xcb (sb_last X _) ?_
    exact tx_aret C (Or.inr ⟨_, rfl⟩) hQ dk_J7_copyOfRange_39247_24 ⟨_, rfl, rfl, _, rfl, hF, hG⟩ (by omega) (by omega)
  refine tv_icmp_eq C dk_J7_copyOfRange_39247_7 (fun h => absurd h (fun h => hnm ((pn_eq (by omega) (by omega)).1 h))) (fun _ => ?_)
  refine tv_aload_n C dk_J7_copyOfRange_39247_10 rfl ?_
  refine tv_iload_n C dk_J7_copyOfRange_39247_11 rfl ?_
  refine tv_iload_n C dk_J7_copyOfRange_39247_12 rfl ?_
  refine tx_pS C dk_J7_copyOfRange_39247_13 ml_RJ7_339 yk_J7_copyOfRangeByte_39247 yi_J7_copyOfRangeByte_39247 (a_J7_copyOfRangeByte _ X M hj hF hG hn hm) sbR_no rfl rfl (Nat.le_of_ble_eq_true rfl) (Nat.le_of_ble_eq_true rfl) (Nat.le_of_ble_eq_true rfl) (by omega) (by omega) (fun v1 X1 M1 h1 => ?_)
  obtain ⟨q1, e1, e2, g, h2, hF1, hG1⟩ := h1
  cases e1
  rw [e2, h2]
  show tv_W E _ _ _ _ _ _ [.ref q1]
  exact tx_aret C (Or.inr ⟨_, rfl⟩) hQ dk_J7_copyOfRange_39247_16 ⟨_, rfl, rfl, _, rfl, hF1, hG1⟩ (by omega) (by omega)
theorem a_J0_init2 (G : tvG) (X : va_W) (M : tvM) {t a i j p n m : Nat} (ht : X[t]? = some (a, .inr (10, [.null, .int 0, .int 0, .int 0]))) (hB : sbB G X i j p n m) (hm : m ≤ 120) : tvRunX G yJ0_init_db425 (tvWd yJ0_init_db425 cJ0_init_db425 5 none) 4 1 120 X [.ref a, .ref p, .null] M (sbV none M (fun X1 => ∃ (b : Nat) (g : Nat → Int32), X1 = (X.set t (a, .inr (10, [.ref b, .int 0, .int 0, .int 0]))) ++ [sbA G b n g] ∧ byF g ∧ byG n g)) := by
  refine tvRunX.of yk_J0_init_db425 rfl [some (.ref a), some (.ref p), some (.null), none, none] rfl (Nat.le_of_ble_eq_true rfl) ?_
  intro E hG C hI hQ; subst hG
  obtain ⟨q, z, f, hx, hj, hnm, hF, hG⟩ := id hB
  refine tv_aload_n C dk_J0_init_db425_0 rfl ?_
  refine tv_obj C dk_J0_init_db425_1 ml_RJ0_1 (Nat.le_of_ble_eq_true rfl) (Nat.le_of_ble_eq_true rfl) ?_
  refine tv_aload_n C dk_J0_init_db425_4 rfl ?_
  refine tx_pV (i := i) (ci := 9) (T := TJ4) (N := 4) (Cn := "java/lang/StringBuilder") C dk_J0_init_db425_5 ml_RJ0_552 yk_J5_getValue_6d5f1 im_J5_getValue_6d5f1 xs_J5_getValue_6d5f1 (a_J5_getValue _ X M hx) sbV_no hx rfl rfl rfl (Nat.le_of_ble_eq_true rfl) (Nat.le_of_ble_eq_true rfl) (Nat.le_of_ble_eq_true rfl) (by omega) (by omega) (fun v1 X1 M1 h1 => ?_)
  obtain ⟨e1, e2, h1⟩ := h1
  cases e1
  rw [e2]
  rw [h1]
  show tv_W E _ _ _ _ _ _ [.ref q]
  refine tv_astore_n (L' := [_, _, _, _, _]) (hn := by decide) (hlt := (Nat.le_of_ble_eq_true rfl)) (hno := rfl) C dk_J0_init_db425_8 rfl ?_
  refine tv_aload_n C dk_J0_init_db425_9 rfl ?_
  refine tx_pO (i := i) (ci := 9) (T := TJ4) (N := 4) (Cn := "java/lang/StringBuilder") C dk_J0_init_db425_10 ml_RJ0_549 yk_J4_length_8abf5 yk_J5_length_8abf5 im_J5_length_8abf5 im_J4_length_8abf5 (tvgc (tvc_5 (List.mem_of_getElem? (i := 155) (by decide +kernel))) rfl) (tvgc (tvc_5 (List.mem_of_getElem? (i := 156) (by decide +kernel))) rfl) (a_J4_length _ X M hx) sbV_no hx rfl rfl rfl (Nat.le_of_ble_eq_true rfl) (Nat.le_of_ble_eq_true rfl) (Nat.le_of_ble_eq_true rfl) (by omega) (by omega) (fun v1 X1 M1 h1 => ?_)
  obtain ⟨e1, e2, h2⟩ := h1
  cases e1
  rw [e2]
  rw [h2]
  show tv_W E _ _ _ _ _ _ [.int (nI n)]
  refine tv_istore (L' := [_, _, _, _, _]) (hn := by decide) (hlt := (Nat.le_of_ble_eq_true rfl)) (hno := rfl) C dk_J0_init_db425_13 rfl ?_
  refine tv_aload_n C dk_J0_init_db425_15 rfl ?_
  refine tx_pV (i := i) (ci := 9) (T := TJ4) (N := 4) (Cn := "java/lang/StringBuilder") C dk_J0_init_db425_16 ml_RJ0_1047 yk_J5_isLatin1_aae02 im_J5_isLatin1_aae02 xs_J5_isLatin1_aae02 (a_J5_isLatin1 _ X M hx rfl) sbV_no hx rfl rfl rfl (Nat.le_of_ble_eq_true rfl) (Nat.le_of_ble_eq_true rfl) (Nat.le_of_ble_eq_true rfl) (by omega) (by omega) (fun v1 X1 M1 h1 => ?_)
  obtain ⟨e1, e2, h3⟩ := h1
  cases e1
  rw [e2]
  rw [h3]
  show tv_W E _ _ _ _ _ _ [.int 1]
  refine tv_if_eq C dk_J0_init_db425_19 (fun h => absurd h (by decide)) (fun _ => ?_)
  refine tv_aload_n C dk_J0_init_db425_22 rfl ?_
  refine tv_iconst (v := nI 0) C dk_J0_init_db425_23 (by decide) ?_
  have nt : t ≠ j := fun e => by rw [e, hj] at ht; cases ht
  have lt := sb_lt ht
  refine tx_putF (i := t) C hI dk_J0_init_db425_24 xf_RJ0_15 (xw_10 1 (by decide)) ht rfl rfl (Nat.le_of_ble_eq_true rfl) (fs' := [.null, .int 0, .int 0, .int 0]) rfl ?_
  have hX : X.set t (a, .inr (10, [.null, .int 0, .int 0, .int 0])) = X := sb_same ht
  rw [hX]
  refine tv_aload_n C dk_J0_init_db425_27 rfl ?_
  refine tv_aload_n C dk_J0_init_db425_28 rfl ?_
  refine tv_iconst (v := nI 0) C dk_J0_init_db425_29 (by decide) ?_
  refine tv_iload C dk_J0_init_db425_30 rfl ?_
  refine tx_pS C dk_J0_init_db425_32 ml_RJ0_54 yk_J7_copyOfRange_39247 yi_J7_copyOfRange_39247 (a_J7_copyOfRange _ X M hj hF hG hnm hm) sbR_no rfl rfl (Nat.le_of_ble_eq_true rfl) (Nat.le_of_ble_eq_true rfl) (Nat.le_of_ble_eq_true rfl) (by omega) (by omega) (fun v1 X1 M1 h1 => ?_)
  obtain ⟨b, e1, e2, g, h4, hF1, hG1⟩ := h1
  cases e1
  rw [e2, h4]
  show tv_W E _ _ _ _ _ _ [.ref b, .ref a]
  refine tx_putF (i := t) C hI dk_J0_init_db425_35 xf_RJ0_9 (xw_10 0 (by decide)) (sb_app _ ht) rfl rfl (Nat.le_of_ble_eq_true rfl) (fs' := [.ref b, .int 0, .int 0, .int 0]) rfl ?_
  rw [List.set_append_left _ _ lt]
  refine tv_goto C dk_J0_init_db425_38 ?_
  exact tx_vret C hQ dk_J0_init_db425_97 ⟨rfl, rfl, b, g, rfl, hF1, hG1⟩ (by omega) (by omega)
theorem a_J0_init1 (G : tvG) (X : va_W) (M : tvM) {t a i j p n m : Nat} (ht : X[t]? = some (a, .inr (10, [.null, .int 0, .int 0, .int 0]))) (hB : sbB G X i j p n m) (hm : m ≤ 120) : tvRunX G yJ0_init_81219 (tvWd yJ0_init_81219 cJ0_init_81219 2 none) 5 1 120 X [.ref a, .ref p] M (sbV none M (fun X1 => ∃ (b : Nat) (g : Nat → Int32), X1 = (X.set t (a, .inr (10, [.ref b, .int 0, .int 0, .int 0]))) ++ [sbA G b n g] ∧ byF g ∧ byG n g)) := by
  refine tvRunX.of yk_J0_init_81219 rfl [some (.ref a), some (.ref p)] rfl (Nat.le_of_ble_eq_true rfl) ?_
  intro E hG C hI hQ; subst hG
  refine tv_aload_n C dk_J0_init_81219_0 rfl ?_
  refine tv_aload_n C dk_J0_init_81219_1 rfl ?_
  refine tv_null C dk_J0_init_81219_2 ?_
  refine tx_pI C dk_J0_init_81219_3 ml_RJ0_489 yk_J0_init_db425 rfl im_J0_init_db425 (a_J0_init2 _ X M ht hB hm) sbV_no rfl rfl (Nat.le_of_ble_eq_true rfl) (Nat.le_of_ble_eq_true rfl) (Nat.le_of_ble_eq_true rfl) (by omega) (by omega) (fun v1 X1 M1 h1 => ?_)
  obtain ⟨e1, e2, h1⟩ := h1
  cases e1
  rw [e2]
  show tv_W E _ _ _ _ _ _ []
  exact tx_vret C hQ dk_J0_init_81219_6 ⟨rfl, rfl, h1⟩ (by omega) (by omega)
theorem a_J4_toString (G : tvG) (X : va_W) (M : tvM) {i j p n m : Nat} (hB : sbB G X i j p n m) (hm : m ≤ 120) : tvRunX G yJ4_toString_0e30d (tvWd yJ4_toString_0e30d cJ4_toString_0e30d 1 (some (.object "java/lang/String"))) 6 2 124 X [.ref p] M (sbR M (fun a X1 => ∃ (b : Nat) (g : Nat → Int32), X1 = X ++ [(a, .inr (10, [.ref b, .int 0, .int 0, .int 0])), sbA G b n g] ∧ byF g ∧ byG n g)) := by
  refine tvRunX.of yk_J4_toString_0e30d rfl [some (.ref p)] rfl (Nat.le_of_ble_eq_true rfl) ?_
  intro E hG C hI hQ; subst hG
  refine tx_new (N := 4) (fs := [.null, .int 0, .int 0, .int 0]) C dk_J4_toString_0e30d_0 xn_str rfl (fun k hk => by rcases (show k = 0 ∨ k = 1 ∨ k = 2 ∨ k = 3 by omega) with rfl | rfl | rfl | rfl <;> rfl) (Nat.le_of_ble_eq_true rfl) (Nat.le_of_ble_eq_true rfl) (fun a => ?_)
  obtain ⟨q, z, f, hx, hj, hnm, hF, hG⟩ := hB
  refine tv_dup C dk_J4_toString_0e30d_3 rfl ?_
  refine tv_aload_n C dk_J4_toString_0e30d_4 rfl ?_
  refine tx_pI C dk_J4_toString_0e30d_5 ml_RJ4_137 yk_J0_init_81219 rfl im_J0_init_81219 (a_J0_init1 _ _ M (sb_last X _) (i := i) (j := j) (p := p) (n := n) (m := m) ⟨q, z, f, sb_app _ hx, sb_app _ hj, hnm, hF, hG⟩ hm) sbV_no rfl rfl (Nat.le_of_ble_eq_true rfl) (Nat.le_of_ble_eq_true rfl) (Nat.le_of_ble_eq_true rfl) (by omega) (by omega) (fun v1 X1 M1 h1 => ?_)
  obtain ⟨e1, e2, ⟨b, g, h2, hF1, hG1⟩⟩ := h1
  cases e1
  rw [e2]
  rw [h2, sb_setl, List.append_assoc]
  show tv_W E _ _ _ _ _ _ [.ref a]
  exact tx_aret C (Or.inl ⟨_, rfl⟩) hQ dk_J4_toString_0e30d_8 ⟨_, rfl, rfl, b, g, rfl, hF1, hG1⟩ (by omega) (by omega)
theorem a_J5_init (G : tvG) (X : va_W) (M : tvM) {i p : Nat} (hx : X[i]? = some (p, .inr (9, [.null, .int 0, .int 0, .int 0]))) : tvRunX G yJ5_init_d00df (tvWd yJ5_init_d00df cJ5_init_d00df 2 none) 1 1 16 X [.ref p, .int (nI 16)] M (sbV none M (fun X1 => ∃ q : Nat, X1 = (X.set i (sbO p q 0 0)) ++ [sbA G q 16 (fun _ => 0)])) := by
  refine tvRunX.of yk_J5_init_d00df rfl [some (.ref p), some (.int (nI 16))] rfl (Nat.le_of_ble_eq_true rfl) ?_
  intro E hG C hI hQ; subst hG
  refine tv_aload_n C dk_J5_init_d00df_0 rfl ?_
  refine tv_obj C dk_J5_init_d00df_1 ml_RJ5_3 (Nat.le_of_ble_eq_true rfl) (Nat.le_of_ble_eq_true rfl) ?_
  refine tv_getCS C dk_J5_init_d00df_4 xc_RJ5_18 ?_
  refine tv_if_eq C dk_J5_init_d00df_7 (fun h => absurd h (by decide)) (fun _ => ?_)
  refine tv_aload_n C dk_J5_init_d00df_10 rfl ?_
  refine tv_iload_n C dk_J5_init_d00df_11 rfl ?_
  refine tx_newarr (t0 := 2) (N := 16) (a0 := (16, .inl (fun _ => 0))) C dk_J5_init_d00df_12 xa_byte rfl rfl (fun U c h => va_nm_byte h) (fun _ => rfl) (pn_neg (by omega)) (pn_c (by omega)) (Nat.le_trans (Nat.mul_le_mul_left _ (show componentBytes .byte ≤ 1 from by decide)) (by omega)) (Nat.le_of_ble_eq_true rfl) (by omega) (fun q1 => ?_)
  have li := sb_lt hx
  refine tx_putf (i := i) C dk_J5_init_d00df_14 xf_RJ5_15 (xw_9 _ 0 (by decide)) (sb_app _ hx) rfl rfl (Nat.le_of_ble_eq_true rfl) (fs' := [.ref q1, .int 0, .int 0, .int 0]) rfl ?_
  rw [List.set_append_left _ _ li]
  refine tv_aload_n C dk_J5_init_d00df_17 rfl ?_
  refine tv_iconst (v := nI 0) C dk_J5_init_d00df_18 (by decide) ?_
  refine tx_putf (i := i) C dk_J5_init_d00df_19 xf_RJ5_22 (xw_9 _ 1 (by decide)) (sb_app _ (List.getElem?_set_self li)) rfl rfl (Nat.le_of_ble_eq_true rfl) (fs' := [.ref q1, .int 0, .int 0, .int 0]) rfl ?_
  rw [List.set_append_left _ _ (by simp; exact li), List.set_set]
  refine tv_goto C dk_J5_init_d00df_22 ?_
  exact tx_vret C hQ dk_J5_init_d00df_38 ⟨rfl, rfl, q1, rfl⟩ (by omega) (by omega)
theorem a_J4_init (G : tvG) (X : va_W) (M : tvM) {i p : Nat} (hx : X[i]? = some (p, .inr (9, [.null, .int 0, .int 0, .int 0]))) : tvRunX G yJ4_init_da8c8 (tvWd yJ4_init_da8c8 cJ4_init_da8c8 1 none) 2 1 16 X [.ref p] M (sbV none M (fun X1 => ∃ q : Nat, X1 = (X.set i (sbO p q 0 0)) ++ [sbA G q 16 (fun _ => 0)])) := by
  refine tvRunX.of yk_J4_init_da8c8 rfl [some (.ref p)] rfl (Nat.le_of_ble_eq_true rfl) ?_
  intro E hG C hI hQ; subst hG
  refine tv_aload_n C dk_J4_init_da8c8_0 rfl ?_
  refine tv_bipush (v := nI 16) C dk_J4_init_da8c8_1 (by decide) ?_
  refine tx_pI C dk_J4_init_da8c8_3 ml_RJ4_1 yk_J5_init_d00df rfl im_J5_init_d00df (a_J5_init _ X M hx) sbV_no rfl rfl (Nat.le_of_ble_eq_true rfl) (Nat.le_of_ble_eq_true rfl) (Nat.le_of_ble_eq_true rfl) (by omega) (by omega) (fun v1 X1 M1 h1 => ?_)
  obtain ⟨e1, e2, h1⟩ := h1
  cases e1
  rw [e2]
  show tv_W E _ _ _ _ _ _ []
  exact tx_vret C hQ dk_J4_init_da8c8_6 ⟨rfl, rfl, h1⟩ (by omega) (by omega)
theorem a_J1_charAt (G : tvG) (X : va_W) (M : tvM) {a b n : Nat} {f : Nat → Int32} (hx : tvTxt G X a b n f) {k c : Nat} (hk : k < n) (hn : n < 1000) (hc : c < 128) (hfk : f k = nI c) : tvRunX G yJ1_charAt_3b067 (tvWd yJ1_charAt_3b067 cJ1_charAt_3b067 2 (some .char)) 3 0 0 X [.ref b, .int (nI k)] M (sbV (some (.int (nI c))) M (fun X1 => X1 = X)) := by
  refine tvRunX.of yk_J1_charAt_3b067 rfl [some (.ref b), some (.int (nI k))] rfl (Nat.le_of_ble_eq_true rfl) ?_
  intro E hG C hI hQ; subst hG
  refine tv_iload_n C dk_J1_charAt_3b067_0 rfl ?_
  refine tv_aload_n C dk_J1_charAt_3b067_1 rfl ?_
  refine tx_tlen C dk_J1_charAt_3b067_2 hx ?_
  refine tx_cS C dk_J1_charAt_3b067_3 ml_RJ1_9 yk_J0_checkIndex_df160 yi_J0_checkIndex_df160 (fun w => m_J0_checkIndex_df160 _ M (pn_neg (by omega)) ((pn_lt (by omega) (by omega)).2 hk)) rfl rfl (Nat.le_of_ble_eq_true rfl) (Nat.le_of_ble_eq_true rfl) (Nat.le_of_ble_eq_true rfl) (Nat.le_of_ble_eq_true rfl) (Nat.le_of_ble_eq_true rfl) rfl rfl rfl ?_
  refine tv_aload_n C dk_J1_charAt_3b067_6 rfl ?_
  refine tv_iload_n C dk_J1_charAt_3b067_7 rfl ?_
  refine tx_tbyte (pn_c (n := k) (by omega)) C dk_J1_charAt_3b067_8 hx (vp_in_nI hk (by omega)) ?_
  refine tv_ti (v := nI c) hfk ?_
  refine tv_sipush (v := 255) C dk_J1_charAt_3b067_9 (by decide) ?_
  refine tv_iand C dk_J1_charAt_3b067_12 ?_
  refine tv_i2c C dk_J1_charAt_3b067_13 ?_
  refine tv_ti (v := nI c) (sb_nar c hc).2.2.1 ?_
  exact tx_iret C hQ dk_J1_charAt_3b067_14 (sb_nar c hc).2.2.2 ⟨rfl, rfl, rfl⟩ (by omega) (by omega)
theorem a_J0_charAt (G : tvG) (X : va_W) (M : tvM) {a b n : Nat} {f : Nat → Int32} (hx : tvTxt G X a b n f) {k c : Nat} (hk : k < n) (hn : n < 1000) (hc : c < 128) (hfk : f k = nI c) : tvRunX G yJ0_charAt_5068e (tvWd yJ0_charAt_5068e cJ0_charAt_5068e 2 (some .char)) 4 0 0 X [.ref a, .int (nI k)] M (sbV (some (.int (nI c))) M (fun X1 => X1 = X)) := by
  refine tvRunX.of yk_J0_charAt_5068e rfl [some (.ref a), some (.int (nI k))] rfl (Nat.le_of_ble_eq_true rfl) ?_
  intro E hG C hI hQ; subst hG
  refine tv_aload_n C dk_J0_charAt_5068e_0 rfl ?_
  refine tx_pT C dk_J0_charAt_5068e_1 ml_RJ0_492 yk_J0_isLatin1_aae02 yi_J0_isLatin1_aae02 (a_J0_isLatin1 _ X M hx) sbV_no hx rfl rfl rfl (Nat.le_of_ble_eq_true rfl) (Nat.le_of_ble_eq_true rfl) (Nat.le_of_ble_eq_true rfl) (by omega) (by omega) (fun v1 X1 M1 h1 => ?_)
  obtain ⟨e1, e2, h1⟩ := h1
  cases e1
  rw [e2]
  rw [h1]
  show tv_W E _ _ _ _ _ _ [.int 1]
  refine tv_if_eq C dk_J0_charAt_5068e_4 (fun h => absurd h (by decide)) (fun _ => ?_)
  refine tv_aload_n C dk_J0_charAt_5068e_7 rfl ?_
  refine tx_tvalue C dk_J0_charAt_5068e_8 xf_RJ0_9 hx ?_
  refine tv_iload_n C dk_J0_charAt_5068e_11 rfl ?_
  refine tx_pS C dk_J0_charAt_5068e_12 ml_RJ0_495 yk_J1_charAt_3b067 yi_J1_charAt_3b067 (a_J1_charAt _ X M hx hk hn hc hfk) sbV_no rfl rfl (Nat.le_of_ble_eq_true rfl) (Nat.le_of_ble_eq_true rfl) (Nat.le_of_ble_eq_true rfl) (by omega) (by omega) (fun v1 X1 M1 h1 => ?_)
  obtain ⟨e1, e2, h2⟩ := h1
  cases e1
  rw [e2]
  rw [h2]
  show tv_W E _ _ _ _ _ _ [.int (nI c)]
  exact tx_iret C hQ dk_J0_charAt_5068e_15 (sb_nar c hc).2.2.2 ⟨rfl, rfl, rfl⟩ (by omega) (by omega)
