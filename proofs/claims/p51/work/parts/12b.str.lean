theorem js_cs : Cond.fieldLink RJ0 38 "java/lang/String" "COMPACT_STRINGS" "Z" ∈ tvGW := tvgc (tvc_5 (List.mem_of_getElem? (i := 73) (by decide +kernel))) rfl
theorem js_co : Cond.fieldLink RJ0 15 "java/lang/String" "coder" "B" ∈ tvGW := tvgc (tvc_5 (List.mem_of_getElem? (i := 193) (by decide +kernel))) rfl
theorem js_va : Cond.fieldLink RJ0 9 "java/lang/String" "value" "[B" ∈ tvGW := tvgc (tvc_5 (List.mem_of_getElem? (i := 192) (by decide +kernel))) rfl
theorem js_sf : Cond.fieldLink RJ0 1053 "jdk/internal/util/Preconditions" "SIOOBE_FORMATTER" "Ljava/util/function/BiFunction;" ∈ tvGW := tvgc (tvc_5 (List.mem_of_getElem? (i := 51) (by decide +kernel))) rfl
/-! ===== the text constants' length and signs: the JDK's methods ===== -/
def f_J0_length_8abf5 (x : Nat) : Int32 := nI (tvLen.getD x 0)
def f_J0_charAt_5068e (x : Nat) (k : Int32) : Int32 := (tvByt.getD x []).getD k.toNatClampNeg 0
section TVS
variable {E : tvE} {P P1 : tvPh} {k sl d mc ms nL pc pc' : Nat} {M M1 : tvM} {L : List (Option Value)} {st : List Value} {own : String} {cc : ByteArray} {ret : Option FieldType} {tb : List ExceptionTableEntry} {o : tvO}
theorem tv_ishr {x y : Int32} (C : tvC E own cc nL ret d mc ms tb) (hd : tvD cc pc .ishr 1 pc') (kk : tv_W E P k sl M pc' L (.int (x >>> (y &&& 31)) :: st)) : tv_W E P k sl M pc L (.int y :: .int x :: st) := by
  obtain ⟨hd, rfl⟩ := hd
  exact fun H locs ls hP hS hl => lv_ishr C.1 C.2.1 hd (kk H locs ls hP hS hl)
theorem tv_getCS {idx : Nat} (C : tvC E own cc nL ret d mc ms tb) (hd : tvD cc pc (.getstatic idx) 3 pc') (hl : Cond.fieldLink own idx "java/lang/String" "COMPACT_STRINGS" "Z" ∈ tvGW) (kk : tv_W E P k sl M pc' L (.int 1 :: st)) : tv_W E P k sl M pc L st := by
  obtain ⟨hd, rfl⟩ := hd
  obtain ⟨hx, hb, hml, hown, hts, hK, -⟩ := C
  obtain ⟨-, -, -, -, -, -, -, -, h9, -⟩ := hK
  exact fun H locs ls hP hS hl1 => va_gets hx hb h9 hS hown (hts _ hl) (fun _ h => h) hd (kk H locs ls hP hS hl1)
theorem tv_getSF {idx : Nat} (C : tvC E own cc nL ret d mc ms tb) (hd : tvD cc pc (.getstatic idx) 3 pc') (hl : Cond.fieldLink own idx "jdk/internal/util/Preconditions" "SIOOBE_FORMATTER" "Ljava/util/function/BiFunction;" ∈ tvGW) (kn : tv_W E P k sl M pc' L (.null :: st)) (kr : ∀ t : Nat, tv_W E P k sl M pc' L (.ref t :: st)) : tv_W E P k sl M pc L st := by
  obtain ⟨hd, rfl⟩ := hd
  obtain ⟨hx, hb, hml, hown, hts, hK, -⟩ := C
  obtain ⟨-, -, -, -, -, -, -, -, -, h10, -⟩ := hK
  intro H locs ls hP hS hl1
  rcases h10 with h | ⟨t, h⟩
  · exact va_gets hx hb h hS hown (hts _ hl) (fun _ h => h) hd (kn H locs ls hP hS hl1)
  · exact va_gets hx hb h hS hown (hts _ hl) (fun _ h => h) hd (kr t H locs ls hP hS hl1)
theorem tv_coder {idx i : Nat} (C : tvC E own cc nL ret d mc ms tb) (hd : tvD cc pc (.getfield idx) 3 pc') (hl : Cond.fieldLink own idx "java/lang/String" "coder" "B" ∈ tvGW) (hi : i < tvNS) (kk : tv_W E P k sl M pc' L (.int 0 :: st)) : tv_W E P k sl M pc L (.ref (E.G.2.2.2.2.1 i) :: st) := by
  obtain ⟨hd, rfl⟩ := hd
  obtain ⟨hx, hb, hml, hown, hts, hK, -⟩ := C
  exact fun H locs ls hP hS hl1 => vk_getf hx hb (hK.2.2.2.1.1 i hi).2.1 hS hown (hts _ hl) (fun _ h => h) hd (kk H locs ls hP hS hl1)
theorem tv_value {idx i : Nat} (C : tvC E own cc nL ret d mc ms tb) (hd : tvD cc pc (.getfield idx) 3 pc') (hl : Cond.fieldLink own idx "java/lang/String" "value" "[B" ∈ tvGW) (hi : i < tvNS) (kk : tv_W E P k sl M pc' L (.ref (E.G.2.2.2.2.2.1 i) :: st)) : tv_W E P k sl M pc L (.ref (E.G.2.2.2.2.1 i) :: st) := by
  obtain ⟨hd, rfl⟩ := hd
  obtain ⟨hx, hb, hml, hown, hts, hK, -⟩ := C
  exact fun H locs ls hP hS hl1 => vk_getf hx hb (hK.2.2.2.1.1 i hi).2.2.1 hS hown (hts _ hl) (fun _ h => h) hd (kk H locs ls hP hS hl1)
theorem tv_tlen {i : Nat} (C : tvC E own cc nL ret d mc ms tb) (hd : tvD cc pc .arraylength 1 pc') (hi : i < tvNS) (kk : tv_W E P k sl M pc' L (.int (f_J0_length_8abf5 i) :: st)) : tv_W E P k sl M pc L (.ref (E.G.2.2.2.2.2.1 i) :: st) := by
  obtain ⟨hd, rfl⟩ := hd
  obtain ⟨hx, hb, hml, hown, hts, hK, -⟩ := C
  exact fun H locs ls hP hS hl1 => va_tlen hx hb (hK.2.2.2.1.1 i hi).2.2.2 hS rfl hd (kk H locs ls hP hS hl1)
theorem tv_tb {i : Nat} {x : Int32} (C : tvC E own cc nL ret d mc ms tb) (hd : tvD cc pc .baload 1 pc') (hi : i < tvNS) (hin : vp_in x (tvLen.getD i 0)) (kk : tv_W E P k sl M pc' L (.int (f_J0_charAt_5068e i x) :: st)) : tv_W E P k sl M pc L (.int x :: .ref (E.G.2.2.2.2.2.1 i) :: st) := by
  obtain ⟨hd, rfl⟩ := hd
  obtain ⟨hx, hb, hml, hown, hts, hK, -⟩ := C
  exact fun H locs ls hP hS hl1 => va_tb hx hb (hK.2.2.2.1.1 i hi).2.2.2 hS hin rfl hd (kk H locs ls hP hS hl1)
/-- a call on a text constant -/
theorem tv_cT1 {i idx n' ar d' : Nat} {y : MethodName} {cc' : ByteArray} {ret' : Option FieldType} {As st0 : List Value} {v : Value} (C : tvC E own cc nL ret d mc ms tb) (hd : tvD cc pc (.invokevirtual idx) 3 pc') (hl : Cond.methodLink own idx y ∈ tvGW) (hY : tvYk y cc' n' ret' ar) (hI : tvYi y) (hR : tvRun E.G y cc' n' ret' d' 0 0 P P1 (.ref (E.G.2.2.2.2.1 i) :: As) M (.inl (some v)) M1) (hi : i < tvNS) (hc : y.cls = "java/lang/String") (hst : st0 = As.reverse ++ .ref (E.G.2.2.2.2.1 i) :: st) (hn : As.length = ar) (hcat : (st.map fun v => v.category).sum ≤ 8) (hdd : d' + 1 ≤ d) (hnn : n' ≤ 45) (hkk : k ≤ mc) (hss : sl ≤ ms)
    (kk : tv_W E P1 k sl M1 pc' L (v :: st)) : tv_W E P k sl M pc L st0 := by
  obtain ⟨hd, rfl⟩ := hd
  obtain ⟨hx, hb1, hml, hown, hts, hK, hRm, hlk, hrt, htb⟩ := C
  obtain ⟨y1, y2, y3, y4, y5⟩ := hY
  intro H locs ls hP hS hL
  have hcb : CallW E.R E.s E.args own y.cls idx y cc' n' ret' (tvWd y cc' n' ret') (tvRm d' 0 0) 0 0 ar := by
    refine ⟨callB_of ar hts (tvWd_good y1) rfl rfl rfl (hts _ y2) (hts _ hl) ⟨y3.1, y3.2, y4⟩ ⟨?_, ?_⟩, hts _ hI.1, hts _ hI.2⟩
    · rw [hRm]; exact hdd
    · rw [hRm]; show 8 + (n' + 11) + 64 * d' ≤ 64 * d; omega
  refine tv_after (vx_runV ⟨hx, hb1, hml, hown, hts⟩ hR hcb ⟨tvPre_blind, by rw [hc]; exact vk_recv hK.2.2.2.1 hi hS, fun U hU hW => ⟨rfl, by rw [hU]; exact hP, hK.go hS hU hW⟩⟩ rfl hn (hL.1.trans hml) hst (lv_room hcat) hd ⟨by rw [hRm]; exact hkk, by rw [hRm]; exact hss⟩) hS hL (fun v' h => by cases h; exact kk) (fun e h => by cases h)
end TVS
theorem m_J0_coder_7d493 (G : tvG) (M : tvM) {i : Nat} (hi : i < tvNS) : tvRun G yJ0_coder_7d493 cJ0_coder_7d493 1 (some .byte) 1 0 0 tvP0 tvP0 [.ref (G.2.2.2.2.1 i)] M (.inl (some (.int 0))) M := by
  refine tvRun.of yk_J0_coder_7d493 rfl [some (.ref (G.2.2.2.2.1 i))] rfl (Nat.le_of_ble_eq_true rfl) ?_
  intro E hG C hQ; subst hG
  refine tv_getCS C dk_J0_coder_7d493_0 js_cs ?_
  refine tv_if_eq C dk_J0_coder_7d493_3 (fun h => absurd h (by decide)) (fun _ => ?_)
  refine tv_aload_n C dk_J0_coder_7d493_6 rfl ?_
  refine tv_coder C dk_J0_coder_7d493_7 js_co hi ?_
  refine tv_goto C dk_J0_coder_7d493_10 ?_
  exact tv_iret C hQ dk_J0_coder_7d493_14 rfl rfl rfl
theorem m_J0_isLatin1_aae02 (G : tvG) (M : tvM) {i : Nat} (hi : i < tvNS) : tvRun G yJ0_isLatin1_aae02 cJ0_isLatin1_aae02 1 (some .boolean) 1 0 0 tvP0 tvP0 [.ref (G.2.2.2.2.1 i)] M (.inl (some (.int 1))) M := by
  refine tvRun.of yk_J0_isLatin1_aae02 rfl [some (.ref (G.2.2.2.2.1 i))] rfl (Nat.le_of_ble_eq_true rfl) ?_
  intro E hG C hQ; subst hG
  refine tv_getCS C dk_J0_isLatin1_aae02_0 js_cs ?_
  refine tv_if_eq C dk_J0_isLatin1_aae02_3 (fun h => absurd h (by decide)) (fun _ => ?_)
  refine tv_aload_n C dk_J0_isLatin1_aae02_6 rfl ?_
  refine tv_coder C dk_J0_isLatin1_aae02_7 js_co hi ?_
  refine tv_if_ne C dk_J0_isLatin1_aae02_10 (fun h => absurd rfl h) (fun _ => ?_)
  refine tv_iconst (v := 1) C dk_J0_isLatin1_aae02_13 (by decide) ?_
  refine tv_goto C dk_J0_isLatin1_aae02_14 ?_
  exact tv_iret C hQ dk_J0_isLatin1_aae02_18 rfl rfl rfl
theorem m_J0_length_8abf5 (G : tvG) (M : tvM) {i : Nat} (hi : i < tvNS) : tvRun G yJ0_length_8abf5 cJ0_length_8abf5 1 (some .int) 2 0 0 tvP0 tvP0 [.ref (G.2.2.2.2.1 i)] M (.inl (some (.int (f_J0_length_8abf5 i)))) M := by
  refine tvRun.of yk_J0_length_8abf5 rfl [some (.ref (G.2.2.2.2.1 i))] rfl (Nat.le_of_ble_eq_true rfl) ?_
  intro E hG C hQ; subst hG
  refine tv_aload_n C dk_J0_length_8abf5_0 rfl ?_
  refine tv_value C dk_J0_length_8abf5_1 js_va hi ?_
  refine tv_tlen C dk_J0_length_8abf5_4 hi ?_
  refine tv_aload_n C dk_J0_length_8abf5_5 rfl ?_
  refine tv_cT1 C dk_J0_length_8abf5_6 ml_RJ0_335 yk_J0_coder_7d493 yi_J0_coder_7d493 (m_J0_coder_7d493 _ M hi) hi rfl rfl rfl (Nat.le_of_ble_eq_true rfl) (Nat.le_of_ble_eq_true rfl) (Nat.le_of_ble_eq_true rfl) (Nat.le_of_ble_eq_true rfl) (Nat.le_of_ble_eq_true rfl) ?_
  refine tv_ishr C dk_J0_length_8abf5_9 ?_
  exact tv_iret C hQ dk_J0_length_8abf5_10 rfl (by rw [sb_shr0]) rfl
theorem m_J3_checkIndex_8e157 (G : tvG) (M : tvM) {x n : Int32} {v : Value} (hv : v = .null ∨ ∃ t, v = .ref t) (h0 : ¬ x < 0) (h1 : x < n) : tvRun G yJ3_checkIndex_8e157 cJ3_checkIndex_8e157 3 (some .int) 1 0 0 tvP0 tvP0 [.int x, .int n, v] M (.inl (some (.int x))) M := by
  rcases hv with rfl | ⟨t, rfl⟩
  all_goals
    refine tvRun.of yk_J3_checkIndex_8e157 rfl [some (.int x), some (.int n), some _] rfl (Nat.le_of_ble_eq_true rfl) ?_
    intro E hG C hQ; subst hG
    refine tv_iload_n C dk_J3_checkIndex_8e157_0 rfl ?_
    refine tv_if_lt C dk_J3_checkIndex_8e157_1 (fun h => absurd h h0) (fun _ => ?_)
    refine tv_iload_n C dk_J3_checkIndex_8e157_4 rfl ?_
    refine tv_iload_n C dk_J3_checkIndex_8e157_5 rfl ?_
    refine tv_icmp_lt C dk_J3_checkIndex_8e157_6 (fun _ => ?_) (fun h => absurd h1 h)
    refine tv_iload_n C dk_J3_checkIndex_8e157_16 rfl ?_
    exact tv_iret C hQ dk_J3_checkIndex_8e157_17 rfl rfl rfl
theorem m_J0_checkIndex_df160 (G : tvG) (M : tvM) {x n : Int32} (h0 : ¬ x < 0) (h1 : x < n) : tvRun G yJ0_checkIndex_df160 cJ0_checkIndex_df160 2 none 2 0 0 tvP0 tvP0 [.int x, .int n] M (.inl none) M := by
  refine tvRun.of yk_J0_checkIndex_df160 rfl [some (.int x), some (.int n)] rfl (Nat.le_of_ble_eq_true rfl) ?_
  intro E hG C hQ; subst hG
  refine tv_iload_n C dk_J0_checkIndex_df160_0 rfl ?_
  refine tv_iload_n C dk_J0_checkIndex_df160_1 rfl ?_
  refine tv_getSF C dk_J0_checkIndex_df160_2 js_sf ?_ (fun t => ?_)
  · refine tv_cS1 C dk_J0_checkIndex_df160_5 ml_RJ0_1059 yk_J3_checkIndex_8e157 yi_J3_checkIndex_8e157 (m_J3_checkIndex_8e157 _ M (Or.inl rfl) h0 h1) rfl rfl (Nat.le_of_ble_eq_true rfl) (Nat.le_of_ble_eq_true rfl) (Nat.le_of_ble_eq_true rfl) (Nat.le_of_ble_eq_true rfl) (Nat.le_of_ble_eq_true rfl) ?_
    refine tv_pop C dk_J0_checkIndex_df160_8 rfl ?_
    exact tv_vret C hQ dk_J0_checkIndex_df160_9 rfl rfl
  · refine tv_cS1 C dk_J0_checkIndex_df160_5 ml_RJ0_1059 yk_J3_checkIndex_8e157 yi_J3_checkIndex_8e157 (m_J3_checkIndex_8e157 _ M (Or.inr ⟨t, rfl⟩) h0 h1) rfl rfl (Nat.le_of_ble_eq_true rfl) (Nat.le_of_ble_eq_true rfl) (Nat.le_of_ble_eq_true rfl) (Nat.le_of_ble_eq_true rfl) (Nat.le_of_ble_eq_true rfl) ?_
    refine tv_pop C dk_J0_checkIndex_df160_8 rfl ?_
    exact tv_vret C hQ dk_J0_checkIndex_df160_9 rfl rfl
theorem tvByt_ok : ∀ i, i < tvNS → ∀ j, j < tvLen.getD i 0 → (((tvByt.getD i []).getD j 0 &&& 255).toUInt32 % 65536).toInt32 = (tvByt.getD i []).getD j 0 := by decide +kernel
theorem tvLen_ok : ∀ i, i < tvNS → tvLen.getD i 0 < 100 := by decide +kernel
theorem m_J1_charAt_3b067 (G : tvG) (M : tvM) {i : Nat} (hi : i < tvNS) {x : Int32} (hin : vp_in x (tvLen.getD i 0)) : tvRun G yJ1_charAt_3b067 cJ1_charAt_3b067 2 (some .char) 3 0 0 tvP0 tvP0 [.ref (G.2.2.2.2.2.1 i), .int x] M (.inl (some (.int (f_J0_charAt_5068e i x)))) M := by
  obtain ⟨j, hj, rfl⟩ := vp_in_of hin (by have := tvLen_ok i hi; omega)
  have hj2 : j < 100 := by have := tvLen_ok i hi; omega
  refine tvRun.of yk_J1_charAt_3b067 rfl [some (.ref (G.2.2.2.2.2.1 i)), some (.int (nI j))] rfl (Nat.le_of_ble_eq_true rfl) ?_
  intro E hG C hQ; subst hG
  refine tv_iload_n C dk_J1_charAt_3b067_0 rfl ?_
  refine tv_aload_n C dk_J1_charAt_3b067_1 rfl ?_
  refine tv_tlen C dk_J1_charAt_3b067_2 hi ?_
  refine tv_cS0 C dk_J1_charAt_3b067_3 ml_RJ1_9 yk_J0_checkIndex_df160 yi_J0_checkIndex_df160 (m_J0_checkIndex_df160 _ M (nI_pos (by omega)) (nI_lt hj (by have := tvLen_ok i hi; omega))) rfl rfl (Nat.le_of_ble_eq_true rfl) (Nat.le_of_ble_eq_true rfl) (Nat.le_of_ble_eq_true rfl) (Nat.le_of_ble_eq_true rfl) (Nat.le_of_ble_eq_true rfl) ?_
  refine tv_aload_n C dk_J1_charAt_3b067_6 rfl ?_
  refine tv_iload_n C dk_J1_charAt_3b067_7 rfl ?_
  refine tv_tb C dk_J1_charAt_3b067_8 hi hin ?_
  refine tv_sipush (v := 255) C dk_J1_charAt_3b067_9 (by decide) ?_
  refine tv_iand C dk_J1_charAt_3b067_12 ?_
  refine tv_i2c C dk_J1_charAt_3b067_13 ?_
  refine tv_iret C hQ dk_J1_charAt_3b067_14 (pk_nc _) ?_ rfl
  have h := tvByt_ok i hi j hj
  rw [show f_J0_charAt_5068e i (nI j) = (tvByt.getD i []).getD j 0 by unfold f_J0_charAt_5068e; rw [nI_clamp (by omega)]]
  rw [h]
theorem m_J0_charAt_5068e (G : tvG) (M : tvM) {i : Nat} (hi : i < tvNS) {x : Int32} (hin : vp_in x (tvLen.getD i 0)) : tvRun G yJ0_charAt_5068e cJ0_charAt_5068e 2 (some .char) 4 0 0 tvP0 tvP0 [.ref (G.2.2.2.2.1 i), .int x] M (.inl (some (.int (f_J0_charAt_5068e i x)))) M := by
  refine tvRun.of yk_J0_charAt_5068e rfl [some (.ref (G.2.2.2.2.1 i)), some (.int x)] rfl (Nat.le_of_ble_eq_true rfl) ?_
  intro E hG C hQ; subst hG
  refine tv_aload_n C dk_J0_charAt_5068e_0 rfl ?_
  refine tv_cT1 C dk_J0_charAt_5068e_1 ml_RJ0_492 yk_J0_isLatin1_aae02 yi_J0_isLatin1_aae02 (m_J0_isLatin1_aae02 _ M hi) hi rfl rfl rfl (Nat.le_of_ble_eq_true rfl) (Nat.le_of_ble_eq_true rfl) (Nat.le_of_ble_eq_true rfl) (Nat.le_of_ble_eq_true rfl) (Nat.le_of_ble_eq_true rfl) ?_
  refine tv_if_eq C dk_J0_charAt_5068e_4 (fun h => absurd h (by decide)) (fun _ => ?_)
  refine tv_aload_n C dk_J0_charAt_5068e_7 rfl ?_
  refine tv_value C dk_J0_charAt_5068e_8 js_va hi ?_
  refine tv_iload_n C dk_J0_charAt_5068e_11 rfl ?_
  refine tv_cS1 C dk_J0_charAt_5068e_12 ml_RJ0_495 yk_J1_charAt_3b067 yi_J1_charAt_3b067 (m_J1_charAt_3b067 _ M hi hin) rfl rfl (Nat.le_of_ble_eq_true rfl) (Nat.le_of_ble_eq_true rfl) (Nat.le_of_ble_eq_true rfl) (Nat.le_of_ble_eq_true rfl) (Nat.le_of_ble_eq_true rfl) ?_
  refine tv_iret C hQ dk_J0_charAt_5068e_15 ?_ rfl rfl
  obtain ⟨j, hj, rfl⟩ := vp_in_of hin (by have := tvLen_ok i hi; omega)
  have hj2 : j < 100 := by have := tvLen_ok i hi; omega
  have h := tvByt_ok i hi j hj
  rw [show f_J0_charAt_5068e i (nI j) = (tvByt.getD i []).getD j 0 by unfold f_J0_charAt_5068e; rw [nI_clamp (by omega)]]
  rw [← h]
  exact pk_nc _

