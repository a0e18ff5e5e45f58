/-! ===== the JDK's methods under StringBuilder: texts of ASCII letters without a 'd' ===== -/
def byG (n : Nat) (f : Nat → Int32) : Prop := ∀ k, k < n → ∃ c : Nat, c < 128 ∧ c ≠ 100 ∧ f k = nI c
def byF (f : Nat → Int32) : Prop := ∀ k, fits .byte (.int (f k)) = true
def sbV (v : Option Value) (M : tvM) (Q : va_W → Prop) : tvO → va_W → tvM → Prop := fun o X1 M1 => o = .inl v ∧ M1 = M ∧ Q X1
theorem sbV_no {v : Option Value} {M : tvM} {Q : va_W → Prop} : ∀ (e : String) (X1 : va_W) (M1 : tvM), ¬ sbV v M Q (.inr e) X1 M1 := fun e X1 M1 h => by cases h.1
def sbR (M : tvM) (Q : Nat → va_W → Prop) : tvO → va_W → tvM → Prop := fun o X1 M1 => ∃ q : Nat, o = .inl (some (.ref q)) ∧ M1 = M ∧ Q q X1
theorem sbR_no {M : tvM} {Q : Nat → va_W → Prop} : ∀ (e : String) (X1 : va_W) (M1 : tvM), ¬ sbR M Q (.inr e) X1 M1 := fun e X1 M1 ⟨q, h, _⟩ => by cases h
abbrev sbA (G : tvG) (q m : Nat) (f : Nat → Int32) : Nat × va_E := (q, .inl (G.2.2.2.1 2, m, .inl f))
abbrev sbO (p q n : Nat) (z : Int32) : Nat × va_E := (p, .inr (9, [.ref q, .int 0, .int z, .int (nI n)]))
/-- a builder: its object at i, its bytes at j; n letters, room for m -/
def sbB (G : tvG) (X : va_W) (i j p n m : Nat) : Prop := ∃ (q : Nat) (z : Int32) (f : Nat → Int32), X[i]? = some (sbO p q n z) ∧ X[j]? = some (sbA G q m f) ∧ n ≤ m ∧ byF f ∧ byG n f
/-- the other cells stay -/
def sbK (X X1 : va_W) (i j j1 : Nat) : Prop := X.length ≤ X1.length ∧ (∀ k, k < X.length → k ≠ i → k ≠ j → X1[k]? = X[k]?) ∧ (j1 = j ∨ X.length ≤ j1)
/-- a text that is no builder's bytes -/
def sbT (G : tvG) (X : va_W) (j a b n : Nat) (f : Nat → Int32) : Prop :=
  (∃ (N : Nat) (len : List Nat) (byt : List (List Int32)) (adK adV : Nat → Nat) (i : Nat), (∀ U H, tvK G U H → vk_S N len byt adK adV (tvA G) U H) ∧ i < N ∧ a = adK i ∧ b = adV i ∧ n = len.getD i 0 ∧ f = fun j => (byt.getD i []).getD j 0) ∨
  (∃ (i j' : Nat) (fs : List Value), j' ≠ j ∧ X[i]? = some (a, .inr (10, fs)) ∧ fs[0]? = some (.ref b) ∧ fs[1]? = some (.int 0) ∧ X[j']? = some (b, .inl (G.2.2.2.1 2, n, .inl f)))
theorem sbT.txt {G : tvG} {X : va_W} {j a b n : Nat} {f : Nat → Int32} (h : sbT G X j a b n f) : tvTxt G X a b n f := by
  rcases h with h | ⟨i, j', fs, -, h⟩
  · exact Or.inl h
  · exact Or.inr ⟨i, j', fs, h⟩
theorem sb_lt {X : va_W} {i : Nat} {e : Nat × va_E} (h : X[i]? = some e) : i < X.length := (List.getElem?_eq_some_iff.mp h).1
theorem sbT.keep {G : tvG} {X X1 : va_W} {i j j1 a b n p q m : Nat} {z : Int32} {k : Nat} {f g : Nat → Int32} (h : sbT G X j a b n f) (hK : sbK X X1 i j j1) (hi : X[i]? = some (sbO p q k z)) (hj : X[j]? = some (sbA G q m g)) : sbT G X1 j1 a b n f := by
  rcases h with h | ⟨i', j', fs, hne, h1, h2, h3, h4⟩
  · exact Or.inl h
  · have l1 := sb_lt h1
    have l4 := sb_lt h4
    have n1 : i' ≠ i := fun e => by rw [e, hi] at h1; cases h1
    have n2 : i' ≠ j := fun e => by rw [e, hj] at h1; cases h1
    have n3 : j' ≠ i := fun e => by rw [e, hi] at h4; cases h4
    refine Or.inr ⟨i', j', fs, ?_, by rw [hK.2.1 i' l1 n1 n2]; exact h1, h2, h3, by rw [hK.2.1 j' l4 n3 hne]; exact h4⟩
    rcases hK.2.2 with e | e
    · rw [e]; exact hne
    · omega
theorem sb_app {X : va_W} {i : Nat} {e : Nat × va_E} (l : va_W) (h : X[i]? = some e) : (X ++ l)[i]? = some e := by
  rw [List.getElem?_append_left (sb_lt h)]
  exact h
theorem sb_last (X : va_W) (e : Nat × va_E) : (X ++ [e])[X.length]? = some e := by simp
theorem sb_setl (X : va_W) (a b : Nat × va_E) : (X ++ [a]).set X.length b = X ++ [b] := by simp
theorem sb_le {a b : Nat} (ha : a < 1000) (hb : b < 1000) (h : a ≤ b) : nI a - nI b ≤ 0 := by
  rw [Int32.le_iff_toInt_le, pk_sub_toInt (by omega) (by omega), Int32.toInt_zero]
  omega
theorem sb_nle' {a b : Nat} (ha : a < 1000) (hb : b < 1000) (h : b < a) : ¬ nI a - nI b ≤ 0 := by
  rw [Int32.le_iff_toInt_le, pk_sub_toInt (by omega) (by omega), Int32.toInt_zero]
  omega
theorem sb_dec1 {a : Nat} (h : 0 < a) : nI a + Int32.ofInt (-1) = nI (a - 1) := by
  obtain ⟨b, rfl⟩ : ∃ b, a = b + 1 := ⟨a - 1, by omega⟩
  exact pk_m1 b
theorem fx_max (M : tvM) {a b : Nat} (ha : a < 2147483648) (hb : b < 2147483648) : f_J9_max_7cf53 M (nI a) (nI b) = nI (max a b) := by
  unfold f_J9_max_7cf53
  by_cases h : a < b
  · rw [if_pos ((pn_lt ha hb).2 h), Nat.max_eq_right (by omega)]
  · rw [if_neg (fun q => h ((pn_lt ha hb).1 q)), Nat.max_eq_left (by omega)]
theorem fx_min (M : tvM) {a b : Nat} (ha : a < 2147483648) (hb : b < 2147483648) : f_J9_min_7cf53 M (nI a) (nI b) = nI (min a b) := by
  unfold f_J9_min_7cf53
  by_cases h : b < a
  · rw [if_pos ((pn_lt hb ha).2 h), Nat.min_eq_right (by omega)]
  · rw [if_neg (fun q => h ((pn_lt hb ha).1 q)), Nat.min_eq_left (by omega)]
theorem sb_nar : ∀ c, c < 128 → vp_nar .byte (nI c) = nI c ∧ fits .byte (.int (nI c)) = true ∧ ((nI c &&& 255).toUInt32 % 65536).toInt32 = nI c ∧ narrow .char (.int (nI c)) = .int (nI c) := by decide +kernel
theorem byG_fit {n : Nat} {f : Nat → Int32} (h : byG n f) {k : Nat} (hk : k < n) : fits .byte (.int (f k)) = true := by
  obtain ⟨c, h1, h2, h3⟩ := h k hk
  rw [h3]
  exact (sb_nar c h1).2.1
theorem byF_0 : byF (fun _ => 0) := fun _ => (by decide : fits .byte (.int 0) = true)
theorem byF_cpy {f g : Nat → Int32} {sp dp n : Nat} (hf : ∀ k, k < n → fits .byte (.int (f (sp + k))) = true) (hg : byF g) : byF (va_cpy f g sp dp n) := by
  intro k
  by_cases h : dp ≤ k ∧ k < dp + n
  · rw [pk_cpy_in h.1 h.2]
    exact hf _ (by omega)
  · rw [pk_cpy_out (by omega)]
    exact hg k
theorem byG_c {n : Nat} {f g : Nat → Int32} (h : byG n f) (e : ∀ k, k < n → g k = f k) : byG n g := fun k hk => by rw [e k hk]; exact h k hk
/-- n letters, and w more behind them -/
theorem byG_cat {n w : Nat} {f g : Nat → Int32} (hg : byG n g) (hf : byG w f) : byG (n + w) (va_cpy f g 0 n w) := by
  intro k hk
  by_cases h : n ≤ k
  · rw [pk_cpy_in h hk, Nat.zero_add]
    exact hf _ (by omega)
  · rw [pk_cpy_out (by omega)]
    exact hg k (by omega)
theorem byF_upd {f : Nat → Int32} {k c : Nat} (hf : byF f) (hc : c < 128) : byF (upd f k (nI c)) := by
  intro j
  by_cases h : j = k
  · rw [h, pk_us]
    exact (sb_nar c hc).2.1
  · rw [pk_un h]
    exact hf j
theorem byG_upd {f : Nat → Int32} {n k c : Nat} (hk : n ≤ k) (hf : byG n f) : byG n (upd f k (nI c)) := byG_c hf fun j hj => pk_un (by omega)
theorem byG_put {f : Nat → Int32} {n c : Nat} (hf : byG n f) (hc : c < 128) (h0 : c ≠ 100) : byG (n + 1) (upd f n (nI c)) := by
  intro k hk
  by_cases h : k = n
  · exact ⟨c, hc, h0, by rw [h, pk_us]⟩
  · rw [pk_un h]
    exact hf k (by omega)
theorem sb_same {X : va_W} {t : Nat} {e : Nat × va_E} (h : X[t]? = some e) : X.set t e = X := by
  obtain ⟨hl, h2⟩ := List.getElem?_eq_some_iff.mp h
  rw [← h2]
  exact List.set_getElem_self hl
theorem xi_9 : ∀ w ∈ u_ws RJ4 TJ4 4, w ∈ tvGW := by
  intro w hw
  simp [u_ws, u_lay, TJ4, List.range, List.range.loop] at hw
  rcases hw with rfl | rfl | rfl | rfl
  · exact tvgc (tvc_4 (List.mem_of_getElem? (i := 224) (by decide +kernel))) rfl
  · exact tvgc (tvc_4 (List.mem_of_getElem? (i := 226) (by decide +kernel))) rfl
  · exact tvgc (tvc_4 (List.mem_of_getElem? (i := 228) (by decide +kernel))) rfl
  · exact tvgc (tvc_4 (List.mem_of_getElem? (i := 230) (by decide +kernel))) rfl
theorem xi_10 : ∀ w ∈ u_ws RJ0 TJ0 4, w ∈ tvGW := by
  intro w hw
  simp [u_ws, u_lay, TJ0, List.range, List.range.loop] at hw
  rcases hw with rfl | rfl | rfl | rfl
  · exact tvgc (tvc_2 (List.mem_of_getElem? (i := 116) (by decide +kernel))) rfl
  · exact tvgc (tvc_2 (List.mem_of_getElem? (i := 118) (by decide +kernel))) rfl
  · exact tvgc (tvc_5 (List.mem_of_getElem? (i := 194) (by decide +kernel))) rfl
  · exact tvgc (tvc_5 (List.mem_of_getElem? (i := 196) (by decide +kernel))) rfl
theorem xw_9 (own : String) (j : Nat) (hj : j < 4) : tvXw own 9 j false := ⟨_, _, _, rfl, tyJ4_ok, nmJ4, by rcases (show j = 0 ∨ j = 1 ∨ j = 2 ∨ j = 3 by omega) with rfl | rfl | rfl | rfl <;> rfl, fun h => by cases h⟩
theorem xw_10 (j : Nat) (hj : j < 2) : tvXw RJ0 10 j true := ⟨_, _, _, rfl, tyJ0_ok, nmJ0, by rcases (show j = 0 ∨ j = 1 by omega) with rfl | rfl <;> rfl, fun _ => by rcases (show j = 0 ∨ j = 1 by omega) with rfl | rfl <;> rfl⟩
theorem yk_J5_isLatin1_aae02 : tvYk yJ5_isLatin1_aae02 cJ5_isLatin1_aae02 1 (some .boolean) 0 := ⟨tvgc (tvc_5 (List.mem_of_getElem? (i := 38) (by decide +kernel))) rfl, tvgc (tvc_1 (List.mem_of_getElem? (i := 22) (by decide +kernel))) rfl, by decide +kernel, by decide +kernel, by decide +kernel⟩
theorem xc_RJ5_18 : Cond.fieldLink RJ5 18 "java/lang/String" "COMPACT_STRINGS" "Z" ∈ tvGW := tvgc (tvc_4 (List.mem_of_getElem? (i := 211) (by decide +kernel))) rfl
theorem xf_RJ5_22 : tvXf RJ5 22 9 1 := ⟨_, _, _, rfl, by decide, xi_9, tvgc (tvc_4 (List.mem_of_getElem? (i := 221) (by decide +kernel))) rfl⟩
theorem xc_RJ0_38 : Cond.fieldLink RJ0 38 "java/lang/String" "COMPACT_STRINGS" "Z" ∈ tvGW := tvgc (tvc_5 (List.mem_of_getElem? (i := 73) (by decide +kernel))) rfl
theorem xf_RJ0_15 : tvXf RJ0 15 10 1 := ⟨_, _, _, rfl, by decide, xi_10, tvgc (tvc_5 (List.mem_of_getElem? (i := 193) (by decide +kernel))) rfl⟩
theorem xf_RJ0_9 : tvXf RJ0 9 10 0 := ⟨_, _, _, rfl, by decide, xi_10, tvgc (tvc_5 (List.mem_of_getElem? (i := 192) (by decide +kernel))) rfl⟩
theorem yk_J8_newLength_cabcc : tvYk yJ8_newLength_cabcc cJ8_newLength_cabcc 4 (some .int) 3 := ⟨tvgc (tvc_5 (List.mem_of_getElem? (i := 15) (by decide +kernel))) rfl, tvgc (tvc_1 (List.mem_of_getElem? (i := 25) (by decide +kernel))) rfl, by decide +kernel, by decide +kernel, by decide +kernel⟩
theorem ml_RJ8_194 : Cond.methodLink RJ8 194 yJ9_max_7cf53 ∈ tvGW := tvgc (tvc_5 (List.mem_of_getElem? (i := 16) (by decide +kernel))) rfl
theorem xk_RJ8_200 : Cond.constant RJ8 200 (2147483639 : Int32) ∈ tvGW := tvgc (tvc_5 (List.mem_of_getElem? (i := 17) (by decide +kernel))) rfl
theorem yk_J5_newCapacity_0f7a4 : tvYk yJ5_newCapacity_0f7a4 cJ5_newCapacity_0f7a4 6 (some .int) 1 := ⟨tvgc (tvc_5 (List.mem_of_getElem? (i := 12) (by decide +kernel))) rfl, tvgc (tvc_1 (List.mem_of_getElem? (i := 22) (by decide +kernel))) rfl, by decide +kernel, by decide +kernel, by decide +kernel⟩
theorem xf_RJ5_15 : tvXf RJ5 15 9 0 := ⟨_, _, _, rfl, by decide, xi_9, tvgc (tvc_4 (List.mem_of_getElem? (i := 220) (by decide +kernel))) rfl⟩
theorem ml_RJ5_114 : Cond.methodLink RJ5 114 yJ8_newLength_cabcc ∈ tvGW := tvgc (tvc_5 (List.mem_of_getElem? (i := 13) (by decide +kernel))) rfl
theorem yi_J8_newLength_cabcc : Cond.static yJ8_newLength_cabcc ∈ tvGW := tvgc (tvc_5 (List.mem_of_getElem? (i := 14) (by decide +kernel))) rfl
theorem xk_RJ5_39 : Cond.constant RJ5 39 (2147483647 : Int32) ∈ tvGW := tvgc (tvc_5 (List.mem_of_getElem? (i := 21) (by decide +kernel))) rfl
theorem yk_J7_copyOf_9075b : tvYk yJ7_copyOf_9075b cJ7_copyOf_9075b 3 (some (.array .byte)) 2 := ⟨tvgc (tvc_5 (List.mem_of_getElem? (i := 24) (by decide +kernel))) rfl, tvgc (tvc_1 (List.mem_of_getElem? (i := 26) (by decide +kernel))) rfl, by decide +kernel, by decide +kernel, by decide +kernel⟩
theorem xa_byte : Cond.arrayClass (newarray.typeOf .byte) ∈ tvGW := tvgc (tvc_1 (List.mem_of_getElem? (i := 115) (by decide +kernel))) rfl
theorem ml_RJ7_304 : Cond.methodLink RJ7 304 yJ9_min_7cf53 ∈ tvGW := tvgc (tvc_5 (List.mem_of_getElem? (i := 32) (by decide +kernel))) rfl
theorem ml_RJ7_150 : Cond.methodLink RJ7 150 arraycopyName ∈ tvGW := tvgc (tvc_5 (List.mem_of_getElem? (i := 33) (by decide +kernel))) rfl
theorem yk_J5_ensureCapacityInternal_d00df : tvYk yJ5_ensureCapacityInternal_d00df cJ5_ensureCapacityInternal_d00df 3 none 1 := ⟨tvgc (tvc_5 (List.mem_of_getElem? (i := 8) (by decide +kernel))) rfl, tvgc (tvc_1 (List.mem_of_getElem? (i := 22) (by decide +kernel))) rfl, by decide +kernel, by decide +kernel, by decide +kernel⟩
theorem ml_RJ5_104 : Cond.methodLink RJ5 104 yJ5_newCapacity_0f7a4 ∈ tvGW := tvgc (tvc_5 (List.mem_of_getElem? (i := 9) (by decide +kernel))) rfl
theorem im_J5_newCapacity_0f7a4 : Cond.instanceMethod yJ5_newCapacity_0f7a4 ∈ tvGW := tvgc (tvc_5 (List.mem_of_getElem? (i := 11) (by decide +kernel))) rfl
theorem xs_J5_newCapacity_0f7a4 (args : Array Value) (s : State) (hts : ∀ w ∈ tvGW, w.before args s = true) (hN : ∀ w ∈ tvNest, va_Nw w s) : (Cond.selects "java/lang/StringBuilder" yJ5_newCapacity_0f7a4 yJ5_newCapacity_0f7a4).before args s = true := sx_sel (y0 := yJ5_isLatin1_aae02) (by decide +kernel) rfl (hts _ (tvgc (tvc_5 (List.mem_of_getElem? (i := 37) (by decide +kernel))) rfl)) (va_Nw.use rfl (hN _ (tvn 997 (by decide +kernel) rfl))) (hts _ (tvgc (tvc_5 (List.mem_of_getElem? (i := 11) (by decide +kernel))) rfl))
theorem ml_RJ5_108 : Cond.methodLink RJ5 108 yJ7_copyOf_9075b ∈ tvGW := tvgc (tvc_5 (List.mem_of_getElem? (i := 22) (by decide +kernel))) rfl
theorem yi_J7_copyOf_9075b : Cond.static yJ7_copyOf_9075b ∈ tvGW := tvgc (tvc_5 (List.mem_of_getElem? (i := 23) (by decide +kernel))) rfl
theorem yk_J5_inflateIfNeededFor_a7421 : tvYk yJ5_inflateIfNeededFor_a7421 cJ5_inflateIfNeededFor_a7421 2 none 1 := ⟨tvgc (tvc_5 (List.mem_of_getElem? (i := 81) (by decide +kernel))) rfl, tvgc (tvc_1 (List.mem_of_getElem? (i := 22) (by decide +kernel))) rfl, by decide +kernel, by decide +kernel, by decide +kernel⟩
theorem ml_RJ5_40 : Cond.methodLink RJ5 40 yJ0_coder_7d493 ∈ tvGW := tvgc (tvc_5 (List.mem_of_getElem? (i := 82) (by decide +kernel))) rfl
theorem yk_J0_getBytes_840e7 : tvYk yJ0_getBytes_840e7 cJ0_getBytes_840e7 4 none 3 := ⟨tvgc (tvc_5 (List.mem_of_getElem? (i := 105) (by decide +kernel))) rfl, tvgc (tvc_1 (List.mem_of_getElem? (i := 21) (by decide +kernel))) rfl, by decide +kernel, by decide +kernel, by decide +kernel⟩
theorem ml_RJ0_212 : Cond.methodLink RJ0 212 arraycopyName ∈ tvGW := tvgc (tvc_5 (List.mem_of_getElem? (i := 106) (by decide +kernel))) rfl
theorem yk_J5_putStringAt_47b60 : tvYk yJ5_putStringAt_47b60 cJ5_putStringAt_47b60 3 none 2 := ⟨tvgc (tvc_5 (List.mem_of_getElem? (i := 77) (by decide +kernel))) rfl, tvgc (tvc_1 (List.mem_of_getElem? (i := 22) (by decide +kernel))) rfl, by decide +kernel, by decide +kernel, by decide +kernel⟩
theorem ml_RJ5_397 : Cond.methodLink RJ5 397 yJ5_inflateIfNeededFor_a7421 ∈ tvGW := tvgc (tvc_5 (List.mem_of_getElem? (i := 78) (by decide +kernel))) rfl
theorem im_J5_inflateIfNeededFor_a7421 : Cond.instanceMethod yJ5_inflateIfNeededFor_a7421 ∈ tvGW := tvgc (tvc_5 (List.mem_of_getElem? (i := 80) (by decide +kernel))) rfl
theorem xs_J5_inflateIfNeededFor_a7421 (args : Array Value) (s : State) (hts : ∀ w ∈ tvGW, w.before args s = true) (hN : ∀ w ∈ tvNest, va_Nw w s) : (Cond.selects "java/lang/StringBuilder" yJ5_inflateIfNeededFor_a7421 yJ5_inflateIfNeededFor_a7421).before args s = true := sx_sel (y0 := yJ5_isLatin1_aae02) (by decide +kernel) rfl (hts _ (tvgc (tvc_5 (List.mem_of_getElem? (i := 37) (by decide +kernel))) rfl)) (va_Nw.use rfl (hN _ (tvn 1066 (by decide +kernel) rfl))) (hts _ (tvgc (tvc_5 (List.mem_of_getElem? (i := 80) (by decide +kernel))) rfl))
theorem ml_RJ5_399 : Cond.methodLink RJ5 399 yJ0_getBytes_840e7 ∈ tvGW := tvgc (tvc_5 (List.mem_of_getElem? (i := 102) (by decide +kernel))) rfl
theorem yi_J0_getBytes_840e7 : tvYi yJ0_getBytes_840e7 := ⟨tvgc (tvc_5 (List.mem_of_getElem? (i := 103) (by decide +kernel))) rfl, tvgc (tvc_5 (List.mem_of_getElem? (i := 104) (by decide +kernel))) rfl⟩
theorem yk_J5_append_cf1ce : tvYk yJ5_append_cf1ce cJ5_append_cf1ce 3 (some (.object "java/lang/AbstractStringBuilder")) 1 := ⟨tvgc (tvc_5 (List.mem_of_getElem? (i := 0) (by decide +kernel))) rfl, tvgc (tvc_1 (List.mem_of_getElem? (i := 22) (by decide +kernel))) rfl, by decide +kernel, by decide +kernel, by decide +kernel⟩
theorem ml_RJ5_32 : Cond.methodLink RJ5 32 yJ0_length_8abf5 ∈ tvGW := tvgc (tvc_5 (List.mem_of_getElem? (i := 65) (by decide +kernel))) rfl
theorem xf_RJ5_79 : tvXf RJ5 79 9 3 := ⟨_, _, _, rfl, by decide, xi_9, tvgc (tvc_4 (List.mem_of_getElem? (i := 223) (by decide +kernel))) rfl⟩
theorem ml_RJ5_100 : Cond.methodLink RJ5 100 yJ5_ensureCapacityInternal_d00df ∈ tvGW := tvgc (tvc_5 (List.mem_of_getElem? (i := 5) (by decide +kernel))) rfl
theorem im_J5_ensureCapacityInternal_d00df : Cond.instanceMethod yJ5_ensureCapacityInternal_d00df ∈ tvGW := tvgc (tvc_5 (List.mem_of_getElem? (i := 7) (by decide +kernel))) rfl
theorem xs_J5_ensureCapacityInternal_d00df (args : Array Value) (s : State) (hts : ∀ w ∈ tvGW, w.before args s = true) (hN : ∀ w ∈ tvNest, va_Nw w s) : (Cond.selects "java/lang/StringBuilder" yJ5_ensureCapacityInternal_d00df yJ5_ensureCapacityInternal_d00df).before args s = true := sx_sel (y0 := yJ5_isLatin1_aae02) (by decide +kernel) rfl (hts _ (tvgc (tvc_5 (List.mem_of_getElem? (i := 37) (by decide +kernel))) rfl)) (va_Nw.use rfl (hN _ (tvn 993 (by decide +kernel) rfl))) (hts _ (tvgc (tvc_5 (List.mem_of_getElem? (i := 7) (by decide +kernel))) rfl))
theorem ml_RJ5_208 : Cond.methodLink RJ5 208 yJ5_putStringAt_47b60 ∈ tvGW := tvgc (tvc_5 (List.mem_of_getElem? (i := 74) (by decide +kernel))) rfl
theorem im_J5_putStringAt_47b60 : Cond.instanceMethod yJ5_putStringAt_47b60 ∈ tvGW := tvgc (tvc_5 (List.mem_of_getElem? (i := 76) (by decide +kernel))) rfl
theorem xs_J5_putStringAt_47b60 (args : Array Value) (s : State) (hts : ∀ w ∈ tvGW, w.before args s = true) (hN : ∀ w ∈ tvNest, va_Nw w s) : (Cond.selects "java/lang/StringBuilder" yJ5_putStringAt_47b60 yJ5_putStringAt_47b60).before args s = true := sx_sel (y0 := yJ5_isLatin1_aae02) (by decide +kernel) rfl (hts _ (tvgc (tvc_5 (List.mem_of_getElem? (i := 37) (by decide +kernel))) rfl)) (va_Nw.use rfl (hN _ (tvn 1062 (by decide +kernel) rfl))) (hts _ (tvgc (tvc_5 (List.mem_of_getElem? (i := 76) (by decide +kernel))) rfl))
theorem yk_J4_append_15ec4 : tvYk yJ4_append_15ec4 cJ4_append_15ec4 2 (some (.object "java/lang/StringBuilder")) 1 := ⟨tvgc (tvc_4 (List.mem_of_getElem? (i := 237) (by decide +kernel))) rfl, tvgc (tvc_1 (List.mem_of_getElem? (i := 23) (by decide +kernel))) rfl, by decide +kernel, by decide +kernel, by decide +kernel⟩
theorem ml_RJ4_29 : Cond.methodLink RJ4 29 yJ5_append_cf1ce ∈ tvGW := tvgc (tvc_4 (List.mem_of_getElem? (i := 238) (by decide +kernel))) rfl
theorem im_J5_append_cf1ce : Cond.instanceMethod yJ5_append_cf1ce ∈ tvGW := tvgc (tvc_4 (List.mem_of_getElem? (i := 239) (by decide +kernel))) rfl
theorem yk_J6_stringSize_0f7a4 : tvYk yJ6_stringSize_0f7a4 cJ6_stringSize_0f7a4 4 (some .int) 1 := ⟨tvgc (tvc_5 (List.mem_of_getElem? (i := 117) (by decide +kernel))) rfl, tvgc (tvc_1 (List.mem_of_getElem? (i := 30) (by decide +kernel))) rfl, by decide +kernel, by decide +kernel, by decide +kernel⟩
theorem yk_J6_getChars_ba4f3 : tvYk yJ6_getChars_ba4f3 cJ6_getChars_ba4f3 7 (some .int) 3 := ⟨tvgc (tvc_5 (List.mem_of_getElem? (i := 120) (by decide +kernel))) rfl, tvgc (tvc_1 (List.mem_of_getElem? (i := 30) (by decide +kernel))) rfl, by decide +kernel, by decide +kernel, by decide +kernel⟩
theorem xg_RJ6_83 : Cond.fieldLink RJ6 83 "java/lang/Integer" "DigitOnes" "[B" ∈ tvGW := tvgc (tvc_5 (List.mem_of_getElem? (i := 121) (by decide +kernel))) rfl
theorem xg_RJ6_87 : Cond.fieldLink RJ6 87 "java/lang/Integer" "DigitTens" "[B" ∈ tvGW := tvgc (tvc_5 (List.mem_of_getElem? (i := 123) (by decide +kernel))) rfl
theorem yk_J5_append_c97b9 : tvYk yJ5_append_c97b9 cJ5_append_c97b9 4 (some (.object "java/lang/AbstractStringBuilder")) 1 := ⟨tvgc (tvc_5 (List.mem_of_getElem? (i := 114) (by decide +kernel))) rfl, tvgc (tvc_1 (List.mem_of_getElem? (i := 22) (by decide +kernel))) rfl, by decide +kernel, by decide +kernel, by decide +kernel⟩
theorem ml_RJ5_245 : Cond.methodLink RJ5 245 yJ6_stringSize_0f7a4 ∈ tvGW := tvgc (tvc_5 (List.mem_of_getElem? (i := 115) (by decide +kernel))) rfl
theorem yi_J6_stringSize_0f7a4 : Cond.static yJ6_stringSize_0f7a4 ∈ tvGW := tvgc (tvc_5 (List.mem_of_getElem? (i := 116) (by decide +kernel))) rfl
theorem ml_RJ5_83 : Cond.methodLink RJ5 83 yJ5_isLatin1_aae02 ∈ tvGW := tvgc (tvc_5 (List.mem_of_getElem? (i := 34) (by decide +kernel))) rfl
theorem im_J5_isLatin1_aae02 : Cond.instanceMethod yJ5_isLatin1_aae02 ∈ tvGW := tvgc (tvc_5 (List.mem_of_getElem? (i := 35) (by decide +kernel))) rfl
theorem xs_J5_isLatin1_aae02 (args : Array Value) (s : State) (hts : ∀ w ∈ tvGW, w.before args s = true) (hN : ∀ w ∈ tvNest, va_Nw w s) : (Cond.selects "java/lang/StringBuilder" yJ5_isLatin1_aae02 yJ5_isLatin1_aae02).before args s = true := hts _ (tvgc (tvc_5 (List.mem_of_getElem? (i := 37) (by decide +kernel))) rfl)
theorem ml_RJ5_248 : Cond.methodLink RJ5 248 yJ6_getChars_ba4f3 ∈ tvGW := tvgc (tvc_5 (List.mem_of_getElem? (i := 118) (by decide +kernel))) rfl
theorem yi_J6_getChars_ba4f3 : Cond.static yJ6_getChars_ba4f3 ∈ tvGW := tvgc (tvc_5 (List.mem_of_getElem? (i := 119) (by decide +kernel))) rfl
theorem yk_J4_append_bf812 : tvYk yJ4_append_bf812 cJ4_append_bf812 2 (some (.object "java/lang/StringBuilder")) 1 := ⟨tvgc (tvc_5 (List.mem_of_getElem? (i := 111) (by decide +kernel))) rfl, tvgc (tvc_1 (List.mem_of_getElem? (i := 23) (by decide +kernel))) rfl, by decide +kernel, by decide +kernel, by decide +kernel⟩
theorem ml_RJ4_53 : Cond.methodLink RJ4 53 yJ5_append_c97b9 ∈ tvGW := tvgc (tvc_5 (List.mem_of_getElem? (i := 112) (by decide +kernel))) rfl
theorem im_J5_append_c97b9 : Cond.instanceMethod yJ5_append_c97b9 ∈ tvGW := tvgc (tvc_5 (List.mem_of_getElem? (i := 113) (by decide +kernel))) rfl
theorem yk_J5_getValue_6d5f1 : tvYk yJ5_getValue_6d5f1 cJ5_getValue_6d5f1 1 (some (.array .byte)) 0 := ⟨tvgc (tvc_5 (List.mem_of_getElem? (i := 152) (by decide +kernel))) rfl, tvgc (tvc_1 (List.mem_of_getElem? (i := 22) (by decide +kernel))) rfl, by decide +kernel, by decide +kernel, by decide +kernel⟩
theorem yk_J5_length_8abf5 : tvYk yJ5_length_8abf5 cJ5_length_8abf5 1 (some .int) 0 := ⟨tvgc (tvc_5 (List.mem_of_getElem? (i := 160) (by decide +kernel))) rfl, tvgc (tvc_1 (List.mem_of_getElem? (i := 22) (by decide +kernel))) rfl, by decide +kernel, by decide +kernel, by decide +kernel⟩
theorem yk_J4_length_8abf5 : tvYk yJ4_length_8abf5 cJ4_length_8abf5 1 (some .int) 0 := ⟨tvgc (tvc_5 (List.mem_of_getElem? (i := 158) (by decide +kernel))) rfl, tvgc (tvc_1 (List.mem_of_getElem? (i := 23) (by decide +kernel))) rfl, by decide +kernel, by decide +kernel, by decide +kernel⟩
theorem ml_RJ4_343 : Cond.methodLink RJ4 343 yJ5_length_8abf5 ∈ tvGW := tvgc (tvc_5 (List.mem_of_getElem? (i := 159) (by decide +kernel))) rfl
theorem im_J5_length_8abf5 : Cond.instanceMethod yJ5_length_8abf5 ∈ tvGW := tvgc (tvc_5 (List.mem_of_getElem? (i := 154) (by decide +kernel))) rfl
theorem yk_J7_checkLength_df160 : tvYk yJ7_checkLength_df160 cJ7_checkLength_df160 2 none 2 := ⟨tvgc (tvc_5 (List.mem_of_getElem? (i := 170) (by decide +kernel))) rfl, tvgc (tvc_1 (List.mem_of_getElem? (i := 26) (by decide +kernel))) rfl, by decide +kernel, by decide +kernel, by decide +kernel⟩
theorem yk_J7_copyOfRangeByte_39247 : tvYk yJ7_copyOfRangeByte_39247 cJ7_copyOfRangeByte_39247 5 (some (.array .byte)) 3 := ⟨tvgc (tvc_5 (List.mem_of_getElem? (i := 167) (by decide +kernel))) rfl, tvgc (tvc_1 (List.mem_of_getElem? (i := 26) (by decide +kernel))) rfl, by decide +kernel, by decide +kernel, by decide +kernel⟩
theorem ml_RJ7_343 : Cond.methodLink RJ7 343 yJ7_checkLength_df160 ∈ tvGW := tvgc (tvc_5 (List.mem_of_getElem? (i := 168) (by decide +kernel))) rfl
theorem yi_J7_checkLength_df160 : Cond.static yJ7_checkLength_df160 ∈ tvGW := tvgc (tvc_5 (List.mem_of_getElem? (i := 169) (by decide +kernel))) rfl
theorem yk_J7_copyOfRange_39247 : tvYk yJ7_copyOfRange_39247 cJ7_copyOfRange_39247 3 (some (.array .byte)) 3 := ⟨tvgc (tvc_5 (List.mem_of_getElem? (i := 164) (by decide +kernel))) rfl, tvgc (tvc_1 (List.mem_of_getElem? (i := 26) (by decide +kernel))) rfl, by decide +kernel, by decide +kernel, by decide +kernel⟩
theorem xcl : Cond.methodLink RJ7 310 ⟨"[B", "clone", "()Ljava/lang/Object;"⟩ ∈ tvGW ∧ Cond.sameMethod "[B" "java/lang/Object" "clone" "()Ljava/lang/Object;" ∈ tvGW ∧ Cond.native ⟨"java/lang/Object", "clone", "()Ljava/lang/Object;"⟩ ∈ tvGW ∧ Cond.instanceMethod ⟨"java/lang/Object", "clone", "()Ljava/lang/Object;"⟩ ∈ tvGW ∧ Cond.selects "[B" ⟨"[B", "clone", "()Ljava/lang/Object;"⟩ ⟨"java/lang/Object", "clone", "()Ljava/lang/Object;"⟩ ∈ tvGW ∧ Cond.castable "[B" "java/lang/Cloneable" ∈ tvNest := ⟨tvgc (tvc_5 (List.mem_of_getElem? (i := 25) (by decide +kernel))) rfl, tvgc (tvc_5 (List.mem_of_getElem? (i := 26) (by decide +kernel))) rfl, tvgc (tvc_5 (List.mem_of_getElem? (i := 27) (by decide +kernel))) rfl, tvgc (tvc_5 (List.mem_of_getElem? (i := 28) (by decide +kernel))) rfl, tvgc (tvc_5 (List.mem_of_getElem? (i := 29) (by decide +kernel))) rfl, tvn 1017 (by decide +kernel) rfl⟩
theorem xcb : Cond.classLink RJ7 311 "[B" ∈ tvGW := tvgc (tvc_5 (List.mem_of_getElem? (i := 31) (by decide +kernel))) rfl
theorem ml_RJ7_339 : Cond.methodLink RJ7 339 yJ7_copyOfRangeByte_39247 ∈ tvGW := tvgc (tvc_5 (List.mem_of_getElem? (i := 165) (by decide +kernel))) rfl
theorem yi_J7_copyOfRangeByte_39247 : Cond.static yJ7_copyOfRangeByte_39247 ∈ tvGW := tvgc (tvc_5 (List.mem_of_getElem? (i := 166) (by decide +kernel))) rfl
theorem yk_J0_init_db425 : tvYk yJ0_init_db425 cJ0_init_db425 5 none 2 := ⟨tvgc (tvc_5 (List.mem_of_getElem? (i := 146) (by decide +kernel))) rfl, tvgc (tvc_1 (List.mem_of_getElem? (i := 21) (by decide +kernel))) rfl, by decide +kernel, by decide +kernel, by decide +kernel⟩
theorem ml_RJ0_1 : Cond.methodLink RJ0 1 Lib.objectInit ∈ tvGW := tvgc (tvc_5 (List.mem_of_getElem? (i := 147) (by decide +kernel))) rfl
theorem ml_RJ0_552 : Cond.methodLink RJ0 552 yJ5_getValue_6d5f1 ∈ tvGW := tvgc (tvc_5 (List.mem_of_getElem? (i := 148) (by decide +kernel))) rfl
theorem im_J5_getValue_6d5f1 : Cond.instanceMethod yJ5_getValue_6d5f1 ∈ tvGW := tvgc (tvc_5 (List.mem_of_getElem? (i := 149) (by decide +kernel))) rfl
theorem xs_J5_getValue_6d5f1 (args : Array Value) (s : State) (hts : ∀ w ∈ tvGW, w.before args s = true) (hN : ∀ w ∈ tvNest, va_Nw w s) : (Cond.selects "java/lang/StringBuilder" yJ5_getValue_6d5f1 yJ5_getValue_6d5f1).before args s = true := hts _ (tvgc (tvc_5 (List.mem_of_getElem? (i := 151) (by decide +kernel))) rfl)
theorem ml_RJ0_549 : Cond.methodLink RJ0 549 yJ5_length_8abf5 ∈ tvGW := tvgc (tvc_5 (List.mem_of_getElem? (i := 153) (by decide +kernel))) rfl
theorem im_J4_length_8abf5 : Cond.instanceMethod yJ4_length_8abf5 ∈ tvGW := tvgc (tvc_5 (List.mem_of_getElem? (i := 157) (by decide +kernel))) rfl
theorem ml_RJ0_1047 : Cond.methodLink RJ0 1047 yJ5_isLatin1_aae02 ∈ tvGW := tvgc (tvc_5 (List.mem_of_getElem? (i := 161) (by decide +kernel))) rfl
theorem ml_RJ0_54 : Cond.methodLink RJ0 54 yJ7_copyOfRange_39247 ∈ tvGW := tvgc (tvc_5 (List.mem_of_getElem? (i := 162) (by decide +kernel))) rfl
theorem yi_J7_copyOfRange_39247 : Cond.static yJ7_copyOfRange_39247 ∈ tvGW := tvgc (tvc_5 (List.mem_of_getElem? (i := 163) (by decide +kernel))) rfl
theorem yk_J0_init_81219 : tvYk yJ0_init_81219 cJ0_init_81219 2 none 1 := ⟨tvgc (tvc_5 (List.mem_of_getElem? (i := 143) (by decide +kernel))) rfl, tvgc (tvc_1 (List.mem_of_getElem? (i := 21) (by decide +kernel))) rfl, by decide +kernel, by decide +kernel, by decide +kernel⟩
theorem ml_RJ0_489 : Cond.methodLink RJ0 489 yJ0_init_db425 ∈ tvGW := tvgc (tvc_5 (List.mem_of_getElem? (i := 144) (by decide +kernel))) rfl
theorem im_J0_init_db425 : Cond.instanceMethod yJ0_init_db425 ∈ tvGW := tvgc (tvc_5 (List.mem_of_getElem? (i := 145) (by decide +kernel))) rfl
theorem yk_J4_toString_0e30d : tvYk yJ4_toString_0e30d cJ4_toString_0e30d 1 (some (.object "java/lang/String")) 0 := ⟨tvgc (tvc_5 (List.mem_of_getElem? (i := 139) (by decide +kernel))) rfl, tvgc (tvc_1 (List.mem_of_getElem? (i := 23) (by decide +kernel))) rfl, by decide +kernel, by decide +kernel, by decide +kernel⟩
theorem xn_str : tvNw RJ4 18 10 := ⟨_, _, _, rfl, rfl, xi_10, tyJ0_ok, tvgc (tvc_5 (List.mem_of_getElem? (i := 140) (by decide +kernel))) rfl, tvgc (tvc_2 (List.mem_of_getElem? (i := 115) (by decide +kernel))) rfl, tvgc (tvc_1 (List.mem_of_getElem? (i := 21) (by decide +kernel))) rfl, fun k hk => by rcases (show k = 0 ∨ k = 1 ∨ k = 2 ∨ k = 3 by omega) with rfl | rfl | rfl | rfl <;> decide⟩
theorem ml_RJ4_137 : Cond.methodLink RJ4 137 yJ0_init_81219 ∈ tvGW := tvgc (tvc_5 (List.mem_of_getElem? (i := 141) (by decide +kernel))) rfl
theorem im_J0_init_81219 : Cond.instanceMethod yJ0_init_81219 ∈ tvGW := tvgc (tvc_5 (List.mem_of_getElem? (i := 142) (by decide +kernel))) rfl
theorem yk_J5_init_d00df : tvYk yJ5_init_d00df cJ5_init_d00df 2 none 1 := ⟨tvgc (tvc_4 (List.mem_of_getElem? (i := 209) (by decide +kernel))) rfl, tvgc (tvc_1 (List.mem_of_getElem? (i := 22) (by decide +kernel))) rfl, by decide +kernel, by decide +kernel, by decide +kernel⟩
theorem ml_RJ5_3 : Cond.methodLink RJ5 3 Lib.objectInit ∈ tvGW := tvgc (tvc_4 (List.mem_of_getElem? (i := 210) (by decide +kernel))) rfl
theorem yk_J4_init_da8c8 : tvYk yJ4_init_da8c8 cJ4_init_da8c8 1 none 0 := ⟨tvgc (tvc_4 (List.mem_of_getElem? (i := 206) (by decide +kernel))) rfl, tvgc (tvc_1 (List.mem_of_getElem? (i := 23) (by decide +kernel))) rfl, by decide +kernel, by decide +kernel, by decide +kernel⟩
theorem ml_RJ4_1 : Cond.methodLink RJ4 1 yJ5_init_d00df ∈ tvGW := tvgc (tvc_4 (List.mem_of_getElem? (i := 207) (by decide +kernel))) rfl
theorem im_J5_init_d00df : Cond.instanceMethod yJ5_init_d00df ∈ tvGW := tvgc (tvc_4 (List.mem_of_getElem? (i := 208) (by decide +kernel))) rfl
def dl_J0_getBytes_840e7_g0 : List (Nat × Instr × Nat) := [(0, .aload_n 0, 1), (1, .invokevirtual 335, 3), (4, .iload_n 3, 1), (5, .if_icmp .ne 23, 3), (8, .aload_n 0, 1), (9, .getfield 9, 3), (12, .iconst 0, 1), (13, .aload_n 1, 1), (14, .iload_n 2, 1), (15, .iload_n 3, 1), (16, .ishl, 1), (17, .aload_n 0, 1), (18, .getfield 9, 3), (21, .arraylength, 1), (22, .invokestatic 212, 3), (25, .goto 18, 3), (43, .return_, 1)]
theorem dlk_J0_getBytes_840e7_g0 : tvDl cJ0_getBytes_840e7 dl_J0_getBytes_840e7_g0 = true := by decide +kernel
theorem dk_J0_getBytes_840e7_0 : tvD cJ0_getBytes_840e7 0 (.aload_n 0) 1 1 := tvDl_get dlk_J0_getBytes_840e7_g0 0 rfl rfl
theorem dk_J0_getBytes_840e7_1 : tvD cJ0_getBytes_840e7 1 (.invokevirtual 335) 3 4 := tvDl_get dlk_J0_getBytes_840e7_g0 1 rfl rfl
theorem dk_J0_getBytes_840e7_4 : tvD cJ0_getBytes_840e7 4 (.iload_n 3) 1 5 := tvDl_get dlk_J0_getBytes_840e7_g0 2 rfl rfl
theorem dk_J0_getBytes_840e7_5 : tvJ cJ0_getBytes_840e7 5 (.if_icmp .ne) 28 8 := tvJl_get dlk_J0_getBytes_840e7_g0 3 rfl (by decide) rfl
theorem dk_J0_getBytes_840e7_8 : tvD cJ0_getBytes_840e7 8 (.aload_n 0) 1 9 := tvDl_get dlk_J0_getBytes_840e7_g0 4 rfl rfl
theorem dk_J0_getBytes_840e7_9 : tvD cJ0_getBytes_840e7 9 (.getfield 9) 3 12 := tvDl_get dlk_J0_getBytes_840e7_g0 5 rfl rfl
theorem dk_J0_getBytes_840e7_12 : tvD cJ0_getBytes_840e7 12 (.iconst 0) 1 13 := tvDl_get dlk_J0_getBytes_840e7_g0 6 rfl rfl
theorem dk_J0_getBytes_840e7_13 : tvD cJ0_getBytes_840e7 13 (.aload_n 1) 1 14 := tvDl_get dlk_J0_getBytes_840e7_g0 7 rfl rfl
theorem dk_J0_getBytes_840e7_14 : tvD cJ0_getBytes_840e7 14 (.iload_n 2) 1 15 := tvDl_get dlk_J0_getBytes_840e7_g0 8 rfl rfl
theorem dk_J0_getBytes_840e7_15 : tvD cJ0_getBytes_840e7 15 (.iload_n 3) 1 16 := tvDl_get dlk_J0_getBytes_840e7_g0 9 rfl rfl
theorem dk_J0_getBytes_840e7_16 : tvD cJ0_getBytes_840e7 16 (.ishl) 1 17 := tvDl_get dlk_J0_getBytes_840e7_g0 10 rfl rfl
theorem dk_J0_getBytes_840e7_17 : tvD cJ0_getBytes_840e7 17 (.aload_n 0) 1 18 := tvDl_get dlk_J0_getBytes_840e7_g0 11 rfl rfl
theorem dk_J0_getBytes_840e7_18 : tvD cJ0_getBytes_840e7 18 (.getfield 9) 3 21 := tvDl_get dlk_J0_getBytes_840e7_g0 12 rfl rfl
theorem dk_J0_getBytes_840e7_21 : tvD cJ0_getBytes_840e7 21 (.arraylength) 1 22 := tvDl_get dlk_J0_getBytes_840e7_g0 13 rfl rfl
theorem dk_J0_getBytes_840e7_22 : tvD cJ0_getBytes_840e7 22 (.invokestatic 212) 3 25 := tvDl_get dlk_J0_getBytes_840e7_g0 14 rfl rfl
theorem dk_J0_getBytes_840e7_25 : tvJ cJ0_getBytes_840e7 25 .goto 43 28 := tvJl_get dlk_J0_getBytes_840e7_g0 15 rfl (by decide) rfl
theorem dk_J0_getBytes_840e7_43 : tvD cJ0_getBytes_840e7 43 (.return_) 1 44 := tvDl_get dlk_J0_getBytes_840e7_g0 16 rfl rfl
def dl_J0_init_81219_g0 : List (Nat × Instr × Nat) := [(0, .aload_n 0, 1), (1, .aload_n 1, 1), (2, .aconst_null, 1), (3, .invokespecial 489, 3), (6, .return_, 1)]
theorem dlk_J0_init_81219_g0 : tvDl cJ0_init_81219 dl_J0_init_81219_g0 = true := by decide +kernel
theorem dk_J0_init_81219_0 : tvD cJ0_init_81219 0 (.aload_n 0) 1 1 := tvDl_get dlk_J0_init_81219_g0 0 rfl rfl
theorem dk_J0_init_81219_1 : tvD cJ0_init_81219 1 (.aload_n 1) 1 2 := tvDl_get dlk_J0_init_81219_g0 1 rfl rfl
theorem dk_J0_init_81219_2 : tvD cJ0_init_81219 2 (.aconst_null) 1 3 := tvDl_get dlk_J0_init_81219_g0 2 rfl rfl
theorem dk_J0_init_81219_3 : tvD cJ0_init_81219 3 (.invokespecial 489) 3 6 := tvDl_get dlk_J0_init_81219_g0 3 rfl rfl
theorem dk_J0_init_81219_6 : tvD cJ0_init_81219 6 (.return_) 1 7 := tvDl_get dlk_J0_init_81219_g0 4 rfl rfl
def dl_J0_init_db425_g0 : List (Nat × Instr × Nat) := [(0, .aload_n 0, 1), (1, .invokespecial 1, 3), (4, .aload_n 1, 1), (5, .invokevirtual 552, 3), (8, .astore_n 3, 1), (9, .aload_n 1, 1), (10, .invokevirtual 549, 3), (13, .istore 4, 2), (15, .aload_n 1, 1), (16, .invokevirtual 1047, 3), (19, .ifCond .eq 22, 3), (22, .aload_n 0, 1), (23, .iconst 0, 1), (24, .putfield 15, 3), (27, .aload_n 0, 1), (28, .aload_n 3, 1), (29, .iconst 0, 1), (30, .iload 4, 2), (32, .invokestatic 54, 3), (35, .putfield 9, 3), (38, .goto 59, 3), (97, .return_, 1)]
theorem dlk_J0_init_db425_g0 : tvDl cJ0_init_db425 dl_J0_init_db425_g0 = true := by decide +kernel
theorem dk_J0_init_db425_0 : tvD cJ0_init_db425 0 (.aload_n 0) 1 1 := tvDl_get dlk_J0_init_db425_g0 0 rfl rfl
theorem dk_J0_init_db425_1 : tvD cJ0_init_db425 1 (.invokespecial 1) 3 4 := tvDl_get dlk_J0_init_db425_g0 1 rfl rfl
theorem dk_J0_init_db425_4 : tvD cJ0_init_db425 4 (.aload_n 1) 1 5 := tvDl_get dlk_J0_init_db425_g0 2 rfl rfl
theorem dk_J0_init_db425_5 : tvD cJ0_init_db425 5 (.invokevirtual 552) 3 8 := tvDl_get dlk_J0_init_db425_g0 3 rfl rfl
theorem dk_J0_init_db425_8 : tvD cJ0_init_db425 8 (.astore_n 3) 1 9 := tvDl_get dlk_J0_init_db425_g0 4 rfl rfl
theorem dk_J0_init_db425_9 : tvD cJ0_init_db425 9 (.aload_n 1) 1 10 := tvDl_get dlk_J0_init_db425_g0 5 rfl rfl
theorem dk_J0_init_db425_10 : tvD cJ0_init_db425 10 (.invokevirtual 549) 3 13 := tvDl_get dlk_J0_init_db425_g0 6 rfl rfl
theorem dk_J0_init_db425_13 : tvD cJ0_init_db425 13 (.istore 4) 2 15 := tvDl_get dlk_J0_init_db425_g0 7 rfl rfl
theorem dk_J0_init_db425_15 : tvD cJ0_init_db425 15 (.aload_n 1) 1 16 := tvDl_get dlk_J0_init_db425_g0 8 rfl rfl
theorem dk_J0_init_db425_16 : tvD cJ0_init_db425 16 (.invokevirtual 1047) 3 19 := tvDl_get dlk_J0_init_db425_g0 9 rfl rfl
theorem dk_J0_init_db425_19 : tvJ cJ0_init_db425 19 (.ifCond .eq) 41 22 := tvJl_get dlk_J0_init_db425_g0 10 rfl (by decide) rfl
theorem dk_J0_init_db425_22 : tvD cJ0_init_db425 22 (.aload_n 0) 1 23 := tvDl_get dlk_J0_init_db425_g0 11 rfl rfl
theorem dk_J0_init_db425_23 : tvD cJ0_init_db425 23 (.iconst 0) 1 24 := tvDl_get dlk_J0_init_db425_g0 12 rfl rfl
theorem dk_J0_init_db425_24 : tvD cJ0_init_db425 24 (.putfield 15) 3 27 := tvDl_get dlk_J0_init_db425_g0 13 rfl rfl
theorem dk_J0_init_db425_27 : tvD cJ0_init_db425 27 (.aload_n 0) 1 28 := tvDl_get dlk_J0_init_db425_g0 14 rfl rfl
theorem dk_J0_init_db425_28 : tvD cJ0_init_db425 28 (.aload_n 3) 1 29 := tvDl_get dlk_J0_init_db425_g0 15 rfl rfl
theorem dk_J0_init_db425_29 : tvD cJ0_init_db425 29 (.iconst 0) 1 30 := tvDl_get dlk_J0_init_db425_g0 16 rfl rfl
theorem dk_J0_init_db425_30 : tvD cJ0_init_db425 30 (.iload 4) 2 32 := tvDl_get dlk_J0_init_db425_g0 17 rfl rfl
theorem dk_J0_init_db425_32 : tvD cJ0_init_db425 32 (.invokestatic 54) 3 35 := tvDl_get dlk_J0_init_db425_g0 18 rfl rfl
theorem dk_J0_init_db425_35 : tvD cJ0_init_db425 35 (.putfield 9) 3 38 := tvDl_get dlk_J0_init_db425_g0 19 rfl rfl
theorem dk_J0_init_db425_38 : tvJ cJ0_init_db425 38 .goto 97 41 := tvJl_get dlk_J0_init_db425_g0 20 rfl (by decide) rfl
theorem dk_J0_init_db425_97 : tvD cJ0_init_db425 97 (.return_) 1 98 := tvDl_get dlk_J0_init_db425_g0 21 rfl rfl
def dl_J4_append_15ec4_g0 : List (Nat × Instr × Nat) := [(0, .aload_n 0, 1), (1, .aload_n 1, 1), (2, .invokespecial 29, 3), (5, .pop, 1), (6, .aload_n 0, 1), (7, .areturn, 1)]
theorem dlk_J4_append_15ec4_g0 : tvDl cJ4_append_15ec4 dl_J4_append_15ec4_g0 = true := by decide +kernel
theorem dk_J4_append_15ec4_0 : tvD cJ4_append_15ec4 0 (.aload_n 0) 1 1 := tvDl_get dlk_J4_append_15ec4_g0 0 rfl rfl
theorem dk_J4_append_15ec4_1 : tvD cJ4_append_15ec4 1 (.aload_n 1) 1 2 := tvDl_get dlk_J4_append_15ec4_g0 1 rfl rfl
theorem dk_J4_append_15ec4_2 : tvD cJ4_append_15ec4 2 (.invokespecial 29) 3 5 := tvDl_get dlk_J4_append_15ec4_g0 2 rfl rfl
theorem dk_J4_append_15ec4_5 : tvD cJ4_append_15ec4 5 (.pop) 1 6 := tvDl_get dlk_J4_append_15ec4_g0 3 rfl rfl
theorem dk_J4_append_15ec4_6 : tvD cJ4_append_15ec4 6 (.aload_n 0) 1 7 := tvDl_get dlk_J4_append_15ec4_g0 4 rfl rfl
theorem dk_J4_append_15ec4_7 : tvD cJ4_append_15ec4 7 (.areturn) 1 8 := tvDl_get dlk_J4_append_15ec4_g0 5 rfl rfl
def dl_J4_append_bf812_g0 : List (Nat × Instr × Nat) := [(0, .aload_n 0, 1), (1, .iload_n 1, 1), (2, .invokespecial 53, 3), (5, .pop, 1), (6, .aload_n 0, 1), (7, .areturn, 1)]
theorem dlk_J4_append_bf812_g0 : tvDl cJ4_append_bf812 dl_J4_append_bf812_g0 = true := by decide +kernel
theorem dk_J4_append_bf812_0 : tvD cJ4_append_bf812 0 (.aload_n 0) 1 1 := tvDl_get dlk_J4_append_bf812_g0 0 rfl rfl
theorem dk_J4_append_bf812_1 : tvD cJ4_append_bf812 1 (.iload_n 1) 1 2 := tvDl_get dlk_J4_append_bf812_g0 1 rfl rfl
theorem dk_J4_append_bf812_2 : tvD cJ4_append_bf812 2 (.invokespecial 53) 3 5 := tvDl_get dlk_J4_append_bf812_g0 2 rfl rfl
theorem dk_J4_append_bf812_5 : tvD cJ4_append_bf812 5 (.pop) 1 6 := tvDl_get dlk_J4_append_bf812_g0 3 rfl rfl
theorem dk_J4_append_bf812_6 : tvD cJ4_append_bf812 6 (.aload_n 0) 1 7 := tvDl_get dlk_J4_append_bf812_g0 4 rfl rfl
theorem dk_J4_append_bf812_7 : tvD cJ4_append_bf812 7 (.areturn) 1 8 := tvDl_get dlk_J4_append_bf812_g0 5 rfl rfl
def dl_J4_init_da8c8_g0 : List (Nat × Instr × Nat) := [(0, .aload_n 0, 1), (1, .bipush 16, 2), (3, .invokespecial 1, 3), (6, .return_, 1)]
theorem dlk_J4_init_da8c8_g0 : tvDl cJ4_init_da8c8 dl_J4_init_da8c8_g0 = true := by decide +kernel
theorem dk_J4_init_da8c8_0 : tvD cJ4_init_da8c8 0 (.aload_n 0) 1 1 := tvDl_get dlk_J4_init_da8c8_g0 0 rfl rfl
theorem dk_J4_init_da8c8_1 : tvD cJ4_init_da8c8 1 (.bipush 16) 2 3 := tvDl_get dlk_J4_init_da8c8_g0 1 rfl rfl
theorem dk_J4_init_da8c8_3 : tvD cJ4_init_da8c8 3 (.invokespecial 1) 3 6 := tvDl_get dlk_J4_init_da8c8_g0 2 rfl rfl
theorem dk_J4_init_da8c8_6 : tvD cJ4_init_da8c8 6 (.return_) 1 7 := tvDl_get dlk_J4_init_da8c8_g0 3 rfl rfl
def dl_J4_length_8abf5_g0 : List (Nat × Instr × Nat) := [(0, .aload_n 0, 1), (1, .invokespecial 343, 3), (4, .ireturn, 1)]
theorem dlk_J4_length_8abf5_g0 : tvDl cJ4_length_8abf5 dl_J4_length_8abf5_g0 = true := by decide +kernel
theorem dk_J4_length_8abf5_0 : tvD cJ4_length_8abf5 0 (.aload_n 0) 1 1 := tvDl_get dlk_J4_length_8abf5_g0 0 rfl rfl
theorem dk_J4_length_8abf5_1 : tvD cJ4_length_8abf5 1 (.invokespecial 343) 3 4 := tvDl_get dlk_J4_length_8abf5_g0 1 rfl rfl
theorem dk_J4_length_8abf5_4 : tvD cJ4_length_8abf5 4 (.ireturn) 1 5 := tvDl_get dlk_J4_length_8abf5_g0 2 rfl rfl
def dl_J4_toString_0e30d_g0 : List (Nat × Instr × Nat) := [(0, .new 18, 3), (3, .dup, 1), (4, .aload_n 0, 1), (5, .invokespecial 137, 3), (8, .areturn, 1)]
theorem dlk_J4_toString_0e30d_g0 : tvDl cJ4_toString_0e30d dl_J4_toString_0e30d_g0 = true := by decide +kernel
theorem dk_J4_toString_0e30d_0 : tvD cJ4_toString_0e30d 0 (.new 18) 3 3 := tvDl_get dlk_J4_toString_0e30d_g0 0 rfl rfl
theorem dk_J4_toString_0e30d_3 : tvD cJ4_toString_0e30d 3 (.dup) 1 4 := tvDl_get dlk_J4_toString_0e30d_g0 1 rfl rfl
theorem dk_J4_toString_0e30d_4 : tvD cJ4_toString_0e30d 4 (.aload_n 0) 1 5 := tvDl_get dlk_J4_toString_0e30d_g0 2 rfl rfl
theorem dk_J4_toString_0e30d_5 : tvD cJ4_toString_0e30d 5 (.invokespecial 137) 3 8 := tvDl_get dlk_J4_toString_0e30d_g0 3 rfl rfl
theorem dk_J4_toString_0e30d_8 : tvD cJ4_toString_0e30d 8 (.areturn) 1 9 := tvDl_get dlk_J4_toString_0e30d_g0 4 rfl rfl
def dl_J5_append_c97b9_g0 : List (Nat × Instr × Nat) := [(0, .aload_n 0, 1), (1, .getfield 79, 3), (4, .istore_n 2, 1), (5, .iload_n 2, 1), (6, .iload_n 1, 1), (7, .invokestatic 245, 3), (10, .iadd, 1), (11, .istore_n 3, 1), (12, .aload_n 0, 1), (13, .iload_n 3, 1), (14, .invokevirtual 100, 3), (17, .aload_n 0, 1), (18, .invokevirtual 83, 3), (21, .ifCond .eq 16, 3), (24, .iload_n 1, 1), (25, .iload_n 3, 1), (26, .aload_n 0, 1), (27, .getfield 15, 3), (30, .invokestatic 248, 3), (33, .pop, 1), (34, .goto 14, 3), (48, .aload_n 0, 1), (49, .iload_n 3, 1), (50, .putfield 79, 3), (53, .aload_n 0, 1), (54, .areturn, 1)]
theorem dlk_J5_append_c97b9_g0 : tvDl cJ5_append_c97b9 dl_J5_append_c97b9_g0 = true := by decide +kernel
theorem dk_J5_append_c97b9_0 : tvD cJ5_append_c97b9 0 (.aload_n 0) 1 1 := tvDl_get dlk_J5_append_c97b9_g0 0 rfl rfl
theorem dk_J5_append_c97b9_1 : tvD cJ5_append_c97b9 1 (.getfield 79) 3 4 := tvDl_get dlk_J5_append_c97b9_g0 1 rfl rfl
theorem dk_J5_append_c97b9_4 : tvD cJ5_append_c97b9 4 (.istore_n 2) 1 5 := tvDl_get dlk_J5_append_c97b9_g0 2 rfl rfl
theorem dk_J5_append_c97b9_5 : tvD cJ5_append_c97b9 5 (.iload_n 2) 1 6 := tvDl_get dlk_J5_append_c97b9_g0 3 rfl rfl
theorem dk_J5_append_c97b9_6 : tvD cJ5_append_c97b9 6 (.iload_n 1) 1 7 := tvDl_get dlk_J5_append_c97b9_g0 4 rfl rfl
theorem dk_J5_append_c97b9_7 : tvD cJ5_append_c97b9 7 (.invokestatic 245) 3 10 := tvDl_get dlk_J5_append_c97b9_g0 5 rfl rfl
theorem dk_J5_append_c97b9_10 : tvD cJ5_append_c97b9 10 (.iadd) 1 11 := tvDl_get dlk_J5_append_c97b9_g0 6 rfl rfl
theorem dk_J5_append_c97b9_11 : tvD cJ5_append_c97b9 11 (.istore_n 3) 1 12 := tvDl_get dlk_J5_append_c97b9_g0 7 rfl rfl
theorem dk_J5_append_c97b9_12 : tvD cJ5_append_c97b9 12 (.aload_n 0) 1 13 := tvDl_get dlk_J5_append_c97b9_g0 8 rfl rfl
theorem dk_J5_append_c97b9_13 : tvD cJ5_append_c97b9 13 (.iload_n 3) 1 14 := tvDl_get dlk_J5_append_c97b9_g0 9 rfl rfl
theorem dk_J5_append_c97b9_14 : tvD cJ5_append_c97b9 14 (.invokevirtual 100) 3 17 := tvDl_get dlk_J5_append_c97b9_g0 10 rfl rfl
theorem dk_J5_append_c97b9_17 : tvD cJ5_append_c97b9 17 (.aload_n 0) 1 18 := tvDl_get dlk_J5_append_c97b9_g0 11 rfl rfl
theorem dk_J5_append_c97b9_18 : tvD cJ5_append_c97b9 18 (.invokevirtual 83) 3 21 := tvDl_get dlk_J5_append_c97b9_g0 12 rfl rfl
theorem dk_J5_append_c97b9_21 : tvJ cJ5_append_c97b9 21 (.ifCond .eq) 37 24 := tvJl_get dlk_J5_append_c97b9_g0 13 rfl (by decide) rfl
theorem dk_J5_append_c97b9_24 : tvD cJ5_append_c97b9 24 (.iload_n 1) 1 25 := tvDl_get dlk_J5_append_c97b9_g0 14 rfl rfl
theorem dk_J5_append_c97b9_25 : tvD cJ5_append_c97b9 25 (.iload_n 3) 1 26 := tvDl_get dlk_J5_append_c97b9_g0 15 rfl rfl
theorem dk_J5_append_c97b9_26 : tvD cJ5_append_c97b9 26 (.aload_n 0) 1 27 := tvDl_get dlk_J5_append_c97b9_g0 16 rfl rfl
theorem dk_J5_append_c97b9_27 : tvD cJ5_append_c97b9 27 (.getfield 15) 3 30 := tvDl_get dlk_J5_append_c97b9_g0 17 rfl rfl
theorem dk_J5_append_c97b9_30 : tvD cJ5_append_c97b9 30 (.invokestatic 248) 3 33 := tvDl_get dlk_J5_append_c97b9_g0 18 rfl rfl
theorem dk_J5_append_c97b9_33 : tvD cJ5_append_c97b9 33 (.pop) 1 34 := tvDl_get dlk_J5_append_c97b9_g0 19 rfl rfl
theorem dk_J5_append_c97b9_34 : tvJ cJ5_append_c97b9 34 .goto 48 37 := tvJl_get dlk_J5_append_c97b9_g0 20 rfl (by decide) rfl
theorem dk_J5_append_c97b9_48 : tvD cJ5_append_c97b9 48 (.aload_n 0) 1 49 := tvDl_get dlk_J5_append_c97b9_g0 21 rfl rfl
theorem dk_J5_append_c97b9_49 : tvD cJ5_append_c97b9 49 (.iload_n 3) 1 50 := tvDl_get dlk_J5_append_c97b9_g0 22 rfl rfl
theorem dk_J5_append_c97b9_50 : tvD cJ5_append_c97b9 50 (.putfield 79) 3 53 := tvDl_get dlk_J5_append_c97b9_g0 23 rfl rfl
theorem dk_J5_append_c97b9_53 : tvD cJ5_append_c97b9 53 (.aload_n 0) 1 54 := tvDl_get dlk_J5_append_c97b9_g0 24 rfl rfl
theorem dk_J5_append_c97b9_54 : tvD cJ5_append_c97b9 54 (.areturn) 1 55 := tvDl_get dlk_J5_append_c97b9_g0 25 rfl rfl
def dl_J5_append_cf1ce_g0 : List (Nat × Instr × Nat) := [(0, .aload_n 1, 1), (1, .ifnonnull 8, 3), (9, .aload_n 1, 1), (10, .invokevirtual 32, 3), (13, .istore_n 2, 1), (14, .aload_n 0, 1), (15, .aload_n 0, 1), (16, .getfield 79, 3), (19, .iload_n 2, 1), (20, .iadd, 1), (21, .invokevirtual 100, 3), (24, .aload_n 0, 1), (25, .aload_n 0, 1), (26, .getfield 79, 3), (29, .aload_n 1, 1), (30, .invokevirtual 208, 3), (33, .aload_n 0, 1), (34, .dup, 1), (35, .getfield 79, 3), (38, .iload_n 2, 1), (39, .iadd, 1), (40, .putfield 79, 3), (43, .aload_n 0, 1), (44, .areturn, 1)]
theorem dlk_J5_append_cf1ce_g0 : tvDl cJ5_append_cf1ce dl_J5_append_cf1ce_g0 = true := by decide +kernel
theorem dk_J5_append_cf1ce_0 : tvD cJ5_append_cf1ce 0 (.aload_n 1) 1 1 := tvDl_get dlk_J5_append_cf1ce_g0 0 rfl rfl
theorem dk_J5_append_cf1ce_1 : tvJ cJ5_append_cf1ce 1 .ifnonnull 9 4 := tvJl_get dlk_J5_append_cf1ce_g0 1 rfl (by decide) rfl
theorem dk_J5_append_cf1ce_9 : tvD cJ5_append_cf1ce 9 (.aload_n 1) 1 10 := tvDl_get dlk_J5_append_cf1ce_g0 2 rfl rfl
theorem dk_J5_append_cf1ce_10 : tvD cJ5_append_cf1ce 10 (.invokevirtual 32) 3 13 := tvDl_get dlk_J5_append_cf1ce_g0 3 rfl rfl
theorem dk_J5_append_cf1ce_13 : tvD cJ5_append_cf1ce 13 (.istore_n 2) 1 14 := tvDl_get dlk_J5_append_cf1ce_g0 4 rfl rfl
theorem dk_J5_append_cf1ce_14 : tvD cJ5_append_cf1ce 14 (.aload_n 0) 1 15 := tvDl_get dlk_J5_append_cf1ce_g0 5 rfl rfl
theorem dk_J5_append_cf1ce_15 : tvD cJ5_append_cf1ce 15 (.aload_n 0) 1 16 := tvDl_get dlk_J5_append_cf1ce_g0 6 rfl rfl
theorem dk_J5_append_cf1ce_16 : tvD cJ5_append_cf1ce 16 (.getfield 79) 3 19 := tvDl_get dlk_J5_append_cf1ce_g0 7 rfl rfl
theorem dk_J5_append_cf1ce_19 : tvD cJ5_append_cf1ce 19 (.iload_n 2) 1 20 := tvDl_get dlk_J5_append_cf1ce_g0 8 rfl rfl
theorem dk_J5_append_cf1ce_20 : tvD cJ5_append_cf1ce 20 (.iadd) 1 21 := tvDl_get dlk_J5_append_cf1ce_g0 9 rfl rfl
theorem dk_J5_append_cf1ce_21 : tvD cJ5_append_cf1ce 21 (.invokevirtual 100) 3 24 := tvDl_get dlk_J5_append_cf1ce_g0 10 rfl rfl
theorem dk_J5_append_cf1ce_24 : tvD cJ5_append_cf1ce 24 (.aload_n 0) 1 25 := tvDl_get dlk_J5_append_cf1ce_g0 11 rfl rfl
theorem dk_J5_append_cf1ce_25 : tvD cJ5_append_cf1ce 25 (.aload_n 0) 1 26 := tvDl_get dlk_J5_append_cf1ce_g0 12 rfl rfl
theorem dk_J5_append_cf1ce_26 : tvD cJ5_append_cf1ce 26 (.getfield 79) 3 29 := tvDl_get dlk_J5_append_cf1ce_g0 13 rfl rfl
theorem dk_J5_append_cf1ce_29 : tvD cJ5_append_cf1ce 29 (.aload_n 1) 1 30 := tvDl_get dlk_J5_append_cf1ce_g0 14 rfl rfl
theorem dk_J5_append_cf1ce_30 : tvD cJ5_append_cf1ce 30 (.invokevirtual 208) 3 33 := tvDl_get dlk_J5_append_cf1ce_g0 15 rfl rfl
theorem dk_J5_append_cf1ce_33 : tvD cJ5_append_cf1ce 33 (.aload_n 0) 1 34 := tvDl_get dlk_J5_append_cf1ce_g0 16 rfl rfl
theorem dk_J5_append_cf1ce_34 : tvD cJ5_append_cf1ce 34 (.dup) 1 35 := tvDl_get dlk_J5_append_cf1ce_g0 17 rfl rfl
theorem dk_J5_append_cf1ce_35 : tvD cJ5_append_cf1ce 35 (.getfield 79) 3 38 := tvDl_get dlk_J5_append_cf1ce_g0 18 rfl rfl
theorem dk_J5_append_cf1ce_38 : tvD cJ5_append_cf1ce 38 (.iload_n 2) 1 39 := tvDl_get dlk_J5_append_cf1ce_g0 19 rfl rfl
theorem dk_J5_append_cf1ce_39 : tvD cJ5_append_cf1ce 39 (.iadd) 1 40 := tvDl_get dlk_J5_append_cf1ce_g0 20 rfl rfl
theorem dk_J5_append_cf1ce_40 : tvD cJ5_append_cf1ce 40 (.putfield 79) 3 43 := tvDl_get dlk_J5_append_cf1ce_g0 21 rfl rfl
theorem dk_J5_append_cf1ce_43 : tvD cJ5_append_cf1ce 43 (.aload_n 0) 1 44 := tvDl_get dlk_J5_append_cf1ce_g0 22 rfl rfl
theorem dk_J5_append_cf1ce_44 : tvD cJ5_append_cf1ce 44 (.areturn) 1 45 := tvDl_get dlk_J5_append_cf1ce_g0 23 rfl rfl
def dl_J5_ensureCapacityInternal_d00df_g0 : List (Nat × Instr × Nat) := [(0, .aload_n 0, 1), (1, .getfield 15, 3), (4, .arraylength, 1), (5, .aload_n 0, 1), (6, .getfield 22, 3), (9, .ishr, 1), (10, .istore_n 2, 1), (11, .iload_n 1, 1), (12, .iload_n 2, 1), (13, .isub, 1), (14, .ifCond .le 24, 3), (17, .aload_n 0, 1), (18, .aload_n 0, 1), (19, .getfield 15, 3), (22, .aload_n 0, 1), (23, .iload_n 1, 1), (24, .invokevirtual 104, 3), (27, .aload_n 0, 1), (28, .getfield 22, 3), (31, .ishl, 1), (32, .invokestatic 108, 3), (35, .putfield 15, 3), (38, .return_, 1)]
theorem dlk_J5_ensureCapacityInternal_d00df_g0 : tvDl cJ5_ensureCapacityInternal_d00df dl_J5_ensureCapacityInternal_d00df_g0 = true := by decide +kernel
theorem dk_J5_ensureCapacityInternal_d00df_0 : tvD cJ5_ensureCapacityInternal_d00df 0 (.aload_n 0) 1 1 := tvDl_get dlk_J5_ensureCapacityInternal_d00df_g0 0 rfl rfl
theorem dk_J5_ensureCapacityInternal_d00df_1 : tvD cJ5_ensureCapacityInternal_d00df 1 (.getfield 15) 3 4 := tvDl_get dlk_J5_ensureCapacityInternal_d00df_g0 1 rfl rfl
theorem dk_J5_ensureCapacityInternal_d00df_4 : tvD cJ5_ensureCapacityInternal_d00df 4 (.arraylength) 1 5 := tvDl_get dlk_J5_ensureCapacityInternal_d00df_g0 2 rfl rfl
theorem dk_J5_ensureCapacityInternal_d00df_5 : tvD cJ5_ensureCapacityInternal_d00df 5 (.aload_n 0) 1 6 := tvDl_get dlk_J5_ensureCapacityInternal_d00df_g0 3 rfl rfl
theorem dk_J5_ensureCapacityInternal_d00df_6 : tvD cJ5_ensureCapacityInternal_d00df 6 (.getfield 22) 3 9 := tvDl_get dlk_J5_ensureCapacityInternal_d00df_g0 4 rfl rfl
theorem dk_J5_ensureCapacityInternal_d00df_9 : tvD cJ5_ensureCapacityInternal_d00df 9 (.ishr) 1 10 := tvDl_get dlk_J5_ensureCapacityInternal_d00df_g0 5 rfl rfl
theorem dk_J5_ensureCapacityInternal_d00df_10 : tvD cJ5_ensureCapacityInternal_d00df 10 (.istore_n 2) 1 11 := tvDl_get dlk_J5_ensureCapacityInternal_d00df_g0 6 rfl rfl
theorem dk_J5_ensureCapacityInternal_d00df_11 : tvD cJ5_ensureCapacityInternal_d00df 11 (.iload_n 1) 1 12 := tvDl_get dlk_J5_ensureCapacityInternal_d00df_g0 7 rfl rfl
theorem dk_J5_ensureCapacityInternal_d00df_12 : tvD cJ5_ensureCapacityInternal_d00df 12 (.iload_n 2) 1 13 := tvDl_get dlk_J5_ensureCapacityInternal_d00df_g0 8 rfl rfl
theorem dk_J5_ensureCapacityInternal_d00df_13 : tvD cJ5_ensureCapacityInternal_d00df 13 (.isub) 1 14 := tvDl_get dlk_J5_ensureCapacityInternal_d00df_g0 9 rfl rfl
theorem dk_J5_ensureCapacityInternal_d00df_14 : tvJ cJ5_ensureCapacityInternal_d00df 14 (.ifCond .le) 38 17 := tvJl_get dlk_J5_ensureCapacityInternal_d00df_g0 10 rfl (by decide) rfl
theorem dk_J5_ensureCapacityInternal_d00df_17 : tvD cJ5_ensureCapacityInternal_d00df 17 (.aload_n 0) 1 18 := tvDl_get dlk_J5_ensureCapacityInternal_d00df_g0 11 rfl rfl
theorem dk_J5_ensureCapacityInternal_d00df_18 : tvD cJ5_ensureCapacityInternal_d00df 18 (.aload_n 0) 1 19 := tvDl_get dlk_J5_ensureCapacityInternal_d00df_g0 12 rfl rfl
theorem dk_J5_ensureCapacityInternal_d00df_19 : tvD cJ5_ensureCapacityInternal_d00df 19 (.getfield 15) 3 22 := tvDl_get dlk_J5_ensureCapacityInternal_d00df_g0 13 rfl rfl
theorem dk_J5_ensureCapacityInternal_d00df_22 : tvD cJ5_ensureCapacityInternal_d00df 22 (.aload_n 0) 1 23 := tvDl_get dlk_J5_ensureCapacityInternal_d00df_g0 14 rfl rfl
theorem dk_J5_ensureCapacityInternal_d00df_23 : tvD cJ5_ensureCapacityInternal_d00df 23 (.iload_n 1) 1 24 := tvDl_get dlk_J5_ensureCapacityInternal_d00df_g0 15 rfl rfl
theorem dk_J5_ensureCapacityInternal_d00df_24 : tvD cJ5_ensureCapacityInternal_d00df 24 (.invokevirtual 104) 3 27 := tvDl_get dlk_J5_ensureCapacityInternal_d00df_g0 16 rfl rfl
theorem dk_J5_ensureCapacityInternal_d00df_27 : tvD cJ5_ensureCapacityInternal_d00df 27 (.aload_n 0) 1 28 := tvDl_get dlk_J5_ensureCapacityInternal_d00df_g0 17 rfl rfl
theorem dk_J5_ensureCapacityInternal_d00df_28 : tvD cJ5_ensureCapacityInternal_d00df 28 (.getfield 22) 3 31 := tvDl_get dlk_J5_ensureCapacityInternal_d00df_g0 18 rfl rfl
theorem dk_J5_ensureCapacityInternal_d00df_31 : tvD cJ5_ensureCapacityInternal_d00df 31 (.ishl) 1 32 := tvDl_get dlk_J5_ensureCapacityInternal_d00df_g0 19 rfl rfl
theorem dk_J5_ensureCapacityInternal_d00df_32 : tvD cJ5_ensureCapacityInternal_d00df 32 (.invokestatic 108) 3 35 := tvDl_get dlk_J5_ensureCapacityInternal_d00df_g0 20 rfl rfl
theorem dk_J5_ensureCapacityInternal_d00df_35 : tvD cJ5_ensureCapacityInternal_d00df 35 (.putfield 15) 3 38 := tvDl_get dlk_J5_ensureCapacityInternal_d00df_g0 21 rfl rfl
theorem dk_J5_ensureCapacityInternal_d00df_38 : tvD cJ5_ensureCapacityInternal_d00df 38 (.return_) 1 39 := tvDl_get dlk_J5_ensureCapacityInternal_d00df_g0 22 rfl rfl
def dl_J5_getValue_6d5f1_g0 : List (Nat × Instr × Nat) := [(0, .aload_n 0, 1), (1, .getfield 15, 3), (4, .areturn, 1)]
theorem dlk_J5_getValue_6d5f1_g0 : tvDl cJ5_getValue_6d5f1 dl_J5_getValue_6d5f1_g0 = true := by decide +kernel
theorem dk_J5_getValue_6d5f1_0 : tvD cJ5_getValue_6d5f1 0 (.aload_n 0) 1 1 := tvDl_get dlk_J5_getValue_6d5f1_g0 0 rfl rfl
theorem dk_J5_getValue_6d5f1_1 : tvD cJ5_getValue_6d5f1 1 (.getfield 15) 3 4 := tvDl_get dlk_J5_getValue_6d5f1_g0 1 rfl rfl
theorem dk_J5_getValue_6d5f1_4 : tvD cJ5_getValue_6d5f1 4 (.areturn) 1 5 := tvDl_get dlk_J5_getValue_6d5f1_g0 2 rfl rfl
def dl_J5_inflateIfNeededFor_a7421_g0 : List (Nat × Instr × Nat) := [(0, .getstatic 18, 3), (3, .ifCond .eq 18, 3), (6, .aload_n 0, 1), (7, .getfield 22, 3), (10, .aload_n 1, 1), (11, .invokevirtual 40, 3), (14, .if_icmp .eq 7, 3), (21, .return_, 1)]
theorem dlk_J5_inflateIfNeededFor_a7421_g0 : tvDl cJ5_inflateIfNeededFor_a7421 dl_J5_inflateIfNeededFor_a7421_g0 = true := by decide +kernel
theorem dk_J5_inflateIfNeededFor_a7421_0 : tvD cJ5_inflateIfNeededFor_a7421 0 (.getstatic 18) 3 3 := tvDl_get dlk_J5_inflateIfNeededFor_a7421_g0 0 rfl rfl
theorem dk_J5_inflateIfNeededFor_a7421_3 : tvJ cJ5_inflateIfNeededFor_a7421 3 (.ifCond .eq) 21 6 := tvJl_get dlk_J5_inflateIfNeededFor_a7421_g0 1 rfl (by decide) rfl
theorem dk_J5_inflateIfNeededFor_a7421_6 : tvD cJ5_inflateIfNeededFor_a7421 6 (.aload_n 0) 1 7 := tvDl_get dlk_J5_inflateIfNeededFor_a7421_g0 2 rfl rfl
theorem dk_J5_inflateIfNeededFor_a7421_7 : tvD cJ5_inflateIfNeededFor_a7421 7 (.getfield 22) 3 10 := tvDl_get dlk_J5_inflateIfNeededFor_a7421_g0 3 rfl rfl
theorem dk_J5_inflateIfNeededFor_a7421_10 : tvD cJ5_inflateIfNeededFor_a7421 10 (.aload_n 1) 1 11 := tvDl_get dlk_J5_inflateIfNeededFor_a7421_g0 4 rfl rfl
theorem dk_J5_inflateIfNeededFor_a7421_11 : tvD cJ5_inflateIfNeededFor_a7421 11 (.invokevirtual 40) 3 14 := tvDl_get dlk_J5_inflateIfNeededFor_a7421_g0 5 rfl rfl
theorem dk_J5_inflateIfNeededFor_a7421_14 : tvJ cJ5_inflateIfNeededFor_a7421 14 (.if_icmp .eq) 21 17 := tvJl_get dlk_J5_inflateIfNeededFor_a7421_g0 6 rfl (by decide) rfl
theorem dk_J5_inflateIfNeededFor_a7421_21 : tvD cJ5_inflateIfNeededFor_a7421 21 (.return_) 1 22 := tvDl_get dlk_J5_inflateIfNeededFor_a7421_g0 7 rfl rfl
def dl_J5_init_d00df_g0 : List (Nat × Instr × Nat) := [(0, .aload_n 0, 1), (1, .invokespecial 3, 3), (4, .getstatic 18, 3), (7, .ifCond .eq 18, 3), (10, .aload_n 0, 1), (11, .iload_n 1, 1), (12, .newarray .byte, 2), (14, .putfield 15, 3), (17, .aload_n 0, 1), (18, .iconst 0, 1), (19, .putfield 22, 3), (22, .goto 16, 3), (38, .return_, 1)]
theorem dlk_J5_init_d00df_g0 : tvDl cJ5_init_d00df dl_J5_init_d00df_g0 = true := by decide +kernel
theorem dk_J5_init_d00df_0 : tvD cJ5_init_d00df 0 (.aload_n 0) 1 1 := tvDl_get dlk_J5_init_d00df_g0 0 rfl rfl
theorem dk_J5_init_d00df_1 : tvD cJ5_init_d00df 1 (.invokespecial 3) 3 4 := tvDl_get dlk_J5_init_d00df_g0 1 rfl rfl
theorem dk_J5_init_d00df_4 : tvD cJ5_init_d00df 4 (.getstatic 18) 3 7 := tvDl_get dlk_J5_init_d00df_g0 2 rfl rfl
theorem dk_J5_init_d00df_7 : tvJ cJ5_init_d00df 7 (.ifCond .eq) 25 10 := tvJl_get dlk_J5_init_d00df_g0 3 rfl (by decide) rfl
theorem dk_J5_init_d00df_10 : tvD cJ5_init_d00df 10 (.aload_n 0) 1 11 := tvDl_get dlk_J5_init_d00df_g0 4 rfl rfl
theorem dk_J5_init_d00df_11 : tvD cJ5_init_d00df 11 (.iload_n 1) 1 12 := tvDl_get dlk_J5_init_d00df_g0 5 rfl rfl
theorem dk_J5_init_d00df_12 : tvD cJ5_init_d00df 12 (.newarray .byte) 2 14 := tvDl_get dlk_J5_init_d00df_g0 6 rfl rfl
theorem dk_J5_init_d00df_14 : tvD cJ5_init_d00df 14 (.putfield 15) 3 17 := tvDl_get dlk_J5_init_d00df_g0 7 rfl rfl
theorem dk_J5_init_d00df_17 : tvD cJ5_init_d00df 17 (.aload_n 0) 1 18 := tvDl_get dlk_J5_init_d00df_g0 8 rfl rfl
theorem dk_J5_init_d00df_18 : tvD cJ5_init_d00df 18 (.iconst 0) 1 19 := tvDl_get dlk_J5_init_d00df_g0 9 rfl rfl
theorem dk_J5_init_d00df_19 : tvD cJ5_init_d00df 19 (.putfield 22) 3 22 := tvDl_get dlk_J5_init_d00df_g0 10 rfl rfl
theorem dk_J5_init_d00df_22 : tvJ cJ5_init_d00df 22 .goto 38 25 := tvJl_get dlk_J5_init_d00df_g0 11 rfl (by decide) rfl
theorem dk_J5_init_d00df_38 : tvD cJ5_init_d00df 38 (.return_) 1 39 := tvDl_get dlk_J5_init_d00df_g0 12 rfl rfl
def dl_J5_isLatin1_aae02_g0 : List (Nat × Instr × Nat) := [(0, .getstatic 18, 3), (3, .ifCond .eq 14, 3), (6, .aload_n 0, 1), (7, .getfield 22, 3), (10, .ifCond .ne 7, 3), (13, .iconst 1, 1), (14, .goto 4, 3), (18, .ireturn, 1)]
theorem dlk_J5_isLatin1_aae02_g0 : tvDl cJ5_isLatin1_aae02 dl_J5_isLatin1_aae02_g0 = true := by decide +kernel
theorem dk_J5_isLatin1_aae02_0 : tvD cJ5_isLatin1_aae02 0 (.getstatic 18) 3 3 := tvDl_get dlk_J5_isLatin1_aae02_g0 0 rfl rfl
theorem dk_J5_isLatin1_aae02_3 : tvJ cJ5_isLatin1_aae02 3 (.ifCond .eq) 17 6 := tvJl_get dlk_J5_isLatin1_aae02_g0 1 rfl (by decide) rfl
theorem dk_J5_isLatin1_aae02_6 : tvD cJ5_isLatin1_aae02 6 (.aload_n 0) 1 7 := tvDl_get dlk_J5_isLatin1_aae02_g0 2 rfl rfl
theorem dk_J5_isLatin1_aae02_7 : tvD cJ5_isLatin1_aae02 7 (.getfield 22) 3 10 := tvDl_get dlk_J5_isLatin1_aae02_g0 3 rfl rfl
theorem dk_J5_isLatin1_aae02_10 : tvJ cJ5_isLatin1_aae02 10 (.ifCond .ne) 17 13 := tvJl_get dlk_J5_isLatin1_aae02_g0 4 rfl (by decide) rfl
theorem dk_J5_isLatin1_aae02_13 : tvD cJ5_isLatin1_aae02 13 (.iconst 1) 1 14 := tvDl_get dlk_J5_isLatin1_aae02_g0 5 rfl rfl
theorem dk_J5_isLatin1_aae02_14 : tvJ cJ5_isLatin1_aae02 14 .goto 18 17 := tvJl_get dlk_J5_isLatin1_aae02_g0 6 rfl (by decide) rfl
theorem dk_J5_isLatin1_aae02_18 : tvD cJ5_isLatin1_aae02 18 (.ireturn) 1 19 := tvDl_get dlk_J5_isLatin1_aae02_g0 7 rfl rfl
def dl_J5_length_8abf5_g0 : List (Nat × Instr × Nat) := [(0, .aload_n 0, 1), (1, .getfield 79, 3), (4, .ireturn, 1)]
theorem dlk_J5_length_8abf5_g0 : tvDl cJ5_length_8abf5 dl_J5_length_8abf5_g0 = true := by decide +kernel
theorem dk_J5_length_8abf5_0 : tvD cJ5_length_8abf5 0 (.aload_n 0) 1 1 := tvDl_get dlk_J5_length_8abf5_g0 0 rfl rfl
theorem dk_J5_length_8abf5_1 : tvD cJ5_length_8abf5 1 (.getfield 79) 3 4 := tvDl_get dlk_J5_length_8abf5_g0 1 rfl rfl
theorem dk_J5_length_8abf5_4 : tvD cJ5_length_8abf5 4 (.ireturn) 1 5 := tvDl_get dlk_J5_length_8abf5_g0 2 rfl rfl
def dl_J5_newCapacity_0f7a4_g0 : List (Nat × Instr × Nat) := [(0, .aload_n 0, 1), (1, .getfield 15, 3), (4, .arraylength, 1), (5, .istore_n 2, 1), (6, .iload_n 1, 1), (7, .aload_n 0, 1), (8, .getfield 22, 3), (11, .ishl, 1), (12, .istore_n 3, 1), (13, .iload_n 3, 1), (14, .iload_n 2, 1), (15, .isub, 1), (16, .istore 4, 2), (18, .iload_n 2, 1), (19, .iload 4, 2), (21, .iload_n 2, 1), (22, .iconst 2, 1), (23, .aload_n 0, 1), (24, .getfield 22, 3), (27, .ishl, 1), (28, .iadd, 1), (29, .invokestatic 114, 3), (32, .istore 5, 2), (34, .iload 5, 2), (36, .ldc 39, 2), (38, .if_icmp .ne 13, 3), (51, .iload 5, 2), (53, .aload_n 0, 1), (54, .getfield 22, 3), (57, .ishr, 1), (58, .ireturn, 1)]
theorem dlk_J5_newCapacity_0f7a4_g0 : tvDl cJ5_newCapacity_0f7a4 dl_J5_newCapacity_0f7a4_g0 = true := by decide +kernel
theorem dk_J5_newCapacity_0f7a4_0 : tvD cJ5_newCapacity_0f7a4 0 (.aload_n 0) 1 1 := tvDl_get dlk_J5_newCapacity_0f7a4_g0 0 rfl rfl
theorem dk_J5_newCapacity_0f7a4_1 : tvD cJ5_newCapacity_0f7a4 1 (.getfield 15) 3 4 := tvDl_get dlk_J5_newCapacity_0f7a4_g0 1 rfl rfl
theorem dk_J5_newCapacity_0f7a4_4 : tvD cJ5_newCapacity_0f7a4 4 (.arraylength) 1 5 := tvDl_get dlk_J5_newCapacity_0f7a4_g0 2 rfl rfl
theorem dk_J5_newCapacity_0f7a4_5 : tvD cJ5_newCapacity_0f7a4 5 (.istore_n 2) 1 6 := tvDl_get dlk_J5_newCapacity_0f7a4_g0 3 rfl rfl
theorem dk_J5_newCapacity_0f7a4_6 : tvD cJ5_newCapacity_0f7a4 6 (.iload_n 1) 1 7 := tvDl_get dlk_J5_newCapacity_0f7a4_g0 4 rfl rfl
theorem dk_J5_newCapacity_0f7a4_7 : tvD cJ5_newCapacity_0f7a4 7 (.aload_n 0) 1 8 := tvDl_get dlk_J5_newCapacity_0f7a4_g0 5 rfl rfl
theorem dk_J5_newCapacity_0f7a4_8 : tvD cJ5_newCapacity_0f7a4 8 (.getfield 22) 3 11 := tvDl_get dlk_J5_newCapacity_0f7a4_g0 6 rfl rfl
theorem dk_J5_newCapacity_0f7a4_11 : tvD cJ5_newCapacity_0f7a4 11 (.ishl) 1 12 := tvDl_get dlk_J5_newCapacity_0f7a4_g0 7 rfl rfl
theorem dk_J5_newCapacity_0f7a4_12 : tvD cJ5_newCapacity_0f7a4 12 (.istore_n 3) 1 13 := tvDl_get dlk_J5_newCapacity_0f7a4_g0 8 rfl rfl
theorem dk_J5_newCapacity_0f7a4_13 : tvD cJ5_newCapacity_0f7a4 13 (.iload_n 3) 1 14 := tvDl_get dlk_J5_newCapacity_0f7a4_g0 9 rfl rfl
theorem dk_J5_newCapacity_0f7a4_14 : tvD cJ5_newCapacity_0f7a4 14 (.iload_n 2) 1 15 := tvDl_get dlk_J5_newCapacity_0f7a4_g0 10 rfl rfl
theorem dk_J5_newCapacity_0f7a4_15 : tvD cJ5_newCapacity_0f7a4 15 (.isub) 1 16 := tvDl_get dlk_J5_newCapacity_0f7a4_g0 11 rfl rfl
theorem dk_J5_newCapacity_0f7a4_16 : tvD cJ5_newCapacity_0f7a4 16 (.istore 4) 2 18 := tvDl_get dlk_J5_newCapacity_0f7a4_g0 12 rfl rfl
theorem dk_J5_newCapacity_0f7a4_18 : tvD cJ5_newCapacity_0f7a4 18 (.iload_n 2) 1 19 := tvDl_get dlk_J5_newCapacity_0f7a4_g0 13 rfl rfl
theorem dk_J5_newCapacity_0f7a4_19 : tvD cJ5_newCapacity_0f7a4 19 (.iload 4) 2 21 := tvDl_get dlk_J5_newCapacity_0f7a4_g0 14 rfl rfl
theorem dk_J5_newCapacity_0f7a4_21 : tvD cJ5_newCapacity_0f7a4 21 (.iload_n 2) 1 22 := tvDl_get dlk_J5_newCapacity_0f7a4_g0 15 rfl rfl
theorem dk_J5_newCapacity_0f7a4_22 : tvD cJ5_newCapacity_0f7a4 22 (.iconst 2) 1 23 := tvDl_get dlk_J5_newCapacity_0f7a4_g0 16 rfl rfl
theorem dk_J5_newCapacity_0f7a4_23 : tvD cJ5_newCapacity_0f7a4 23 (.aload_n 0) 1 24 := tvDl_get dlk_J5_newCapacity_0f7a4_g0 17 rfl rfl
theorem dk_J5_newCapacity_0f7a4_24 : tvD cJ5_newCapacity_0f7a4 24 (.getfield 22) 3 27 := tvDl_get dlk_J5_newCapacity_0f7a4_g0 18 rfl rfl
theorem dk_J5_newCapacity_0f7a4_27 : tvD cJ5_newCapacity_0f7a4 27 (.ishl) 1 28 := tvDl_get dlk_J5_newCapacity_0f7a4_g0 19 rfl rfl
theorem dk_J5_newCapacity_0f7a4_28 : tvD cJ5_newCapacity_0f7a4 28 (.iadd) 1 29 := tvDl_get dlk_J5_newCapacity_0f7a4_g0 20 rfl rfl
theorem dk_J5_newCapacity_0f7a4_29 : tvD cJ5_newCapacity_0f7a4 29 (.invokestatic 114) 3 32 := tvDl_get dlk_J5_newCapacity_0f7a4_g0 21 rfl rfl
theorem dk_J5_newCapacity_0f7a4_32 : tvD cJ5_newCapacity_0f7a4 32 (.istore 5) 2 34 := tvDl_get dlk_J5_newCapacity_0f7a4_g0 22 rfl rfl
theorem dk_J5_newCapacity_0f7a4_34 : tvD cJ5_newCapacity_0f7a4 34 (.iload 5) 2 36 := tvDl_get dlk_J5_newCapacity_0f7a4_g0 23 rfl rfl
theorem dk_J5_newCapacity_0f7a4_36 : tvD cJ5_newCapacity_0f7a4 36 (.ldc 39) 2 38 := tvDl_get dlk_J5_newCapacity_0f7a4_g0 24 rfl rfl
theorem dk_J5_newCapacity_0f7a4_38 : tvJ cJ5_newCapacity_0f7a4 38 (.if_icmp .ne) 51 41 := tvJl_get dlk_J5_newCapacity_0f7a4_g0 25 rfl (by decide) rfl
theorem dk_J5_newCapacity_0f7a4_51 : tvD cJ5_newCapacity_0f7a4 51 (.iload 5) 2 53 := tvDl_get dlk_J5_newCapacity_0f7a4_g0 26 rfl rfl
theorem dk_J5_newCapacity_0f7a4_53 : tvD cJ5_newCapacity_0f7a4 53 (.aload_n 0) 1 54 := tvDl_get dlk_J5_newCapacity_0f7a4_g0 27 rfl rfl
theorem dk_J5_newCapacity_0f7a4_54 : tvD cJ5_newCapacity_0f7a4 54 (.getfield 22) 3 57 := tvDl_get dlk_J5_newCapacity_0f7a4_g0 28 rfl rfl
theorem dk_J5_newCapacity_0f7a4_57 : tvD cJ5_newCapacity_0f7a4 57 (.ishr) 1 58 := tvDl_get dlk_J5_newCapacity_0f7a4_g0 29 rfl rfl
theorem dk_J5_newCapacity_0f7a4_58 : tvD cJ5_newCapacity_0f7a4 58 (.ireturn) 1 59 := tvDl_get dlk_J5_newCapacity_0f7a4_g0 30 rfl rfl
def dl_J5_putStringAt_47b60_g0 : List (Nat × Instr × Nat) := [(0, .aload_n 0, 1), (1, .aload_n 2, 1), (2, .invokevirtual 397, 3), (5, .aload_n 2, 1), (6, .aload_n 0, 1), (7, .getfield 15, 3), (10, .iload_n 1, 1), (11, .aload_n 0, 1), (12, .getfield 22, 3), (15, .invokevirtual 399, 3), (18, .return_, 1)]
theorem dlk_J5_putStringAt_47b60_g0 : tvDl cJ5_putStringAt_47b60 dl_J5_putStringAt_47b60_g0 = true := by decide +kernel
theorem dk_J5_putStringAt_47b60_0 : tvD cJ5_putStringAt_47b60 0 (.aload_n 0) 1 1 := tvDl_get dlk_J5_putStringAt_47b60_g0 0 rfl rfl
theorem dk_J5_putStringAt_47b60_1 : tvD cJ5_putStringAt_47b60 1 (.aload_n 2) 1 2 := tvDl_get dlk_J5_putStringAt_47b60_g0 1 rfl rfl
theorem dk_J5_putStringAt_47b60_2 : tvD cJ5_putStringAt_47b60 2 (.invokevirtual 397) 3 5 := tvDl_get dlk_J5_putStringAt_47b60_g0 2 rfl rfl
theorem dk_J5_putStringAt_47b60_5 : tvD cJ5_putStringAt_47b60 5 (.aload_n 2) 1 6 := tvDl_get dlk_J5_putStringAt_47b60_g0 3 rfl rfl
theorem dk_J5_putStringAt_47b60_6 : tvD cJ5_putStringAt_47b60 6 (.aload_n 0) 1 7 := tvDl_get dlk_J5_putStringAt_47b60_g0 4 rfl rfl
theorem dk_J5_putStringAt_47b60_7 : tvD cJ5_putStringAt_47b60 7 (.getfield 15) 3 10 := tvDl_get dlk_J5_putStringAt_47b60_g0 5 rfl rfl
theorem dk_J5_putStringAt_47b60_10 : tvD cJ5_putStringAt_47b60 10 (.iload_n 1) 1 11 := tvDl_get dlk_J5_putStringAt_47b60_g0 6 rfl rfl
theorem dk_J5_putStringAt_47b60_11 : tvD cJ5_putStringAt_47b60 11 (.aload_n 0) 1 12 := tvDl_get dlk_J5_putStringAt_47b60_g0 7 rfl rfl
theorem dk_J5_putStringAt_47b60_12 : tvD cJ5_putStringAt_47b60 12 (.getfield 22) 3 15 := tvDl_get dlk_J5_putStringAt_47b60_g0 8 rfl rfl
theorem dk_J5_putStringAt_47b60_15 : tvD cJ5_putStringAt_47b60 15 (.invokevirtual 399) 3 18 := tvDl_get dlk_J5_putStringAt_47b60_g0 9 rfl rfl
theorem dk_J5_putStringAt_47b60_18 : tvD cJ5_putStringAt_47b60 18 (.return_) 1 19 := tvDl_get dlk_J5_putStringAt_47b60_g0 10 rfl rfl
def dl_J6_getChars_ba4f3_g0 : List (Nat × Instr × Nat) := [(0, .iload_n 1, 1), (1, .istore 5, 2), (3, .iload_n 0, 1), (4, .ifCond .ge 7, 3), (11, .iconst 0, 1), (12, .istore 6, 2), (14, .iload 6, 2), (16, .ifCond .ne 6, 3), (19, .iload_n 0, 1), (20, .ineg, 1), (21, .istore_n 0, 1), (22, .iload_n 0, 1), (23, .bipush (-100), 2), (25, .if_icmp .gt 47, 3), (72, .aload_n 2, 1), (73, .iinc 5 (-1), 3), (76, .iload 5, 2), (78, .getstatic 83, 3), (81, .iload_n 0, 1), (82, .ineg, 1), (83, .baload, 1), (84, .bastore, 1), (85, .iload_n 0, 1), (86, .bipush (-9), 2), (88, .if_icmp .ge 16, 3), (91, .aload_n 2, 1), (92, .iinc 5 (-1), 3), (95, .iload 5, 2), (97, .getstatic 87, 3), (100, .iload_n 0, 1), (101, .ineg, 1), (102, .baload, 1), (103, .bastore, 1), (104, .iload 6, 2), (106, .ifCond .eq 12, 3), (118, .iload 5, 2), (120, .ireturn, 1)]
theorem dlk_J6_getChars_ba4f3_g0 : tvDl cJ6_getChars_ba4f3 dl_J6_getChars_ba4f3_g0 = true := by decide +kernel
theorem dk_J6_getChars_ba4f3_0 : tvD cJ6_getChars_ba4f3 0 (.iload_n 1) 1 1 := tvDl_get dlk_J6_getChars_ba4f3_g0 0 rfl rfl
theorem dk_J6_getChars_ba4f3_1 : tvD cJ6_getChars_ba4f3 1 (.istore 5) 2 3 := tvDl_get dlk_J6_getChars_ba4f3_g0 1 rfl rfl
theorem dk_J6_getChars_ba4f3_3 : tvD cJ6_getChars_ba4f3 3 (.iload_n 0) 1 4 := tvDl_get dlk_J6_getChars_ba4f3_g0 2 rfl rfl
theorem dk_J6_getChars_ba4f3_4 : tvJ cJ6_getChars_ba4f3 4 (.ifCond .ge) 11 7 := tvJl_get dlk_J6_getChars_ba4f3_g0 3 rfl (by decide) rfl
theorem dk_J6_getChars_ba4f3_11 : tvD cJ6_getChars_ba4f3 11 (.iconst 0) 1 12 := tvDl_get dlk_J6_getChars_ba4f3_g0 4 rfl rfl
theorem dk_J6_getChars_ba4f3_12 : tvD cJ6_getChars_ba4f3 12 (.istore 6) 2 14 := tvDl_get dlk_J6_getChars_ba4f3_g0 5 rfl rfl
theorem dk_J6_getChars_ba4f3_14 : tvD cJ6_getChars_ba4f3 14 (.iload 6) 2 16 := tvDl_get dlk_J6_getChars_ba4f3_g0 6 rfl rfl
theorem dk_J6_getChars_ba4f3_16 : tvJ cJ6_getChars_ba4f3 16 (.ifCond .ne) 22 19 := tvJl_get dlk_J6_getChars_ba4f3_g0 7 rfl (by decide) rfl
theorem dk_J6_getChars_ba4f3_19 : tvD cJ6_getChars_ba4f3 19 (.iload_n 0) 1 20 := tvDl_get dlk_J6_getChars_ba4f3_g0 8 rfl rfl
theorem dk_J6_getChars_ba4f3_20 : tvD cJ6_getChars_ba4f3 20 (.ineg) 1 21 := tvDl_get dlk_J6_getChars_ba4f3_g0 9 rfl rfl
theorem dk_J6_getChars_ba4f3_21 : tvD cJ6_getChars_ba4f3 21 (.istore_n 0) 1 22 := tvDl_get dlk_J6_getChars_ba4f3_g0 10 rfl rfl
theorem dk_J6_getChars_ba4f3_22 : tvD cJ6_getChars_ba4f3 22 (.iload_n 0) 1 23 := tvDl_get dlk_J6_getChars_ba4f3_g0 11 rfl rfl
theorem dk_J6_getChars_ba4f3_23 : tvD cJ6_getChars_ba4f3 23 (.bipush (-100)) 2 25 := tvDl_get dlk_J6_getChars_ba4f3_g0 12 rfl rfl
theorem dk_J6_getChars_ba4f3_25 : tvJ cJ6_getChars_ba4f3 25 (.if_icmp .gt) 72 28 := tvJl_get dlk_J6_getChars_ba4f3_g0 13 rfl (by decide) rfl
theorem dk_J6_getChars_ba4f3_72 : tvD cJ6_getChars_ba4f3 72 (.aload_n 2) 1 73 := tvDl_get dlk_J6_getChars_ba4f3_g0 14 rfl rfl
theorem dk_J6_getChars_ba4f3_73 : tvD cJ6_getChars_ba4f3 73 (.iinc 5 (-1)) 3 76 := tvDl_get dlk_J6_getChars_ba4f3_g0 15 rfl rfl
theorem dk_J6_getChars_ba4f3_76 : tvD cJ6_getChars_ba4f3 76 (.iload 5) 2 78 := tvDl_get dlk_J6_getChars_ba4f3_g0 16 rfl rfl
theorem dk_J6_getChars_ba4f3_78 : tvD cJ6_getChars_ba4f3 78 (.getstatic 83) 3 81 := tvDl_get dlk_J6_getChars_ba4f3_g0 17 rfl rfl
theorem dk_J6_getChars_ba4f3_81 : tvD cJ6_getChars_ba4f3 81 (.iload_n 0) 1 82 := tvDl_get dlk_J6_getChars_ba4f3_g0 18 rfl rfl
theorem dk_J6_getChars_ba4f3_82 : tvD cJ6_getChars_ba4f3 82 (.ineg) 1 83 := tvDl_get dlk_J6_getChars_ba4f3_g0 19 rfl rfl
theorem dk_J6_getChars_ba4f3_83 : tvD cJ6_getChars_ba4f3 83 (.baload) 1 84 := tvDl_get dlk_J6_getChars_ba4f3_g0 20 rfl rfl
theorem dk_J6_getChars_ba4f3_84 : tvD cJ6_getChars_ba4f3 84 (.bastore) 1 85 := tvDl_get dlk_J6_getChars_ba4f3_g0 21 rfl rfl
theorem dk_J6_getChars_ba4f3_85 : tvD cJ6_getChars_ba4f3 85 (.iload_n 0) 1 86 := tvDl_get dlk_J6_getChars_ba4f3_g0 22 rfl rfl
theorem dk_J6_getChars_ba4f3_86 : tvD cJ6_getChars_ba4f3 86 (.bipush (-9)) 2 88 := tvDl_get dlk_J6_getChars_ba4f3_g0 23 rfl rfl
theorem dk_J6_getChars_ba4f3_88 : tvJ cJ6_getChars_ba4f3 88 (.if_icmp .ge) 104 91 := tvJl_get dlk_J6_getChars_ba4f3_g0 24 rfl (by decide) rfl
theorem dk_J6_getChars_ba4f3_91 : tvD cJ6_getChars_ba4f3 91 (.aload_n 2) 1 92 := tvDl_get dlk_J6_getChars_ba4f3_g0 25 rfl rfl
theorem dk_J6_getChars_ba4f3_92 : tvD cJ6_getChars_ba4f3 92 (.iinc 5 (-1)) 3 95 := tvDl_get dlk_J6_getChars_ba4f3_g0 26 rfl rfl
theorem dk_J6_getChars_ba4f3_95 : tvD cJ6_getChars_ba4f3 95 (.iload 5) 2 97 := tvDl_get dlk_J6_getChars_ba4f3_g0 27 rfl rfl
theorem dk_J6_getChars_ba4f3_97 : tvD cJ6_getChars_ba4f3 97 (.getstatic 87) 3 100 := tvDl_get dlk_J6_getChars_ba4f3_g0 28 rfl rfl
theorem dk_J6_getChars_ba4f3_100 : tvD cJ6_getChars_ba4f3 100 (.iload_n 0) 1 101 := tvDl_get dlk_J6_getChars_ba4f3_g0 29 rfl rfl
theorem dk_J6_getChars_ba4f3_101 : tvD cJ6_getChars_ba4f3 101 (.ineg) 1 102 := tvDl_get dlk_J6_getChars_ba4f3_g0 30 rfl rfl
theorem dk_J6_getChars_ba4f3_102 : tvD cJ6_getChars_ba4f3 102 (.baload) 1 103 := tvDl_get dlk_J6_getChars_ba4f3_g0 31 rfl rfl
theorem dk_J6_getChars_ba4f3_103 : tvD cJ6_getChars_ba4f3 103 (.bastore) 1 104 := tvDl_get dlk_J6_getChars_ba4f3_g0 32 rfl rfl
theorem dk_J6_getChars_ba4f3_104 : tvD cJ6_getChars_ba4f3 104 (.iload 6) 2 106 := tvDl_get dlk_J6_getChars_ba4f3_g0 33 rfl rfl
theorem dk_J6_getChars_ba4f3_106 : tvJ cJ6_getChars_ba4f3 106 (.ifCond .eq) 118 109 := tvJl_get dlk_J6_getChars_ba4f3_g0 34 rfl (by decide) rfl
theorem dk_J6_getChars_ba4f3_118 : tvD cJ6_getChars_ba4f3 118 (.iload 5) 2 120 := tvDl_get dlk_J6_getChars_ba4f3_g0 35 rfl rfl
theorem dk_J6_getChars_ba4f3_120 : tvD cJ6_getChars_ba4f3 120 (.ireturn) 1 121 := tvDl_get dlk_J6_getChars_ba4f3_g0 36 rfl rfl
def dl_J6_stringSize_0f7a4_g0 : List (Nat × Instr × Nat) := [(0, .iconst 1, 1), (1, .istore_n 1, 1), (2, .iload_n 0, 1), (3, .ifCond .lt 8, 3), (6, .iconst 0, 1), (7, .istore_n 1, 1), (8, .iload_n 0, 1), (9, .ineg, 1), (10, .istore_n 0, 1), (11, .bipush (-10), 2), (13, .istore_n 2, 1), (14, .iconst 1, 1), (15, .istore_n 3, 1), (16, .iload_n 3, 1), (17, .bipush 10, 2), (19, .if_icmp .ge 23, 3), (22, .iload_n 0, 1), (23, .iload_n 2, 1), (24, .if_icmp .le 7, 3), (27, .iload_n 3, 1), (28, .iload_n 1, 1), (29, .iadd, 1), (30, .ireturn, 1), (31, .bipush 10, 2), (33, .iload_n 2, 1), (34, .imul, 1), (35, .istore_n 2, 1), (36, .iinc 3 1, 3), (39, .goto (-23), 3)]
theorem dlk_J6_stringSize_0f7a4_g0 : tvDl cJ6_stringSize_0f7a4 dl_J6_stringSize_0f7a4_g0 = true := by decide +kernel
theorem dk_J6_stringSize_0f7a4_0 : tvD cJ6_stringSize_0f7a4 0 (.iconst 1) 1 1 := tvDl_get dlk_J6_stringSize_0f7a4_g0 0 rfl rfl
theorem dk_J6_stringSize_0f7a4_1 : tvD cJ6_stringSize_0f7a4 1 (.istore_n 1) 1 2 := tvDl_get dlk_J6_stringSize_0f7a4_g0 1 rfl rfl
theorem dk_J6_stringSize_0f7a4_2 : tvD cJ6_stringSize_0f7a4 2 (.iload_n 0) 1 3 := tvDl_get dlk_J6_stringSize_0f7a4_g0 2 rfl rfl
theorem dk_J6_stringSize_0f7a4_3 : tvJ cJ6_stringSize_0f7a4 3 (.ifCond .lt) 11 6 := tvJl_get dlk_J6_stringSize_0f7a4_g0 3 rfl (by decide) rfl
theorem dk_J6_stringSize_0f7a4_6 : tvD cJ6_stringSize_0f7a4 6 (.iconst 0) 1 7 := tvDl_get dlk_J6_stringSize_0f7a4_g0 4 rfl rfl
theorem dk_J6_stringSize_0f7a4_7 : tvD cJ6_stringSize_0f7a4 7 (.istore_n 1) 1 8 := tvDl_get dlk_J6_stringSize_0f7a4_g0 5 rfl rfl
theorem dk_J6_stringSize_0f7a4_8 : tvD cJ6_stringSize_0f7a4 8 (.iload_n 0) 1 9 := tvDl_get dlk_J6_stringSize_0f7a4_g0 6 rfl rfl
theorem dk_J6_stringSize_0f7a4_9 : tvD cJ6_stringSize_0f7a4 9 (.ineg) 1 10 := tvDl_get dlk_J6_stringSize_0f7a4_g0 7 rfl rfl
theorem dk_J6_stringSize_0f7a4_10 : tvD cJ6_stringSize_0f7a4 10 (.istore_n 0) 1 11 := tvDl_get dlk_J6_stringSize_0f7a4_g0 8 rfl rfl
theorem dk_J6_stringSize_0f7a4_11 : tvD cJ6_stringSize_0f7a4 11 (.bipush (-10)) 2 13 := tvDl_get dlk_J6_stringSize_0f7a4_g0 9 rfl rfl
theorem dk_J6_stringSize_0f7a4_13 : tvD cJ6_stringSize_0f7a4 13 (.istore_n 2) 1 14 := tvDl_get dlk_J6_stringSize_0f7a4_g0 10 rfl rfl
theorem dk_J6_stringSize_0f7a4_14 : tvD cJ6_stringSize_0f7a4 14 (.iconst 1) 1 15 := tvDl_get dlk_J6_stringSize_0f7a4_g0 11 rfl rfl
theorem dk_J6_stringSize_0f7a4_15 : tvD cJ6_stringSize_0f7a4 15 (.istore_n 3) 1 16 := tvDl_get dlk_J6_stringSize_0f7a4_g0 12 rfl rfl
theorem dk_J6_stringSize_0f7a4_16 : tvD cJ6_stringSize_0f7a4 16 (.iload_n 3) 1 17 := tvDl_get dlk_J6_stringSize_0f7a4_g0 13 rfl rfl
theorem dk_J6_stringSize_0f7a4_17 : tvD cJ6_stringSize_0f7a4 17 (.bipush 10) 2 19 := tvDl_get dlk_J6_stringSize_0f7a4_g0 14 rfl rfl
theorem dk_J6_stringSize_0f7a4_19 : tvJ cJ6_stringSize_0f7a4 19 (.if_icmp .ge) 42 22 := tvJl_get dlk_J6_stringSize_0f7a4_g0 15 rfl (by decide) rfl
theorem dk_J6_stringSize_0f7a4_22 : tvD cJ6_stringSize_0f7a4 22 (.iload_n 0) 1 23 := tvDl_get dlk_J6_stringSize_0f7a4_g0 16 rfl rfl
theorem dk_J6_stringSize_0f7a4_23 : tvD cJ6_stringSize_0f7a4 23 (.iload_n 2) 1 24 := tvDl_get dlk_J6_stringSize_0f7a4_g0 17 rfl rfl
theorem dk_J6_stringSize_0f7a4_24 : tvJ cJ6_stringSize_0f7a4 24 (.if_icmp .le) 31 27 := tvJl_get dlk_J6_stringSize_0f7a4_g0 18 rfl (by decide) rfl
theorem dk_J6_stringSize_0f7a4_27 : tvD cJ6_stringSize_0f7a4 27 (.iload_n 3) 1 28 := tvDl_get dlk_J6_stringSize_0f7a4_g0 19 rfl rfl
theorem dk_J6_stringSize_0f7a4_28 : tvD cJ6_stringSize_0f7a4 28 (.iload_n 1) 1 29 := tvDl_get dlk_J6_stringSize_0f7a4_g0 20 rfl rfl
theorem dk_J6_stringSize_0f7a4_29 : tvD cJ6_stringSize_0f7a4 29 (.iadd) 1 30 := tvDl_get dlk_J6_stringSize_0f7a4_g0 21 rfl rfl
theorem dk_J6_stringSize_0f7a4_30 : tvD cJ6_stringSize_0f7a4 30 (.ireturn) 1 31 := tvDl_get dlk_J6_stringSize_0f7a4_g0 22 rfl rfl
theorem dk_J6_stringSize_0f7a4_31 : tvD cJ6_stringSize_0f7a4 31 (.bipush 10) 2 33 := tvDl_get dlk_J6_stringSize_0f7a4_g0 23 rfl rfl
theorem dk_J6_stringSize_0f7a4_33 : tvD cJ6_stringSize_0f7a4 33 (.iload_n 2) 1 34 := tvDl_get dlk_J6_stringSize_0f7a4_g0 24 rfl rfl
theorem dk_J6_stringSize_0f7a4_34 : tvD cJ6_stringSize_0f7a4 34 (.imul) 1 35 := tvDl_get dlk_J6_stringSize_0f7a4_g0 25 rfl rfl
theorem dk_J6_stringSize_0f7a4_35 : tvD cJ6_stringSize_0f7a4 35 (.istore_n 2) 1 36 := tvDl_get dlk_J6_stringSize_0f7a4_g0 26 rfl rfl
theorem dk_J6_stringSize_0f7a4_36 : tvD cJ6_stringSize_0f7a4 36 (.iinc 3 1) 3 39 := tvDl_get dlk_J6_stringSize_0f7a4_g0 27 rfl rfl
theorem dk_J6_stringSize_0f7a4_39 : tvJ cJ6_stringSize_0f7a4 39 .goto 16 42 := tvJl_get dlk_J6_stringSize_0f7a4_g0 28 rfl (by decide) rfl
def dl_J7_checkLength_df160_g0 : List (Nat × Instr × Nat) := [(0, .iload_n 1, 1), (1, .iload_n 0, 1), (2, .if_icmp .ge 35, 3), (37, .return_, 1)]
theorem dlk_J7_checkLength_df160_g0 : tvDl cJ7_checkLength_df160 dl_J7_checkLength_df160_g0 = true := by decide +kernel
theorem dk_J7_checkLength_df160_0 : tvD cJ7_checkLength_df160 0 (.iload_n 1) 1 1 := tvDl_get dlk_J7_checkLength_df160_g0 0 rfl rfl
theorem dk_J7_checkLength_df160_1 : tvD cJ7_checkLength_df160 1 (.iload_n 0) 1 2 := tvDl_get dlk_J7_checkLength_df160_g0 1 rfl rfl
theorem dk_J7_checkLength_df160_2 : tvJ cJ7_checkLength_df160 2 (.if_icmp .ge) 37 5 := tvJl_get dlk_J7_checkLength_df160_g0 2 rfl (by decide) rfl
theorem dk_J7_checkLength_df160_37 : tvD cJ7_checkLength_df160 37 (.return_) 1 38 := tvDl_get dlk_J7_checkLength_df160_g0 3 rfl rfl
def dl_J7_copyOfRangeByte_39247_g0 : List (Nat × Instr × Nat) := [(0, .iload_n 1, 1), (1, .iload_n 2, 1), (2, .invokestatic 343, 3), (5, .iload_n 2, 1), (6, .iload_n 1, 1), (7, .isub, 1), (8, .istore_n 3, 1), (9, .iload_n 3, 1), (10, .newarray .byte, 2), (12, .astore 4, 2), (14, .aload_n 0, 1), (15, .iload_n 1, 1), (16, .aload 4, 2), (18, .iconst 0, 1), (19, .aload_n 0, 1), (20, .arraylength, 1), (21, .iload_n 1, 1), (22, .isub, 1), (23, .iload_n 3, 1), (24, .invokestatic 304, 3), (27, .invokestatic 150, 3), (30, .aload 4, 2), (32, .areturn, 1)]
theorem dlk_J7_copyOfRangeByte_39247_g0 : tvDl cJ7_copyOfRangeByte_39247 dl_J7_copyOfRangeByte_39247_g0 = true := by decide +kernel
theorem dk_J7_copyOfRangeByte_39247_0 : tvD cJ7_copyOfRangeByte_39247 0 (.iload_n 1) 1 1 := tvDl_get dlk_J7_copyOfRangeByte_39247_g0 0 rfl rfl
theorem dk_J7_copyOfRangeByte_39247_1 : tvD cJ7_copyOfRangeByte_39247 1 (.iload_n 2) 1 2 := tvDl_get dlk_J7_copyOfRangeByte_39247_g0 1 rfl rfl
theorem dk_J7_copyOfRangeByte_39247_2 : tvD cJ7_copyOfRangeByte_39247 2 (.invokestatic 343) 3 5 := tvDl_get dlk_J7_copyOfRangeByte_39247_g0 2 rfl rfl
theorem dk_J7_copyOfRangeByte_39247_5 : tvD cJ7_copyOfRangeByte_39247 5 (.iload_n 2) 1 6 := tvDl_get dlk_J7_copyOfRangeByte_39247_g0 3 rfl rfl
theorem dk_J7_copyOfRangeByte_39247_6 : tvD cJ7_copyOfRangeByte_39247 6 (.iload_n 1) 1 7 := tvDl_get dlk_J7_copyOfRangeByte_39247_g0 4 rfl rfl
theorem dk_J7_copyOfRangeByte_39247_7 : tvD cJ7_copyOfRangeByte_39247 7 (.isub) 1 8 := tvDl_get dlk_J7_copyOfRangeByte_39247_g0 5 rfl rfl
theorem dk_J7_copyOfRangeByte_39247_8 : tvD cJ7_copyOfRangeByte_39247 8 (.istore_n 3) 1 9 := tvDl_get dlk_J7_copyOfRangeByte_39247_g0 6 rfl rfl
theorem dk_J7_copyOfRangeByte_39247_9 : tvD cJ7_copyOfRangeByte_39247 9 (.iload_n 3) 1 10 := tvDl_get dlk_J7_copyOfRangeByte_39247_g0 7 rfl rfl
theorem dk_J7_copyOfRangeByte_39247_10 : tvD cJ7_copyOfRangeByte_39247 10 (.newarray .byte) 2 12 := tvDl_get dlk_J7_copyOfRangeByte_39247_g0 8 rfl rfl
theorem dk_J7_copyOfRangeByte_39247_12 : tvD cJ7_copyOfRangeByte_39247 12 (.astore 4) 2 14 := tvDl_get dlk_J7_copyOfRangeByte_39247_g0 9 rfl rfl
theorem dk_J7_copyOfRangeByte_39247_14 : tvD cJ7_copyOfRangeByte_39247 14 (.aload_n 0) 1 15 := tvDl_get dlk_J7_copyOfRangeByte_39247_g0 10 rfl rfl
theorem dk_J7_copyOfRangeByte_39247_15 : tvD cJ7_copyOfRangeByte_39247 15 (.iload_n 1) 1 16 := tvDl_get dlk_J7_copyOfRangeByte_39247_g0 11 rfl rfl
theorem dk_J7_copyOfRangeByte_39247_16 : tvD cJ7_copyOfRangeByte_39247 16 (.aload 4) 2 18 := tvDl_get dlk_J7_copyOfRangeByte_39247_g0 12 rfl rfl
theorem dk_J7_copyOfRangeByte_39247_18 : tvD cJ7_copyOfRangeByte_39247 18 (.iconst 0) 1 19 := tvDl_get dlk_J7_copyOfRangeByte_39247_g0 13 rfl rfl
theorem dk_J7_copyOfRangeByte_39247_19 : tvD cJ7_copyOfRangeByte_39247 19 (.aload_n 0) 1 20 := tvDl_get dlk_J7_copyOfRangeByte_39247_g0 14 rfl rfl
theorem dk_J7_copyOfRangeByte_39247_20 : tvD cJ7_copyOfRangeByte_39247 20 (.arraylength) 1 21 := tvDl_get dlk_J7_copyOfRangeByte_39247_g0 15 rfl rfl
theorem dk_J7_copyOfRangeByte_39247_21 : tvD cJ7_copyOfRangeByte_39247 21 (.iload_n 1) 1 22 := tvDl_get dlk_J7_copyOfRangeByte_39247_g0 16 rfl rfl
theorem dk_J7_copyOfRangeByte_39247_22 : tvD cJ7_copyOfRangeByte_39247 22 (.isub) 1 23 := tvDl_get dlk_J7_copyOfRangeByte_39247_g0 17 rfl rfl
theorem dk_J7_copyOfRangeByte_39247_23 : tvD cJ7_copyOfRangeByte_39247 23 (.iload_n 3) 1 24 := tvDl_get dlk_J7_copyOfRangeByte_39247_g0 18 rfl rfl
theorem dk_J7_copyOfRangeByte_39247_24 : tvD cJ7_copyOfRangeByte_39247 24 (.invokestatic 304) 3 27 := tvDl_get dlk_J7_copyOfRangeByte_39247_g0 19 rfl rfl
theorem dk_J7_copyOfRangeByte_39247_27 : tvD cJ7_copyOfRangeByte_39247 27 (.invokestatic 150) 3 30 := tvDl_get dlk_J7_copyOfRangeByte_39247_g0 20 rfl rfl
theorem dk_J7_copyOfRangeByte_39247_30 : tvD cJ7_copyOfRangeByte_39247 30 (.aload 4) 2 32 := tvDl_get dlk_J7_copyOfRangeByte_39247_g0 21 rfl rfl
theorem dk_J7_copyOfRangeByte_39247_32 : tvD cJ7_copyOfRangeByte_39247 32 (.areturn) 1 33 := tvDl_get dlk_J7_copyOfRangeByte_39247_g0 22 rfl rfl
def dl_J7_copyOfRange_39247_g0 : List (Nat × Instr × Nat) := [(0, .iload_n 1, 1), (1, .ifCond .ne 9, 3), (4, .iload_n 2, 1), (5, .aload_n 0, 1), (6, .arraylength, 1), (7, .if_icmp .eq 10, 3), (10, .aload_n 0, 1), (11, .iload_n 1, 1), (12, .iload_n 2, 1), (13, .invokestatic 339, 3), (16, .areturn, 1), (17, .aload_n 0, 1), (18, .invokevirtual 310, 3), (21, .checkcast 311, 3), (24, .areturn, 1)]
theorem dlk_J7_copyOfRange_39247_g0 : tvDl cJ7_copyOfRange_39247 dl_J7_copyOfRange_39247_g0 = true := by decide +kernel
theorem dk_J7_copyOfRange_39247_0 : tvD cJ7_copyOfRange_39247 0 (.iload_n 1) 1 1 := tvDl_get dlk_J7_copyOfRange_39247_g0 0 rfl rfl
theorem dk_J7_copyOfRange_39247_1 : tvJ cJ7_copyOfRange_39247 1 (.ifCond .ne) 10 4 := tvJl_get dlk_J7_copyOfRange_39247_g0 1 rfl (by decide) rfl
theorem dk_J7_copyOfRange_39247_4 : tvD cJ7_copyOfRange_39247 4 (.iload_n 2) 1 5 := tvDl_get dlk_J7_copyOfRange_39247_g0 2 rfl rfl
theorem dk_J7_copyOfRange_39247_5 : tvD cJ7_copyOfRange_39247 5 (.aload_n 0) 1 6 := tvDl_get dlk_J7_copyOfRange_39247_g0 3 rfl rfl
theorem dk_J7_copyOfRange_39247_6 : tvD cJ7_copyOfRange_39247 6 (.arraylength) 1 7 := tvDl_get dlk_J7_copyOfRange_39247_g0 4 rfl rfl
theorem dk_J7_copyOfRange_39247_7 : tvJ cJ7_copyOfRange_39247 7 (.if_icmp .eq) 17 10 := tvJl_get dlk_J7_copyOfRange_39247_g0 5 rfl (by decide) rfl
theorem dk_J7_copyOfRange_39247_10 : tvD cJ7_copyOfRange_39247 10 (.aload_n 0) 1 11 := tvDl_get dlk_J7_copyOfRange_39247_g0 6 rfl rfl
theorem dk_J7_copyOfRange_39247_11 : tvD cJ7_copyOfRange_39247 11 (.iload_n 1) 1 12 := tvDl_get dlk_J7_copyOfRange_39247_g0 7 rfl rfl
theorem dk_J7_copyOfRange_39247_12 : tvD cJ7_copyOfRange_39247 12 (.iload_n 2) 1 13 := tvDl_get dlk_J7_copyOfRange_39247_g0 8 rfl rfl
theorem dk_J7_copyOfRange_39247_13 : tvD cJ7_copyOfRange_39247 13 (.invokestatic 339) 3 16 := tvDl_get dlk_J7_copyOfRange_39247_g0 9 rfl rfl
theorem dk_J7_copyOfRange_39247_16 : tvD cJ7_copyOfRange_39247 16 (.areturn) 1 17 := tvDl_get dlk_J7_copyOfRange_39247_g0 10 rfl rfl
theorem dk_J7_copyOfRange_39247_17 : tvD cJ7_copyOfRange_39247 17 (.aload_n 0) 1 18 := tvDl_get dlk_J7_copyOfRange_39247_g0 11 rfl rfl
theorem dk_J7_copyOfRange_39247_18 : tvD cJ7_copyOfRange_39247 18 (.invokevirtual 310) 3 21 := tvDl_get dlk_J7_copyOfRange_39247_g0 12 rfl rfl
theorem dk_J7_copyOfRange_39247_21 : tvD cJ7_copyOfRange_39247 21 (.checkcast 311) 3 24 := tvDl_get dlk_J7_copyOfRange_39247_g0 13 rfl rfl
theorem dk_J7_copyOfRange_39247_24 : tvD cJ7_copyOfRange_39247 24 (.areturn) 1 25 := tvDl_get dlk_J7_copyOfRange_39247_g0 14 rfl rfl
def dl_J7_copyOf_9075b_g0 : List (Nat × Instr × Nat) := [(0, .iload_n 1, 1), (1, .aload_n 0, 1), (2, .arraylength, 1), (3, .if_icmp .ne 11, 3), (14, .iload_n 1, 1), (15, .newarray .byte, 2), (17, .astore_n 2, 1), (18, .aload_n 0, 1), (19, .iconst 0, 1), (20, .aload_n 2, 1), (21, .iconst 0, 1), (22, .aload_n 0, 1), (23, .arraylength, 1), (24, .iload_n 1, 1), (25, .invokestatic 304, 3), (28, .invokestatic 150, 3), (31, .aload_n 2, 1), (32, .areturn, 1)]
theorem dlk_J7_copyOf_9075b_g0 : tvDl cJ7_copyOf_9075b dl_J7_copyOf_9075b_g0 = true := by decide +kernel
theorem dk_J7_copyOf_9075b_0 : tvD cJ7_copyOf_9075b 0 (.iload_n 1) 1 1 := tvDl_get dlk_J7_copyOf_9075b_g0 0 rfl rfl
theorem dk_J7_copyOf_9075b_1 : tvD cJ7_copyOf_9075b 1 (.aload_n 0) 1 2 := tvDl_get dlk_J7_copyOf_9075b_g0 1 rfl rfl
theorem dk_J7_copyOf_9075b_2 : tvD cJ7_copyOf_9075b 2 (.arraylength) 1 3 := tvDl_get dlk_J7_copyOf_9075b_g0 2 rfl rfl
theorem dk_J7_copyOf_9075b_3 : tvJ cJ7_copyOf_9075b 3 (.if_icmp .ne) 14 6 := tvJl_get dlk_J7_copyOf_9075b_g0 3 rfl (by decide) rfl
theorem dk_J7_copyOf_9075b_14 : tvD cJ7_copyOf_9075b 14 (.iload_n 1) 1 15 := tvDl_get dlk_J7_copyOf_9075b_g0 4 rfl rfl
theorem dk_J7_copyOf_9075b_15 : tvD cJ7_copyOf_9075b 15 (.newarray .byte) 2 17 := tvDl_get dlk_J7_copyOf_9075b_g0 5 rfl rfl
theorem dk_J7_copyOf_9075b_17 : tvD cJ7_copyOf_9075b 17 (.astore_n 2) 1 18 := tvDl_get dlk_J7_copyOf_9075b_g0 6 rfl rfl
theorem dk_J7_copyOf_9075b_18 : tvD cJ7_copyOf_9075b 18 (.aload_n 0) 1 19 := tvDl_get dlk_J7_copyOf_9075b_g0 7 rfl rfl
theorem dk_J7_copyOf_9075b_19 : tvD cJ7_copyOf_9075b 19 (.iconst 0) 1 20 := tvDl_get dlk_J7_copyOf_9075b_g0 8 rfl rfl
theorem dk_J7_copyOf_9075b_20 : tvD cJ7_copyOf_9075b 20 (.aload_n 2) 1 21 := tvDl_get dlk_J7_copyOf_9075b_g0 9 rfl rfl
theorem dk_J7_copyOf_9075b_21 : tvD cJ7_copyOf_9075b 21 (.iconst 0) 1 22 := tvDl_get dlk_J7_copyOf_9075b_g0 10 rfl rfl
theorem dk_J7_copyOf_9075b_22 : tvD cJ7_copyOf_9075b 22 (.aload_n 0) 1 23 := tvDl_get dlk_J7_copyOf_9075b_g0 11 rfl rfl
theorem dk_J7_copyOf_9075b_23 : tvD cJ7_copyOf_9075b 23 (.arraylength) 1 24 := tvDl_get dlk_J7_copyOf_9075b_g0 12 rfl rfl
theorem dk_J7_copyOf_9075b_24 : tvD cJ7_copyOf_9075b 24 (.iload_n 1) 1 25 := tvDl_get dlk_J7_copyOf_9075b_g0 13 rfl rfl
theorem dk_J7_copyOf_9075b_25 : tvD cJ7_copyOf_9075b 25 (.invokestatic 304) 3 28 := tvDl_get dlk_J7_copyOf_9075b_g0 14 rfl rfl
theorem dk_J7_copyOf_9075b_28 : tvD cJ7_copyOf_9075b 28 (.invokestatic 150) 3 31 := tvDl_get dlk_J7_copyOf_9075b_g0 15 rfl rfl
theorem dk_J7_copyOf_9075b_31 : tvD cJ7_copyOf_9075b 31 (.aload_n 2) 1 32 := tvDl_get dlk_J7_copyOf_9075b_g0 16 rfl rfl
theorem dk_J7_copyOf_9075b_32 : tvD cJ7_copyOf_9075b 32 (.areturn) 1 33 := tvDl_get dlk_J7_copyOf_9075b_g0 17 rfl rfl
def dl_J8_newLength_cabcc_g0 : List (Nat × Instr × Nat) := [(0, .iload_n 0, 1), (1, .iload_n 1, 1), (2, .iload_n 2, 1), (3, .invokestatic 194, 3), (6, .iadd, 1), (7, .istore_n 3, 1), (8, .iconst 0, 1), (9, .iload_n 3, 1), (10, .if_icmp .ge 11, 3), (13, .iload_n 3, 1), (14, .ldc 200, 2), (16, .if_icmp .gt 5, 3), (19, .iload_n 3, 1), (20, .ireturn, 1)]
theorem dlk_J8_newLength_cabcc_g0 : tvDl cJ8_newLength_cabcc dl_J8_newLength_cabcc_g0 = true := by decide +kernel
theorem dk_J8_newLength_cabcc_0 : tvD cJ8_newLength_cabcc 0 (.iload_n 0) 1 1 := tvDl_get dlk_J8_newLength_cabcc_g0 0 rfl rfl
theorem dk_J8_newLength_cabcc_1 : tvD cJ8_newLength_cabcc 1 (.iload_n 1) 1 2 := tvDl_get dlk_J8_newLength_cabcc_g0 1 rfl rfl
theorem dk_J8_newLength_cabcc_2 : tvD cJ8_newLength_cabcc 2 (.iload_n 2) 1 3 := tvDl_get dlk_J8_newLength_cabcc_g0 2 rfl rfl
theorem dk_J8_newLength_cabcc_3 : tvD cJ8_newLength_cabcc 3 (.invokestatic 194) 3 6 := tvDl_get dlk_J8_newLength_cabcc_g0 3 rfl rfl
theorem dk_J8_newLength_cabcc_6 : tvD cJ8_newLength_cabcc 6 (.iadd) 1 7 := tvDl_get dlk_J8_newLength_cabcc_g0 4 rfl rfl
theorem dk_J8_newLength_cabcc_7 : tvD cJ8_newLength_cabcc 7 (.istore_n 3) 1 8 := tvDl_get dlk_J8_newLength_cabcc_g0 5 rfl rfl
theorem dk_J8_newLength_cabcc_8 : tvD cJ8_newLength_cabcc 8 (.iconst 0) 1 9 := tvDl_get dlk_J8_newLength_cabcc_g0 6 rfl rfl
theorem dk_J8_newLength_cabcc_9 : tvD cJ8_newLength_cabcc 9 (.iload_n 3) 1 10 := tvDl_get dlk_J8_newLength_cabcc_g0 7 rfl rfl
theorem dk_J8_newLength_cabcc_10 : tvJ cJ8_newLength_cabcc 10 (.if_icmp .ge) 21 13 := tvJl_get dlk_J8_newLength_cabcc_g0 8 rfl (by decide) rfl
theorem dk_J8_newLength_cabcc_13 : tvD cJ8_newLength_cabcc 13 (.iload_n 3) 1 14 := tvDl_get dlk_J8_newLength_cabcc_g0 9 rfl rfl
theorem dk_J8_newLength_cabcc_14 : tvD cJ8_newLength_cabcc 14 (.ldc 200) 2 16 := tvDl_get dlk_J8_newLength_cabcc_g0 10 rfl rfl
theorem dk_J8_newLength_cabcc_16 : tvJ cJ8_newLength_cabcc 16 (.if_icmp .gt) 21 19 := tvJl_get dlk_J8_newLength_cabcc_g0 11 rfl (by decide) rfl
theorem dk_J8_newLength_cabcc_19 : tvD cJ8_newLength_cabcc 19 (.iload_n 3) 1 20 := tvDl_get dlk_J8_newLength_cabcc_g0 12 rfl rfl
theorem dk_J8_newLength_cabcc_20 : tvD cJ8_newLength_cabcc 20 (.ireturn) 1 21 := tvDl_get dlk_J8_newLength_cabcc_g0 13 rfl rfl
