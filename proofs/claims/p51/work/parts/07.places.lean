/-! ===== the places and their references; short rows ===== -/
def tvBases : List Nat := [1, 21, 41, 63, 83, 103, 123, 143, 163, 183, 203, 223]
def tvSB (b : Nat) : Prop := b ∈ tvBases
/-- a State's references: place, field, place -/
def tvStR : List (Nat × Nat × Nat) := [(0, 0, 1), (0, 1, 2), (0, 2, 6), (0, 3, 16), (2, 1, 3), (2, 2, 4), (2, 3, 5), (6, 1, 7), (6, 2, 8), (6, 3, 9), (6, 4, 10), (6, 5, 11), (6, 6, 12), (6, 7, 13), (6, 8, 14), (6, 9, 15), (16, 2, 17), (16, 3, 18), (16, 4, 19)]
def tvRefs : List (Nat × Nat × Nat) := [(0, 0, 1), (0, 1, 21), (0, 2, 41), (0, 3, 61), (0, 4, 243), (0, 5, 247), (61, 0, 62), (62, 0, 63), (62, 1, 83), (62, 2, 103), (62, 3, 123), (62, 4, 143), (62, 5, 163), (62, 6, 183), (62, 7, 203), (62, 8, 223), (243, 0, 244), (243, 4, 245), (243, 5, 246), (247, 0, 248)] ++ tvBases.flatMap (fun b => tvStR.map (fun q => (b + q.1, q.2.1, b + q.2.2)))
def tvRho : tvR := fun a k => (tvRefs.find? (fun q => q.1 == a && q.2.1 == k)).map (fun q => q.2.2)
abbrev tvP0 : tvPh := (249, tvRho, False, [])
theorem tvP0_ex : tvEx tvP0 := ⟨id, rfl⟩
theorem tvSB_sh {b : Nat} (h : tvSB b) : ∀ c, c < 20 → tvSh (b + c) = tvStL.getD c (6, 0) ∧ b + c < 249 := by
  have h1 : ∀ b ∈ tvBases, ∀ c, c < 20 → tvSh (b + c) = tvStL.getD c (6, 0) ∧ b + c < 249 := by decide +kernel
  exact h1 b h
theorem tvSB_rho {b : Nat} (h : tvSB b) : ∀ q ∈ tvStR, tvRho (b + q.1) q.2.1 = some (b + q.2.2) := by
  have h1 : ∀ b ∈ tvBases, ∀ q ∈ tvStR, tvRho (b + q.1) q.2.1 = some (b + q.2.2) := by decide +kernel
  exact h1 b h
theorem tvSB_slot : ∀ j, j < 9 → tvSB (63 + 20 * j) ∧ tvRho 62 j = some (63 + 20 * j) := by
  have h1 : ∀ j, j < 9 → (63 + 20 * j ∈ tvBases) ∧ tvRho 62 j = some (63 + 20 * j) := by decide +kernel
  exact h1
section TVQ
variable {E : tvE} {P P1 : tvPh} {k sl d mc ms nL pc pc' : Nat} {M M1 : tvM} {L : List (Option Value)} {st : List Value} {own : String} {cc : ByteArray} {ret : Option FieldType} {tb : List ExceptionTableEntry} {o : tvO}
theorem tv_getI {a ci idx j : Nat} (C : tvC E own cc nL ret d mc ms tb) (hd : tvD cc pc (.getfield idx) 3 pc') (hF : tvFl own idx ci j) (ha : a < P.1) (hs : tvSh a = (0, ci)) (hv : ∀ z fi fl fr, tvFv z fi fl fr (tvTy ci j) j = .int (fi j)) (kk : tv_W E P k sl M pc' L (.int (tgi M a j) :: st)) : tv_W E P k sl M pc L (.ref (E.G.2.1 + a) :: st) := tv_get C hd hF ha hs (hv _ _ _ _) kk
theorem tv_getL {a ci idx j : Nat} (C : tvC E own cc nL ret d mc ms tb) (hd : tvD cc pc (.getfield idx) 3 pc') (hF : tvFl own idx ci j) (ha : a < P.1) (hs : tvSh a = (0, ci)) (hv : ∀ z fi fl fr, tvFv z fi fl fr (tvTy ci j) j = .long (fl j)) (kk : tv_W E P k sl M pc' L (.long (tgl M a j) :: st)) : tv_W E P k sl M pc L (.ref (E.G.2.1 + a) :: st) := tv_get C hd hF ha hs (hv _ _ _ _) kk
theorem tv_getR {a ci idx j r : Nat} (C : tvC E own cc nL ret d mc ms tb) (hd : tvD cc pc (.getfield idx) 3 pc') (hF : tvFl own idx ci j) (ha : a < P.1) (hs : tvSh a = (0, ci)) (hr : P.2.1 a j = some r) (hv : ∀ z fi fl fr, tvFv z fi fl fr (tvTy ci j) j = tvRf z (fr j)) (kk : tv_W E P k sl M pc' L (.ref (E.G.2.1 + r) :: st)) : tv_W E P k sl M pc L (.ref (E.G.2.1 + a) :: st) := tv_get C hd hF ha hs ((hv _ _ _ _).trans (by rw [hr]; rfl)) kk
theorem tv_cV1 {b ci idx n' ar d' N : Nat} {y : MethodName} {cc' : ByteArray} {ret' : Option FieldType} {As st0 : List Value} {T : u_T} {v : Value} (C : tvC E own cc nL ret d mc ms tb) (hd : tvD cc pc (.invokevirtual idx) 3 pc') (hl : Cond.methodLink own idx y ∈ tvGW) (hY : tvYk y cc' n' ret' ar) (hI : tvYi y) (hR : tvRun E.G y cc' n' ret' d' 0 0 P P1 (.ref (E.G.2.1 + b) :: As) M (.inl (some v)) M1) (hb : b < P.1) (hs : tvSh b = (0, ci)) (hc : tvCl[ci]? = some (y.cls, T, N)) (hst : st0 = As.reverse ++ .ref (E.G.2.1 + b) :: st) (hn : As.length = ar) (hcat : (st.map fun v => v.category).sum ≤ 8) (hdd : d' + 1 ≤ d) (hnn : n' ≤ 45) (hkk : k ≤ mc) (hss : sl ≤ ms)
    (kk : tv_W E P1 k sl M1 pc' L (v :: st)) : tv_W E P k sl M pc L st0 := tv_callVr C hd hl hY hI hR hb hs hc hst hn hcat hdd hnn hkk hss kk
theorem tv_cV0 {b ci idx n' ar d' N : Nat} {y : MethodName} {cc' : ByteArray} {ret' : Option FieldType} {As st0 : List Value} {T : u_T} (C : tvC E own cc nL ret d mc ms tb) (hd : tvD cc pc (.invokevirtual idx) 3 pc') (hl : Cond.methodLink own idx y ∈ tvGW) (hY : tvYk y cc' n' ret' ar) (hI : tvYi y) (hR : tvRun E.G y cc' n' ret' d' 0 0 P P1 (.ref (E.G.2.1 + b) :: As) M (.inl none) M1) (hb : b < P.1) (hs : tvSh b = (0, ci)) (hc : tvCl[ci]? = some (y.cls, T, N)) (hst : st0 = As.reverse ++ .ref (E.G.2.1 + b) :: st) (hn : As.length = ar) (hcat : (st.map fun v => v.category).sum ≤ 8) (hdd : d' + 1 ≤ d) (hnn : n' ≤ 45) (hkk : k ≤ mc) (hss : sl ≤ ms)
    (kk : tv_W E P1 k sl M1 pc' L st) : tv_W E P k sl M pc L st0 := tv_callVr C hd hl hY hI hR hb hs hc hst hn hcat hdd hnn hkk hss kk
theorem tv_cS1 {idx n' ar d' : Nat} {y : MethodName} {cc' : ByteArray} {ret' : Option FieldType} {As st0 : List Value} {v : Value} (C : tvC E own cc nL ret d mc ms tb) (hd : tvD cc pc (.invokestatic idx) 3 pc') (hl : Cond.methodLink own idx y ∈ tvGW) (hY : tvYk y cc' n' ret' ar) (hI : Cond.static y ∈ tvGW) (hR : tvRun E.G y cc' n' ret' d' 0 0 P P1 As M (.inl (some v)) M1) (hst : st0 = As.reverse ++ st) (hn : As.length = ar) (hcat : (st.map fun v => v.category).sum ≤ 8) (hdd : d' + 1 ≤ d) (hnn : n' ≤ 45) (hkk : k ≤ mc) (hss : sl ≤ ms)
    (kk : tv_W E P1 k sl M1 pc' L (v :: st)) : tv_W E P k sl M pc L st0 := tv_callSr C hd hl hY hI hR hst hn hcat hdd hnn hkk hss kk
theorem tv_cS0 {idx n' ar d' : Nat} {y : MethodName} {cc' : ByteArray} {ret' : Option FieldType} {As st0 : List Value} (C : tvC E own cc nL ret d mc ms tb) (hd : tvD cc pc (.invokestatic idx) 3 pc') (hl : Cond.methodLink own idx y ∈ tvGW) (hY : tvYk y cc' n' ret' ar) (hI : Cond.static y ∈ tvGW) (hR : tvRun E.G y cc' n' ret' d' 0 0 P P1 As M (.inl none) M1) (hst : st0 = As.reverse ++ st) (hn : As.length = ar) (hcat : (st.map fun v => v.category).sum ≤ 8) (hdd : d' + 1 ≤ d) (hnn : n' ≤ 45) (hkk : k ≤ mc) (hss : sl ≤ ms)
    (kk : tv_W E P1 k sl M1 pc' L st) : tv_W E P k sl M pc L st0 := tv_callSr C hd hl hY hI hR hst hn hcat hdd hnn hkk hss kk
theorem tv_ldcS {tx : String} {idx i : Nat} (C : tvC E own cc nL ret d mc ms tb) (hd : tvD cc pc (.ldc idx) 2 pc') (h : (own, idx, tx, i) ∈ tvStr) (kk : tv_W E P k sl M pc' L (.ref (E.G.2.2.2.2.1 i) :: st)) : tv_W E P k sl M pc L st := by
  obtain ⟨hd, rfl⟩ := hd
  exact fun H locs ls hP hS hl => va_ldcS C.1 C.2.1 C.2.2.2.1 (C.2.2.2.2.2.1.2.2.1 _ h) hd (kk H locs ls hP hS hl)
end TVQ
/-! ===== rows with the index told; switches; callees that may throw; iterated steps ===== -/
section TVK
variable {E : tvE} {P P1 : tvPh} {k sl d mc ms nL pc pc' : Nat} {M M1 : tvM} {L : List (Option Value)} {st : List Value} {own : String} {cc : ByteArray} {ret : Option FieldType} {tb : List ExceptionTableEntry} {o : tvO}
theorem tv_iald {a n j : Nat} {i : Int32} (hj : i.toNatClampNeg = j) (C : tvC E own cc nL ret d mc ms tb) (hd : tvD cc pc .iaload 1 pc') (ha : a < P.1) (hs : tvSh a = (1, n)) (hi : vp_in i n) (kk : tv_W E P k sl M pc' L (.int (tgi M a j) :: st)) : tv_W E P k sl M pc L (.int i :: .ref (E.G.2.1 + a) :: st) := tv_iaload C hd ha hs hi (hj ▸ kk)
theorem tv_cald {a n j : Nat} {i : Int32} (hj : i.toNatClampNeg = j) (C : tvC E own cc nL ret d mc ms tb) (hd : tvD cc pc .caload 1 pc') (ha : a < P.1) (hs : tvSh a = (2, n)) (hi : vp_in i n) (kk : tv_W E P k sl M pc' L (.int (tnc (tgi M a j)) :: st)) : tv_W E P k sl M pc L (.int i :: .ref (E.G.2.1 + a) :: st) := tv_caload C hd ha hs hi (hj ▸ kk)
theorem tv_iast {a n j : Nat} {i x : Int32} (hj : i.toNatClampNeg = j) (C : tvC E own cc nL ret d mc ms tb) (hex : tvEx P) (hd : tvD cc pc .iastore 1 pc') (ha : a < P.1) (hs : tvSh a = (1, n)) (hi : vp_in i n) (kk : tv_W E P k sl (tpi M a j x) pc' L st) : tv_W E P k sl M pc L (.int x :: .int i :: .ref (E.G.2.1 + a) :: st) := tv_iastore C hex hd ha hs hi (hj ▸ kk)
theorem tv_cast {a n j : Nat} {i x : Int32} (hj : i.toNatClampNeg = j) (C : tvC E own cc nL ret d mc ms tb) (hex : tvEx P) (hd : tvD cc pc .castore 1 pc') (ha : a < P.1) (hs : tvSh a = (2, n)) (hi : vp_in i n) (kk : tv_W E P k sl (tpi M a j x) pc' L st) : tv_W E P k sl M pc L (.int x :: .int i :: .ref (E.G.2.1 + a) :: st) := tv_castore C hex hd ha hs hi (hj ▸ kk)
theorem tv_case {x c : Int32} {Z : Prop} (kt : x = c → Z) (kf : ¬ x = c → Z) : Z := if h : x = c then kt h else kf h
/-- a switch's way for a number, and for all that has none -/
def tvSw (cc : ByteArray) (pc : Nat) (x : Int32) (t : Nat) : Prop := (∃ (dflt lo hi : Int) (offs : Array Int) (len : Nat) (off : Int), decode cc pc = .ok (.tableswitch dflt lo hi offs, len) ∧ ¬ x.toInt < lo ∧ ¬ hi < x.toInt ∧ offs[(x.toInt - lo).toNat]? = some off ∧ (pc : Int) + off = (t : Int)) ∨ (∃ (dflt lo hi : Int) (offs : Array Int) (len : Nat), decode cc pc = .ok (.tableswitch dflt lo hi offs, len) ∧ (x.toInt < lo ∨ hi < x.toInt) ∧ (pc : Int) + dflt = (t : Int)) ∨ (∃ (dflt : Int) (ps : Array (Int × Int)) (len : Nat) (off : Int), decode cc pc = .ok (.lookupswitch dflt ps, len) ∧ (ps.toList.zip (ps.toList.drop 1)).all (fun (a, next) => a.1 < next.1) = true ∧ Op.lookupswitch.offset ps.toList dflt x.toInt = off ∧ (pc : Int) + off = (t : Int))
theorem tv_swd {x : Int32} {t : Nat} (C : tvC E own cc nL ret d mc ms tb) (hd : tvSw cc pc x t) (kk : tv_W E P k sl M t L st) : tv_W E P k sl M pc L (.int x :: st) := by
  rcases hd with ⟨dflt, lo, hi, offs, len, off, h1, h2, h3, h4, h5⟩ | ⟨dflt, lo, hi, offs, len, h1, h2, h3⟩ | ⟨dflt, ps, len, off, h1, h2, h3, h4⟩
  · exact fun H locs ls hP hS hl => lv_tableIn C.1 C.2.1 h1 h2 h3 h4 h5 (kk H locs ls hP hS hl)
  · exact fun H locs ls hP hS hl => lv_tableOut C.1 C.2.1 h1 h2 h3 (kk H locs ls hP hS hl)
  · exact fun H locs ls hP hS hl => lv_lookup C.1 C.2.1 h1 h2 h3 h4 (kk H locs ls hP hS hl)
theorem tv_sw {x c : Int32} {t : Nat} (C : tvC E own cc nL ret d mc ms tb) (hd : tvSw cc pc c t) (h : x = c) (kk : tv_W E P k sl M t L st) : tv_W E P k sl M pc L (.int x :: st) := tv_swd C (h ▸ hd) kk
def tvOx (v : Option Value) (x : Option String) : tvO := match x with
  | none => .inl v
  | some e => .inr e
theorem tv_sn {x : Option String} {e : String} (h : x = some e) : ¬ x = none := by rw [h]; exact Option.some_ne_none e
theorem tvOx_l {v u : Option Value} {x : Option String} (h : tvOx v x = .inl u) : x = none ∧ v = u := by cases x <;> cases h; exact ⟨rfl, rfl⟩
theorem tvOx_r {v : Option Value} {x : Option String} {e : String} (h : tvOx v x = .inr e) : x = some e := by cases x <;> cases h; rfl
theorem tv_cVx {b ci idx n' ar d' mc' ms' N : Nat} {y : MethodName} {cc' : ByteArray} {ret' : Option FieldType} {As st0 : List Value} {T : u_T} {v : Option Value} {fx : Option String} (C : tvC E own cc nL ret d mc ms tb) (hd : tvD cc pc (.invokevirtual idx) 3 pc') (hl : Cond.methodLink own idx y ∈ tvGW) (hY : tvYk y cc' n' ret' ar) (hI : tvYi y) (hR : tvRun E.G y cc' n' ret' d' mc' ms' P P1 (.ref (E.G.2.1 + b) :: As) M (tvOx v fx) M1) (hb : b < P.1) (hs : tvSh b = (0, ci)) (hc : tvCl[ci]? = some (y.cls, T, N)) (hst : st0 = As.reverse ++ .ref (E.G.2.1 + b) :: st) (hn : As.length = ar) (hcat : (st.map fun v => v.category).sum ≤ 8) (hdd : d' + 1 ≤ d) (hnn : n' ≤ 45) (hkk : k + mc' ≤ mc) (hss : sl + ms' ≤ ms) {k' sl' : Nat} (hk' : k + mc' = k') (hs' : sl + ms' = sl') {st1 : List Value} (h1 : v.toList ++ st = st1)
    (kx : ∀ e : String, fx = some e → tv_X E P1 k' sl' M1 pc L st e) (kk : fx = none → tv_W E P1 k' sl' M1 pc' L st1) : tv_W E P k sl M pc L st0 := by
  subst hk' hs' h1
  exact tv_callV C hd hl hY hI hR hb hs hc hst hn hcat hdd hnn hkk hss (fun u h => by obtain ⟨h1, h2⟩ := tvOx_l h; subst h2; exact kk h1) (fun e h => kx e (tvOx_r h))
theorem tv_cSx {idx n' ar d' mc' ms' : Nat} {y : MethodName} {cc' : ByteArray} {ret' : Option FieldType} {As st0 : List Value} {v : Option Value} {fx : Option String} (C : tvC E own cc nL ret d mc ms tb) (hd : tvD cc pc (.invokestatic idx) 3 pc') (hl : Cond.methodLink own idx y ∈ tvGW) (hY : tvYk y cc' n' ret' ar) (hI : Cond.static y ∈ tvGW) (hR : tvRun E.G y cc' n' ret' d' mc' ms' P P1 As M (tvOx v fx) M1) (hst : st0 = As.reverse ++ st) (hn : As.length = ar) (hcat : (st.map fun v => v.category).sum ≤ 8) (hdd : d' + 1 ≤ d) (hnn : n' ≤ 45) (hkk : k + mc' ≤ mc) (hss : sl + ms' ≤ ms) {k' sl' : Nat} (hk' : k + mc' = k') (hs' : sl + ms' = sl') {st1 : List Value} (h1 : v.toList ++ st = st1)
    (kx : ∀ e : String, fx = some e → tv_X E P1 k' sl' M1 pc L st e) (kk : fx = none → tv_W E P1 k' sl' M1 pc' L st1) : tv_W E P k sl M pc L st0 := by
  subst hk' hs' h1
  exact tv_callS C hd hl hY hI hR hst hn hcat hdd hnn hkk hss (fun u h => by obtain ⟨h1, h2⟩ := tvOx_l h; subst h2; exact kk h1) (fun e h => kx e (tvOx_r h))
end TVK
def tvIter {σ ρ : Type} (step : σ → σ ⊕ ρ) : Nat → σ ⊕ ρ → Option ρ
  | _, .inr r => some r
  | 0, .inl _ => none
  | n + 1, .inl s => tvIter step n (step s)
theorem tvIter_out {σ ρ : Type} {step : σ → σ ⊕ ρ} {n : Nat} {x r : ρ} (h : tvIter step n (.inr x) = some r) : x = r := by cases n <;> exact Option.some.inj h
theorem tvIter_go {σ ρ : Type} {step : σ → σ ⊕ ρ} {n : Nat} {s : σ} {r : ρ} (h : tvIter step (n + 1) (.inl s) = some r) : tvIter step n (step s) = some r := h
theorem tvIter_0 {σ ρ : Type} {step : σ → σ ⊕ ρ} {s : σ} {r : ρ} (h : tvIter step 0 (.inl s) = some r) : False := by cases h
theorem tvnw {w : Cond} (h : w ∈ lw_tbl) (hg : tvIsN w = true) : w ∈ tvNest := List.mem_filter.mpr ⟨h, hg⟩
theorem tv_nz_pos {x : Int32} (h : 0 < x) : ¬ x = 0 := fun e => by subst e; exact absurd h (by decide)
theorem tv_nz_nle {x : Int32} (h : ¬ x ≤ 0) : ¬ x = 0 := fun e => by subst e; exact absurd (by decide) h
/-- an index between tests -/
theorem tvin_2 {x c : Int32} {n : Nat} (h1 : ¬ x < 0) (h2 : ¬ c ≤ x) (hc : c = nI n) (hn : n < 2 ^ 31) : vp_in x n := by
  subst hc
  obtain ⟨j, hj, rfl⟩ := nI_of h1
  have h3 : j < n := Nat.not_le.mp (fun q => h2 (nI_le q hj))
  exact vp_in_nI h3 hn
theorem tvin_3 {x c : Int32} {n : Nat} (h1 : ¬ x < 0) (h2 : x < c) (hc : c = nI n) (hn : n < 2 ^ 31) : vp_in x n := tvin_2 h1 (fun h => absurd h (by
  intro h3
  rw [Int32.lt_iff_toInt_lt] at h2
  rw [Int32.le_iff_toInt_le] at h3
  omega)) hc hn
/-- row m of rows of w -/
theorem tvin_mul {x y w : Int32} {n m k : Nat} (h2 : vp_in x n) (h4 : vp_in y m) (hw : w = nI m) (hk : n * m = k) (hs : k < 2 ^ 31) : vp_in (x * w + y) k := by
  obtain ⟨i, hi, rfl⟩ := vp_in_of h2 (by
    rcases Nat.eq_zero_or_pos m with h | h
    · subst h; exact absurd h4 (fun q => q (Or.inr (Nat.zero_le _)))
    · have := Nat.le_mul_of_pos_right n h
      omega)
  obtain ⟨j, hj, rfl⟩ := vp_in_of h4 (by
    have := Nat.le_mul_of_pos_left m (show 0 < n by omega)
    omega)
  subst hw
  rw [pk_mul, nI_add]
  refine vp_in_nI ?_ hs
  subst hk
  calc i * m + j < i * m + m := by omega
    _ = (i + 1) * m := by rw [Nat.succ_mul]
    _ ≤ n * m := Nat.mul_le_mul_right m hi
theorem tvIn_0 : ∀ w ∈ u_ws RX0 TX0 10, w ∈ tvGW := by decide +kernel
theorem tvIn_1 : ∀ w ∈ u_ws RX1 TX1 3, w ∈ tvGW := by decide +kernel
theorem tvIn_2 : ∀ w ∈ u_ws RX2 TX2 4, w ∈ tvGW := by decide +kernel
theorem tvIn_3 : ∀ w ∈ u_ws RX3 TX3 2, w ∈ tvGW := by decide +kernel
theorem tvIn_4 : ∀ w ∈ u_ws RX4 TX4 5, w ∈ tvGW := by decide +kernel
theorem tvIn_5 : ∀ w ∈ u_ws RX5 TX5 6, w ∈ tvGW := by decide +kernel
theorem tvIn_6 : ∀ w ∈ u_ws RX6 TX6 9, w ∈ tvGW := by decide +kernel
theorem tvIn_7 : ∀ w ∈ u_ws RX7 TX7 2, w ∈ tvGW := by decide +kernel
theorem tvIn_8 : ∀ w ∈ u_ws RX8 TX8 10, w ∈ tvGW := by decide +kernel
theorem tvIn_9 : ∀ w ∈ u_ws RJ4 TJ4 4, w ∈ tvGW := by decide +kernel
theorem tvIn_10 : ∀ w ∈ u_ws RJ0 TJ0 4, w ∈ tvGW := by decide +kernel
theorem tvSBn_1 : tvSB 1 := by unfold tvSB; decide
theorem tvSBn_21 : tvSB 21 := by unfold tvSB; decide
theorem tvSBn_41 : tvSB 41 := by unfold tvSB; decide
theorem tvSBn_63 : tvSB 63 := by unfold tvSB; decide
theorem tvSBn_83 : tvSB 83 := by unfold tvSB; decide
theorem tvSBn_103 : tvSB 103 := by unfold tvSB; decide
theorem tvSBn_123 : tvSB 123 := by unfold tvSB; decide
theorem tvSBn_143 : tvSB 143 := by unfold tvSB; decide
theorem tvSBn_163 : tvSB 163 := by unfold tvSB; decide
theorem tvSBn_183 : tvSB 183 := by unfold tvSB; decide
theorem tvSBn_203 : tvSB 203 := by unfold tvSB; decide
theorem tvSBn_223 : tvSB 223 := by unfold tvSB; decide
/-! ===== fewer locals known; a switch's rest; loops by their states ===== -/
def tvSubL : List (Option Value) → List (Option Value) → Prop
  | [], _ => True
  | none :: a, _ :: b => tvSubL a b
  | some v :: a, some w :: b => v = w ∧ tvSubL a b
  | _, _ => False
theorem tvSubL_get : ∀ {A B : List (Option Value)}, tvSubL A B → ∀ {i : Nat} {v : Value}, A[i]? = some (some v) → B[i]? = some (some v)
  | [], _, _, i, v, h => by simp at h
  | none :: a, [], h, _, _, _ => by simp [tvSubL] at h
  | none :: a, y :: b, h, i, v, hi => by
    cases i with
    | zero => simp at hi
    | succ i => simp at hi ⊢; exact tvSubL_get (show tvSubL a b from h) hi
  | some w :: a, [], h, _, _, _ => by simp [tvSubL] at h
  | some w :: a, none :: b, h, _, _, _ => by simp [tvSubL] at h
  | some w :: a, some y :: b, h, i, v, hi => by
    obtain ⟨h1, h2⟩ := (show w = y ∧ tvSubL a b from h)
    cases i with
    | zero => simp at hi ⊢; rw [← h1]; exact hi
    | succ i => simp at hi ⊢; exact tvSubL_get h2 hi
theorem tv_drop {E : tvE} {P : tvPh} {k sl : Nat} {M : tvM} {pc : Nat} {L L2 : List (Option Value)} {st : List Value} (h : tvSubL L2 L) (kk : tv_W E P k sl M pc L2 st) : tv_W E P k sl M pc L st := by
  intro H locs ls hP hS hl
  refine kk H locs ls hP hS ⟨hl.1, hl.2.1, fun q hq => hl.2.2 q ?_⟩
  obtain ⟨j, h1, h2⟩ := (tvEl_mem L2 0).mp hq
  exact (tvEl_mem L 0).mpr ⟨j, h1, tvSubL_get h h2⟩
theorem tvsw_out (x : Int32) (lo n : Nat) (hn : n < 2 ^ 31) (h : ∀ c : Nat, lo ≤ c → c < n → ¬ x = nI c) : x.toInt < (lo : Int) ∨ ((n : Int) - 1) < x.toInt := by
  rcases Int.lt_or_le x.toInt lo with h1 | h1
  · exact Or.inl h1
  · refine Or.inr ?_
    rcases Int.lt_or_le ((n : Int) - 1) x.toInt with h2 | h2
    · exact h2
    · exfalso
      refine h x.toInt.toNat (by omega) (by omega) ?_
      rw [← Int32.toInt_inj, nI_toInt (by omega)]
      omega
theorem tvIter_for {σ ρ : Type} (step : σ → σ ⊕ ρ) (I : Nat → σ) (N : Nat) (r : ρ) (hs : ∀ i, i < N → step (I i) = .inl (I (i + 1))) (he : step (I N) = .inr r) : ∃ n, tvIter step n (.inl (I 0)) = some r := by
  have key : ∀ k i, i + k = N → ∃ n, tvIter step n (.inl (I i)) = some r := by
    intro k
    induction k with
    | zero =>
      intro i hi
      have : i = N := by omega
      subst this
      exact ⟨1, by rw [tvIter, he]; rfl⟩
    | succ k ih =>
      intro i hi
      obtain ⟨n, hn⟩ := ih (i + 1) (by omega)
      exact ⟨n + 1, by rw [tvIter, hs i (by omega)]; exact hn⟩
  exact key N 0 (by omega)
theorem tvIter_more {σ ρ : Type} {step : σ → σ ⊕ ρ} {n : Nat} {x : σ ⊕ ρ} {r : ρ} (h : tvIter step n x = some r) : ∀ m, tvIter step (n + m) x = some r := by
  induction n generalizing x with
  | zero => intro m; cases x with
    | inl s => cases h
    | inr y => cases h; cases m <;> rfl
  | succ n ih => intro m; cases x with
    | inl s => rw [Nat.add_right_comm]; exact ih h m
    | inr y => rw [Nat.add_right_comm]; cases h; rfl
/-- x < n as numbers -/
theorem tv_nle {x : Int32} {i : Nat} (h : i < x.toNatClampNeg) : ¬ x ≤ nI i := by
  intro q
  have h1 : x.toNatClampNeg < 2 ^ 31 := by
    have := Int32.toInt_lt x
    simp only [Int32.toNatClampNeg] at *
    omega
  rw [Int32.le_iff_toInt_le, nI_toInt (by omega)] at q
  simp only [Int32.toNatClampNeg] at h
  omega
theorem tv_le {x : Int32} : x ≤ nI x.toNatClampNeg := by
  have h1 : x.toNatClampNeg < 2 ^ 31 := by
    have := Int32.toInt_lt x
    simp only [Int32.toNatClampNeg] at *
    omega
  rw [Int32.le_iff_toInt_le, nI_toInt h1]
  simp only [Int32.toNatClampNeg]
  omega
def tvDl (cc : ByteArray) (l : List (Nat × Instr × Nat)) : Bool := l.all (fun q => decide (decode cc q.1 = .ok (q.2.1, q.2.2)))
theorem tvDl_at {cc : ByteArray} {l : List (Nat × Instr × Nat)} (h : tvDl cc l = true) (i : Nat) {pc n : Nat} {ins : Instr} (hi : l[i]? = some (pc, ins, n)) : decode cc pc = .ok (ins, n) := by
  have := List.all_eq_true.mp h _ (List.mem_of_getElem? hi)
  simpa using this
theorem tvDl_get {cc : ByteArray} {l : List (Nat × Instr × Nat)} (h : tvDl cc l = true) (i : Nat) {pc n pc' : Nat} {ins : Instr} (hi : l[i]? = some (pc, ins, n)) (hp : pc + n = pc') : tvD cc pc ins n pc' := ⟨tvDl_at h i hi, hp⟩
theorem tvJl_get {cc : ByteArray} {l : List (Nat × Instr × Nat)} (h : tvDl cc l = true) (i : Nat) {pc t pc' : Nat} {ins : Int → Instr} {off : Int} (hi : l[i]? = some (pc, ins off, 3)) (ht : (pc : Int) + off = (t : Int)) (hp : pc + 3 = pc') : tvJ cc pc ins t pc' := ⟨off, tvDl_at h i hi, ht, hp⟩
theorem tvgc {w : Cond} (h : w ∈ lw_tbl) (hg : goodWord w = true) : w ∈ tvGW := tvgw h hg
theorem tvc_1 {w : Cond} (h : w ∈ tables_1_1) : w ∈ lw_tbl := List.mem_append_right _ (List.mem_append_left _ h)
theorem tvc_2 {w : Cond} (h : w ∈ tables_1_2) : w ∈ lw_tbl := List.mem_append_right _ (List.mem_append_right _ (List.mem_append_left _ h))
theorem tvc_3 {w : Cond} (h : w ∈ tables_1_3) : w ∈ lw_tbl := List.mem_append_right _ (List.mem_append_right _ (List.mem_append_right _ (List.mem_append_left _ h)))
theorem tvc_4 {w : Cond} (h : w ∈ tables_1_4) : w ∈ lw_tbl := List.mem_append_right _ (List.mem_append_right _ (List.mem_append_right _ (List.mem_append_right _ (List.mem_append_left _ h))))
theorem tvc_5 {w : Cond} (h : w ∈ tables_1_5) : w ∈ lw_tbl := List.mem_append_right _ (List.mem_append_right _ (List.mem_append_right _ (List.mem_append_right _ (List.mem_append_right _ (List.mem_append_left _ h)))))
theorem tvc_6 {w : Cond} (h : w ∈ tables_1_6) : w ∈ lw_tbl := List.mem_append_right _ (List.mem_append_right _ (List.mem_append_right _ (List.mem_append_right _ (List.mem_append_right _ (List.mem_append_right _ (List.mem_append_left _ h))))))
theorem tvc_7 {w : Cond} (h : w ∈ tables_1_7) : w ∈ lw_tbl := List.mem_append_right _ (List.mem_append_right _ (List.mem_append_right _ (List.mem_append_right _ (List.mem_append_right _ (List.mem_append_right _ (List.mem_append_right _ (h)))))))
