/-! ===== the places and their references; short rows ===== -/
def tvBases : List Nat := [1, 21, 41, 63, 83, 103, 123, 143, 163, 183, 203, 223]
def tvSB (b : Nat) : Prop := b ∈ tvBases
/-- a State's references: place, field, place -/
def tvStR : List (Nat × Nat × Nat) := [(0, 0, 1), (0, 1, 2), (0, 2, 6), (0, 3, 16), (2, 1, 3), (2, 2, 4), (2, 3, 5), (6, 1, 7), (6, 2, 8), (6, 3, 9), (6, 4, 10), (6, 5, 11), (6, 6, 12), (6, 7, 13), (6, 8, 14), (6, 9, 15), (16, 2, 17), (16, 3, 18), (16, 4, 19)]
def tvRefs : List (Nat × Nat × Nat) := [(0, 0, 1), (0, 1, 21), (0, 2, 41), (0, 3, 61), (0, 4, 243), (0, 5, 247), (61, 0, 62), (62, 0, 63), (62, 1, 83), (62, 2, 103), (62, 3, 123), (62, 4, 143), (62, 5, 163), (62, 6, 183), (62, 7, 203), (62, 8, 223), (243, 0, 244), (243, 4, 245), (243, 5, 246), (247, 0, 248), (249, 0, 250), (249, 1, 251), (249, 2, 252), (249, 3, 253), (249, 11, 254), (249, 13, 255), (249, 14, 256)] ++ tvBases.flatMap (fun b => tvStR.map (fun q => (b + q.1, q.2.1, b + q.2.2)))
def tvRho : tvR := fun a k => (tvRefs.find? (fun q => q.1 == a && q.2.1 == k)).map (fun q => q.2.2)
abbrev tvP0 : tvPh := (259, tvRho, False)
theorem tvP0_ex : ¬ tvP0.2.2 := id
theorem tvSB_sh {b : Nat} (h : tvSB b) : ∀ c, c < 20 → tvSh (b + c) = tvStL.getD c (6, 0) ∧ b + c < 259 := by
  have h1 : ∀ b ∈ tvBases, ∀ c, c < 20 → tvSh (b + c) = tvStL.getD c (6, 0) ∧ b + c < 259 := by decide +kernel
  exact h1 b h
theorem tvSB_rho {b : Nat} (h : tvSB b) : ∀ q ∈ tvStR, tvRho (b + q.1) q.2.1 = some (b + q.2.2) := by
  have h1 : ∀ b ∈ tvBases, ∀ q ∈ tvStR, tvRho (b + q.1) q.2.1 = some (b + q.2.2) := by decide +kernel
  exact h1 b h
theorem tvSB_slot : ∀ j, j < 9 → tvSB (63 + 20 * j) ∧ tvRho 62 j = some (63 + 20 * j) := by
  have h1 : ∀ j, j < 9 → (63 + 20 * j ∈ tvBases) ∧ tvRho 62 j = some (63 + 20 * j) := by decide +kernel
  exact h1
section TVQ
variable {E : tvE} {P P1 : tvPh} {k sl d mc ms nL pc pc' : Nat} {M M1 : tvM} {L : List (Option Value)} {st : List Value} {own : String} {cc : ByteArray} {ret : Option FieldType} {tb : List ExceptionTableEntry} {o : tvO}
theorem tv_getI {a ci idx j : Nat} (C : tvC E own cc nL ret d mc ms tb) (hd : tvD cc pc (.getfield idx) 3 pc') (hF : tvFl own idx ci j) (ha : a < P.1) (hs : tvSh a = (0, ci)) (hv : ∀ z fi fl fr, tvFv z fi fl fr (tvTy ci j) j = .int (fi j)) (kk : tv_W E P k sl M pc' L (.int (tgi M a j) :: st)) : tv_W E P k sl M pc L (.ref (E.G.2.1 + a) :: st) := tv_get C hd hF ha hs (hv _ _ _ _) kk
theorem tv_getL {a ci idx j : Nat} (C : tvC E own cc nL ret d mc ms tb) (hd : tvD cc pc (.getfield idx) 3 pc') (hF : tvFl own idx ci j) (ha : a < P.1) (hs : tvSh a = (0, ci)) (hv : ∀ z fi fl fr, tvFv z fi fl fr (tvTy ci j) j = .long (fl j)) (kk : tv_W E P k sl M pc' L (.long (tgl M a j) :: st)) : tv_W E P k sl M pc L (.ref (E.G.2.1 + a) :: st) := tv_get C hd hF ha hs (hv _ _ _ _) kk
theorem tv_getR {a ci idx j r : Nat} (C : tvC E own cc nL ret d mc ms tb) (hd : tvD cc pc (.getfield idx) 3 pc') (hF : tvFl own idx ci j) (ha : a < P.1) (hs : tvSh a = (0, ci)) (hr : P.2.1 a j = some r) (hv : ∀ z fi fl fr, tvFv z fi fl fr (tvTy ci j) j = tvRf z (fr j)) (kk : tv_W E P k sl M pc' L (.ref (E.G.2.1 + r) :: st)) : tv_W E P k sl M pc L (.ref (E.G.2.1 + a) :: st) := tv_get C hd hF ha hs ((hv _ _ _ _).trans (by rw [hr]; rfl)) kk
theorem tv_cV1 {b ci idx n' ar d' N : Nat} {y : MethodName} {cc' : ByteArray} {ret' : Option FieldType} {As st0 : List Value} {T : u_T} {v : Value} (C : tvC E own cc nL ret d mc ms tb) (hd : tvD cc pc (.invokevirtual idx) 3 pc') (hl : Cond.methodLink own idx y ∈ tvGW) (hY : tvYk y cc' n' ret' ar) (hI : tvYi y) (hR : tvRun E.G y cc' n' ret' d' 0 0 P P1 (.ref (E.G.2.1 + b) :: As) M (.inl (some v)) M1) (hb : b < P.1) (hs : tvSh b = (0, ci)) (hc : tvCl[ci]? = some (y.cls, T, N)) (hst : st0 = As.reverse ++ .ref (E.G.2.1 + b) :: st) (hn : As.length = ar) (hcat : (st.map fun v => v.category).sum ≤ 8) (hdd : d' + 1 ≤ d) (hnn : n' ≤ 45) (hkk : k ≤ mc) (hss : sl ≤ ms)
    (kk : tv_W E P1 k sl M1 pc' L (v :: st)) : tv_W E P k sl M pc L st0 := tv_callVr C hd hl hY hI hR hb hs hc hst hn hcat hdd hnn hkk hss kk
theorem tv_cV0 {b ci idx n' ar d' N : Nat} {y : MethodName} {cc' : ByteArray} {ret' : Option FieldType} {As st0 : List Value} {T : u_T} (C : tvC E own cc nL ret d mc ms tb) (hd : tvD cc pc (.invokevirtual idx) 3 pc') (hl : Cond.methodLink own idx y ∈ tvGW) (hY : tvYk y cc' n' ret' ar) (hI : tvYi y) (hR : tvRun E.G y cc' n' ret' d' 0 0 P P1 (.ref (E.G.2.1 + b) :: As) M (.inl none) M1) (hb : b < P.1) (hs : tvSh b = (0, ci)) (hc : tvCl[ci]? = some (y.cls, T, N)) (hst : st0 = As.reverse ++ .ref (E.G.2.1 + b) :: st) (hn : As.length = ar) (hcat : (st.map fun v => v.category).sum ≤ 8) (hdd : d' + 1 ≤ d) (hnn : n' ≤ 45) (hkk : k ≤ mc) (hss : sl ≤ ms)
    (kk : tv_W E P1 k sl M1 pc' L st) : tv_W E P k sl M pc L st0 := tv_callVr C hd hl hY hI hR hb hs hc hst hn hcat hdd hnn hkk hss kk
theorem tv_cS1 {idx n' ar d' : Nat} {y : MethodName} {cc' : ByteArray} {ret' : Option FieldType} {As st0 : List Value} {v : Value} (C : tvC E own cc nL ret d mc ms tb) (hd : tvD cc pc (.invokestatic idx) 3 pc') (hl : Cond.methodLink own idx y ∈ tvGW) (hY : tvYk y cc' n' ret' ar) (hI : Cond.static y ∈ tvGW) (hR : tvRun E.G y cc' n' ret' d' 0 0 P P1 As M (.inl (some v)) M1) (hst : st0 = As.reverse ++ st) (hn : As.length = ar) (hcat : (st.map fun v => v.category).sum ≤ 8) (hdd : d' + 1 ≤ d) (hnn : n' ≤ 45) (hkk : k ≤ mc) (hss : sl ≤ ms)
    (kk : tv_W E P1 k sl M1 pc' L (v :: st)) : tv_W E P k sl M pc L st0 := tv_callSr C hd hl hY hI hR hst hn hcat hdd hnn hkk hss kk
theorem tv_cS0 {idx n' ar d' : Nat} {y : MethodName} {cc' : ByteArray} {ret' : Option FieldType} {As st0 : List Value} (C : tvC E own cc nL ret d mc ms tb) (hd : tvD cc pc (.invokestatic idx) 3 pc') (hl : Cond.methodLink own idx y ∈ tvGW) (hY : tvYk y cc' n' ret' ar) (hI : Cond.static y ∈ tvGW) (hR : tvRun E.G y cc' n' ret' d' 0 0 P P1 As M (.inl none) M1) (hst : st0 = As.reverse ++ st) (hn : As.length = ar) (hcat : (st.map fun v => v.category).sum ≤ 8) (hdd : d' + 1 ≤ d) (hnn : n' ≤ 45) (hkk : k ≤ mc) (hss : sl ≤ ms)
    (kk : tv_W E P1 k sl M1 pc' L st) : tv_W E P k sl M pc L st0 := tv_callSr C hd hl hY hI hR hst hn hcat hdd hnn hkk hss kk
theorem tv_ldcS {tx : String} {idx i : Nat} (C : tvC E own cc nL ret d mc ms tb) (hd : tvD cc pc (.ldc idx) 2 pc') (h : (own, idx, tx, i) ∈ tvStr) (kk : tv_W E P k sl M pc' L (.ref (E.G.2.2.2.2.1 i) :: st)) : tv_W E P k sl M pc L st := by
  obtain ⟨hd, rfl⟩ := hd
  exact fun H locs ls hP hS hl => va_ldcS C.1 C.2.1 C.2.2.2.1 (C.2.2.2.2.2.1.2.2.1 _ h) hd (kk H locs ls hP hS hl)
end TVQ
