/-! ===== rows over the memory ===== -/
def tvFl (own : String) (idx ci k : Nat) : Prop := ∃ (C : String) (T : u_T) (N : Nat), tvCl[ci]? = some (C, T, N) ∧ k < N ∧ tvN ci = N ∧ (∀ w ∈ u_ws C T N, w ∈ tvGW) ∧ (T k).1 = C ∧ (Cond.fieldLink own idx C (T k).2.1 (T k).2.2.1 ∈ tvGW ∨ ∃ host : String, Cond.fieldLinkNest own idx C (T k).2.1 (T k).2.2.1 host ∈ tvNest)
/-- what a field's writing needs beside -/
def tvFw (ci k : Nat) : Prop := ∃ (C : String) (T : u_T) (N : Nat), tvCl[ci]? = some (C, T, N) ∧ (∀ k, k < N → parseFieldDescriptor (T k).2.2.1 = some (tvTy ci k)) ∧ (∀ a, a < N → ∀ b, b < N → a ≠ b → (T a).2.1 ≠ (T b).2.1) ∧ (T k).2.2.2 = false
def tnc (x : Int32) : Int32 := vp_nar .char x
def tpr (M : tvM) (a : Nat) (f : Nat → Int32) : tvM := (fun x => if x = a then f else M.1 x, M.2.1, M.2.2)
/-- n places of row a0 into row a -/
def tcp (M : tvM) (a0 a n : Nat) : tvM := tpr M a (fun i => if i < n then M.1 a0 i else M.1 a i)
theorem tnc_eq (x : Int32) : tnc x = (x.toUInt32 % 65536).toInt32 := by
  unfold tnc
  rw [vp_nar_char]
  congr 1
theorem tnc_nar (x : Int32) : narrow .char (.int (tnc x)) = .int (tnc x) := by rw [tnc_eq]; exact pk_nc x
theorem tnc_fit (x : Int32) : fits .char (.int (tnc x)) = true := by rw [tnc_eq]; exact pk_fc x
theorem tvGood {w : Cond} (h : w ∈ tvGW) : (w.onTables && w.keeps) = true ∨ ∃ ty, w = .arrayClass ty := good_of_word (List.mem_filter.mp h).2
theorem tvW_nat : Cond.native arraycopyName ∈ tvGW := tvgw (by decide +kernel) (by decide +kernel)
theorem tvW_st : Cond.static arraycopyName ∈ tvGW := tvgw (by decide +kernel) (by decide +kernel)
theorem tvW_in : Cond.initialized "java/lang/System" ∈ tvGW := tvgw (by decide +kernel) (by decide +kernel)
section TVH
variable {E : tvE} {P : tvPh} {k sl d mc ms nL pc pc' : Nat} {M : tvM} {L : List (Option Value)} {st : List Value} {own : String} {cc : ByteArray} {ret : Option FieldType} {tb : List ExceptionTableEntry}
theorem tv_get {a ci idx j : Nat} {v : Value} (C : tvC E own cc nL ret d mc ms tb) (hd : tvD cc pc (.getfield idx) 3 pc') (hF : tvFl own idx ci j) (ha : a < P.1) (hs : tvSh a = (0, ci)) (hv : tvFv E.G.2.1 (M.1 a) (M.2.1 a) (P.2.1 a) (tvTy ci j) j = v) (kk : tv_W E P k sl M pc' L (v :: st)) : tv_W E P k sl M pc L (.ref (E.G.2.1 + a) :: st) := by
  obtain ⟨hd, rfl⟩ := hd
  obtain ⟨hx, hb, hml, hown, hts, hK, -⟩ := C
  obtain ⟨Cn, T, N, hc, hj, hN, hin, hT, hl⟩ := hF
  intro H locs ls hP hS hL
  have he := tvWs_get E.G P M ha
  rw [hs] at he
  have hv' : ((List.range (tvN ci)).map (fun k => tvFv E.G.2.1 (M.1 a) (M.2.1 a) (P.2.1 a) (tvTy ci k) k))[j]? = some v := by rw [tvRow_get _ _ (by rw [hN]; exact hj), hv]
  rcases hl with hl | ⟨host, hl⟩
  · exact va_get hx hb hts hin hown hK.1 hP.1 a he hc j hj (hts _ hl) (fun x h => by rw [← hT]; exact h) hv' hd (kk H locs ls hP hS hL)
  · exact va_getN hx hb hts hin hown hK.1 hP.1 a he hc j hj (va_Nw.use rfl (hK.2.1 _ hl)) (fun x h => by rw [← hT]; exact h) hv' hd (kk H locs ls hP hS hL)
theorem tv_putI {a ci idx j : Nat} {x : Int32} {ty : FieldType} (C : tvC E own cc nL ret d mc ms tb) (hex : tvEx P) (hd : tvD cc pc (.putfield idx) 3 pc') (hF : tvFl own idx ci j) (hW : tvFw ci j) (ha : a < P.1) (hs : tvSh a = (0, ci)) (hty : tvTy ci j = ty) (hi : ∀ z fi fl fr k, tvFv z fi fl fr ty k = .int (fi k)) (hn : narrow ty (.int x) = .int x) (hf : fits ty (.int x) = true) (kk : tv_W E P k sl (tpi M a j x) pc' L st) : tv_W E P k sl M pc L (.int x :: .ref (E.G.2.1 + a) :: st) := by
  obtain ⟨hd, rfl⟩ := hd
  obtain ⟨hx, hb, hml, hown, hts, hK, -⟩ := C
  obtain ⟨Cn, T, N, hc, hj, hN, hin, hT, hl⟩ := hF
  obtain ⟨Cn', T', N', hc', hty0, hnm, hfin⟩ := hW
  cases Option.some.inj (hc.symm.trans hc')
  intro H locs ls hP hS hL
  have he := tvWs_get E.G P M ha
  rw [hs] at he
  have hset : (tvWs E.G P M).set a (E.G.2.1 + a, .inr (ci, ((List.range (tvN ci)).map (fun k => tvFv E.G.2.1 (M.1 a) (M.2.1 a) (P.2.1 a) (tvTy ci k) k)).set j (.int x))) = tvWs E.G P (tpi M a j x) := by
    refine tvWs_set E.G P P.2.1 M (tpi M a j x) ha (fun i hi => ⟨(tvU_ne M.1 j x hi).symm, rfl, rfl, rfl⟩) ?_
    rw [hs]
    show Sum.inr (ci, _) = _
    congr 2
    refine (tvRow_set _ _ _ _ ?_ ?_).symm
    · rw [hty, hi]; simp [tpi, tvU]
    · intro i hij
      simp only [tvFv, tpi]
      split <;> simp_all [tvU]
  rcases hl with hl | ⟨host, hl⟩
  · refine va_put hx hb hts hin (tvTy ci) hty0 hnm hown hK.1 hP.1 (tvWs_D E.G P M hP.2.2.1) hS a he hc j hj (hts _ hl) (fun x h => by rw [← hT]; exact h) hfin (hty0 j hj) (by rw [hty]; exact hn) (by rw [hty]; exact hf) (by rw [tvRow_len, hN]; exact hj) hd (fun H1 locs1 hP1 hD1 hS1 => ?_)
    rw [hset] at hP1
    exact kk H1 locs1 ls ⟨hP1, tvEx_ok hex hP⟩ hS1 hL
  · refine va_putN hx hb hts hin (tvTy ci) hty0 hnm hown hK.1 hP.1 (tvWs_D E.G P M hP.2.2.1) hS a he hc j hj (va_Nw.use rfl (hK.2.1 _ hl)) (fun x h => by rw [← hT]; exact h) hfin (hty0 j hj) (by rw [hty]; exact hn) (by rw [hty]; exact hf) (by rw [tvRow_len, hN]; exact hj) hd (fun H1 locs1 hP1 hD1 hS1 => ?_)
    rw [hset] at hP1
    exact kk H1 locs1 ls ⟨hP1, tvEx_ok hex hP⟩ hS1 hL
theorem tv_putL {a ci idx j : Nat} {x : Int64} (C : tvC E own cc nL ret d mc ms tb) (hex : tvEx P) (hd : tvD cc pc (.putfield idx) 3 pc') (hF : tvFl own idx ci j) (hW : tvFw ci j) (ha : a < P.1) (hs : tvSh a = (0, ci)) (hty : tvTy ci j = .long) (kk : tv_W E P k sl (tpl M a j x) pc' L st) : tv_W E P k sl M pc L (.long x :: .ref (E.G.2.1 + a) :: st) := by
  obtain ⟨hd, rfl⟩ := hd
  obtain ⟨hx, hb, hml, hown, hts, hK, -⟩ := C
  obtain ⟨Cn, T, N, hc, hj, hN, hin, hT, hl⟩ := hF
  obtain ⟨Cn', T', N', hc', hty0, hnm, hfin⟩ := hW
  cases Option.some.inj (hc.symm.trans hc')
  intro H locs ls hP hS hL
  have he := tvWs_get E.G P M ha
  rw [hs] at he
  have hset : (tvWs E.G P M).set a (E.G.2.1 + a, .inr (ci, ((List.range (tvN ci)).map (fun k => tvFv E.G.2.1 (M.1 a) (M.2.1 a) (P.2.1 a) (tvTy ci k) k)).set j (.long x))) = tvWs E.G P (tpl M a j x) := by
    refine tvWs_set E.G P P.2.1 M (tpl M a j x) ha (fun i hi => ⟨rfl, (tvU_ne M.2.1 j x hi).symm, rfl, rfl⟩) ?_
    rw [hs]
    show Sum.inr (ci, _) = _
    congr 2
    refine (tvRow_set _ _ _ _ ?_ ?_).symm
    · rw [hty]; simp [tvFv, tpl, tvU]
    · intro i hij
      simp only [tvFv, tpl]
      split <;> simp_all [tvU]
  rcases hl with hl | ⟨host, hl⟩
  · refine va_put hx hb hts hin (tvTy ci) hty0 hnm hown hK.1 hP.1 (tvWs_D E.G P M hP.2.2.1) hS a he hc j hj (hts _ hl) (fun x h => by rw [← hT]; exact h) hfin (hty0 j hj) (by rw [hty]; rfl) (by rw [hty]; rfl) (by rw [tvRow_len, hN]; exact hj) hd (fun H1 locs1 hP1 hD1 hS1 => ?_)
    rw [hset] at hP1
    exact kk H1 locs1 ls ⟨hP1, tvEx_ok hex hP⟩ hS1 hL
  · refine va_putN hx hb hts hin (tvTy ci) hty0 hnm hown hK.1 hP.1 (tvWs_D E.G P M hP.2.2.1) hS a he hc j hj (va_Nw.use rfl (hK.2.1 _ hl)) (fun x h => by rw [← hT]; exact h) hfin (hty0 j hj) (by rw [hty]; rfl) (by rw [hty]; rfl) (by rw [tvRow_len, hN]; exact hj) hd (fun H1 locs1 hP1 hD1 hS1 => ?_)
    rw [hset] at hP1
    exact kk H1 locs1 ls ⟨hP1, tvEx_ok hex hP⟩ hS1 hL
-- arrays
theorem tv_iaload {a n : Nat} {i : Int32} (C : tvC E own cc nL ret d mc ms tb) (hd : tvD cc pc .iaload 1 pc') (ha : a < P.1) (hs : tvSh a = (1, n)) (hi : vp_in i n) (kk : tv_W E P k sl M pc' L (.int (tgi M a i.toNatClampNeg) :: st)) : tv_W E P k sl M pc L (.int i :: .ref (E.G.2.1 + a) :: st) := by
  obtain ⟨hd, rfl⟩ := hd
  intro H locs ls hP hS hL
  have he := tvWs_get E.G P M ha
  rw [hs] at he
  exact va_iald C.1 C.2.1 C.2.2.2.2.2.1.1 hP.1 a 0 he rfl hi hd (kk H locs ls hP hS hL)
theorem tv_caload {a n : Nat} {i : Int32} (C : tvC E own cc nL ret d mc ms tb) (hd : tvD cc pc .caload 1 pc') (ha : a < P.1) (hs : tvSh a = (2, n)) (hi : vp_in i n) (kk : tv_W E P k sl M pc' L (.int (tnc (tgi M a i.toNatClampNeg)) :: st)) : tv_W E P k sl M pc L (.int i :: .ref (E.G.2.1 + a) :: st) := by
  obtain ⟨hd, rfl⟩ := hd
  intro H locs ls hP hS hL
  have he := tvWs_get E.G P M ha
  rw [hs] at he
  exact va_cald C.1 C.2.1 C.2.2.2.2.2.1.1 hP.1 a 1 he rfl hi hd (kk H locs ls hP hS hL)
theorem tv_aaload {a n b : Nat} {i : Int32} (C : tvC E own cc nL ret d mc ms tb) (hd : tvD cc pc .aaload 1 pc') (ha : a < P.1) (hs : tvSh a = (5, n)) (hi : vp_in i n) (hr : P.2.1 a i.toNatClampNeg = some b) (kk : tv_W E P k sl M pc' L (.ref (E.G.2.1 + b) :: st)) : tv_W E P k sl M pc L (.int i :: .ref (E.G.2.1 + a) :: st) := by
  obtain ⟨hd, rfl⟩ := hd
  intro H locs ls hP hS hL
  have he := tvWs_get E.G P M ha
  rw [hs] at he
  refine va_aldq C.1 C.2.1 C.2.2.2.2.2.1.1 hP.1 a 4 he rfl hi hd ?_
  rw [hr]
  exact kk H locs ls hP hS hL
theorem tv_iastore {a n : Nat} {i x : Int32} (C : tvC E own cc nL ret d mc ms tb) (hex : tvEx P) (hd : tvD cc pc .iastore 1 pc') (ha : a < P.1) (hs : tvSh a = (1, n)) (hi : vp_in i n) (kk : tv_W E P k sl (tpi M a i.toNatClampNeg x) pc' L st) : tv_W E P k sl M pc L (.int x :: .int i :: .ref (E.G.2.1 + a) :: st) := by
  obtain ⟨hd, rfl⟩ := hd
  intro H locs ls hP hS hL
  have he := tvWs_get E.G P M ha
  rw [hs] at he
  refine va_iast C.1 C.2.1 C.2.2.2.2.2.1.1 hP.1 (tvWs_D E.G P M hP.2.2.1) hS a 0 he rfl hi hd (fun H1 locs1 hP1 hD1 hS1 => ?_)
  refine kk H1 locs1 ls ⟨?_, tvEx_ok hex hP⟩ hS1 hL
  rw [tvWs_set E.G P P.2.1 M (tpi M a i.toNatClampNeg x) ha (fun j hj => ⟨(tvU_ne M.1 _ x hj).symm, rfl, rfl, rfl⟩)] at hP1
  · exact hP1
  · rw [hs]
    show Sum.inl (_, n, Sum.inl _) = _
    congr 4
    funext j
    simp [tpi, tvU, upd]
theorem tv_castore {a n : Nat} {i x : Int32} (C : tvC E own cc nL ret d mc ms tb) (hex : tvEx P) (hd : tvD cc pc .castore 1 pc') (ha : a < P.1) (hs : tvSh a = (2, n)) (hi : vp_in i n) (kk : tv_W E P k sl (tpi M a i.toNatClampNeg x) pc' L st) : tv_W E P k sl M pc L (.int x :: .int i :: .ref (E.G.2.1 + a) :: st) := by
  obtain ⟨hd, rfl⟩ := hd
  intro H locs ls hP hS hL
  have he := tvWs_get E.G P M ha
  rw [hs] at he
  refine va_cast C.1 C.2.1 C.2.2.2.2.2.1.1 hP.1 (tvWs_D E.G P M hP.2.2.1) hS a 1 he rfl hi hd (fun H1 locs1 hP1 hD1 hS1 => ?_)
  refine kk H1 locs1 ls ⟨?_, tvEx_ok hex hP⟩ hS1 hL
  rw [tvWs_set E.G P P.2.1 M (tpi M a i.toNatClampNeg x) ha (fun j hj => ⟨(tvU_ne M.1 _ x hj).symm, rfl, rfl, rfl⟩)] at hP1
  · exact hP1
  · rw [hs]
    show Sum.inl (_, n, Sum.inl _) = _
    congr 4
    funext j
    by_cases hj : j = i.toNatClampNeg <;> simp [tpi, tvU, upd, hj]
/-- System.arraycopy of whole rows of numbers -/
theorem tv_copy {a0 a t n idx : Nat} {w : Int32} (C : tvC E own cc nL ret d mc ms tb) (hex : tvEx P) (hd : tvD cc pc (.invokestatic idx) 3 pc') (hl : Cond.methodLink own idx arraycopyName ∈ tvGW) (ha0 : a0 < P.1) (ha : a < P.1) (hne : a0 ≠ a) (hs0 : tvSh a0 = (t, n)) (hs : tvSh a = (t, n)) (ht : t = 1 ∨ t = 2) (hw : w = nI n) (hn : n < 2 ^ 31) (hr : (st.map fun v => v.category).sum ≤ 8) (hdp : 1 ≤ d)
    (kk : tv_W E P k sl (tcp M a0 a n) pc' L st) : tv_W E P k sl M pc L (.int w :: .int 0 :: .ref (E.G.2.1 + a) :: .int 0 :: .ref (E.G.2.1 + a0) :: st) := by
  obtain ⟨hd, rfl⟩ := hd
  obtain ⟨hx, hb, hml, hown, hts, hK, hR, -⟩ := C
  unfold tcp at kk
  subst hw
  intro H locs ls hP hS hL
  have he0 := tvWs_get E.G P M ha0
  have he := tvWs_get E.G P M ha
  rw [hs0] at he0
  rw [hs] at he
  have hcl : (nI n).toNatClampNeg = n := nI_clamp hn
  have hz : (0 : Int32).toNatClampNeg = 0 := rfl
  have hset : ∀ e, tvEnt E.G.2.1 E.G.2.2.2.1 (tvSh a) ((tpr M a (fun i => if i < n then M.1 a0 i else M.1 a i)).1 a) ((tpr M a (fun i => if i < n then M.1 a0 i else M.1 a i)).2.1 a) ((tpr M a (fun i => if i < n then M.1 a0 i else M.1 a i)).2.2 a) (P.2.1 a) = e → (tvWs E.G P M).set a (E.G.2.1 + a, e) = tvWs E.G P (tpr M a (fun i => if i < n then M.1 a0 i else M.1 a i)) :=
    fun e h => tvWs_set E.G P P.2.1 M _ ha (fun j hj => ⟨by simp [tpr, hj], rfl, rfl, rfl⟩) h
  have hlw : (st.map fun v => v.category).sum + (nativeFrameWords "java/lang/System" "arraycopy" 5 + 11) ≤ E.R.locals := by
    rw [hR]
    show _ ≤ 64 * d
    have : nativeFrameWords "java/lang/System" "arraycopy" 5 + 11 ≤ 40 := by decide +kernel
    omega
  have hfr : 1 ≤ E.R.frames := by rw [hR]; exact hdp
  rcases ht with rfl | rfl
  · refine va_copyi hx hb (by rw [hml]; exact (hL.1.trans hml).symm) hown (hts _ hl) (hts _ tvW_nat) (hts _ tvW_st) (hts _ tvW_in) hK.1 hP.1 (tvWs_D E.G P M hP.2.2.1) hS a0 a 0 0 he0 he rfl rfl rfl (by decide) (by decide) (nI_pos hn) (by rw [hcl, hz]; omega) (by rw [hcl, hz]; omega) (fun _ _ => rfl) hfr hlw hd (fun H1 locs1 hP1 hD1 hS1 => ?_)
    rw [hset] at hP1
    · exact kk H1 locs1 ls ⟨hP1, tvEx_ok hex hP⟩ hS1 hL
    · rw [hs]
      show Sum.inl (_, n, Sum.inl _) = _
      congr 4
      funext j
      simp [tpr, va_cpy, hcl, hz]
  · refine va_copyi hx hb (by rw [hml]; exact (hL.1.trans hml).symm) hown (hts _ hl) (hts _ tvW_nat) (hts _ tvW_st) (hts _ tvW_in) hK.1 hP.1 (tvWs_D E.G P M hP.2.2.1) hS a0 a 1 1 he0 he rfl rfl rfl (by decide) (by decide) (nI_pos hn) (by rw [hcl, hz]; omega) (by rw [hcl, hz]; omega) (fun _ _ => tnc_fit _) hfr hlw hd (fun H1 locs1 hP1 hD1 hS1 => ?_)
    rw [hset] at hP1
    · exact kk H1 locs1 ls ⟨hP1, tvEx_ok hex hP⟩ hS1 hL
    · rw [hs]
      show Sum.inl (_, n, Sum.inl _) = _
      congr 4
      funext j
      by_cases hj : j < n <;> simp [tpr, va_cpy, hcl, hz, hj]
end TVH
