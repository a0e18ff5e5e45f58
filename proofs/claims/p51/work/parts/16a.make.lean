/-! ===== making: objects and arrays at the heap's end ===== -/
/-- row n as a new place has it -/
def tvMz (M : tvM) (n : Nat) : tvM := (fun x => if x = n then fun _ => 0 else M.1 x, fun x => if x = n then fun _ => 0 else M.2.1 x, fun x => if x = n then fun _ => 0 else M.2.2 x)
def tvRz (ρ : tvR) (n : Nat) : tvR := fun x => if x = n then fun _ => none else ρ x
def tvRp (ρ : tvR) (a j r : Nat) : tvR := tvU ρ a j (some r)
theorem tvSh_lt {a kd n : Nat} (h : tvSh a = (kd, n)) (hk : kd ≠ 6) : a < 249 := by
  apply Classical.byContradiction
  intro q
  have h1 : tvSh a = (6, 0) := by
    unfold tvSh
    rw [List.getD_eq_getElem?_getD, List.getElem?_eq_none (Nat.le_trans (by decide +kernel : tvShL.length ≤ 249) (Nat.not_lt.mp q))]
    rfl
  rw [h1] at h
  exact hk (Prod.mk.inj h).1.symm
/-- the further cells, when a place is written -/
theorem tvXc_put {G : tvG} {X : va_W} {H H1 : Heap} {a : Nat} (h : tvXc G X H) (ha : a < 249) (e : ∀ q : Nat, q ≠ G.2.1 + a → H1[q]? = H[q]?) : tvXc G X H1 := ⟨h.1.kept fun k q hk => e _ (fun h2 => by have h3 : G.2.1 + 249 ≤ q.1 := (h.2.2 k q hk).1; omega), h.2⟩
/-- a place more -/
theorem tvWs_app (G : tvG) (P : tvPh) (M : tvM) {e : va_E} (he : tvEnt G.2.1 G.2.2.2.1 (tvSh P.1) (fun _ => 0) (fun _ => 0) (fun _ => 0) (fun _ => none) = e) : tvWs G P M ++ [(G.2.1 + P.1, e)] = tvWs G (P.1 + 1, tvRz P.2.1 P.1, P.2.2) (tvMz M P.1) := by
  apply List.ext_getElem?
  intro i
  rcases Nat.lt_trichotomy i P.1 with h | h | h
  · rw [List.getElem?_append_left (by rw [tvWs_len]; exact h), tvWs_get G P M h, tvWs_get G _ _ (show i < P.1 + 1 by omega)]
    have hne : ¬ i = P.1 := by omega
    simp only [tvMz, tvRz, if_neg hne]
  · subst h
    rw [List.getElem?_append_right (by rw [tvWs_len]; exact Nat.le_refl _), tvWs_get G _ _ (show P.1 < P.1 + 1 by omega), tvWs_len, Nat.sub_self, ← he]
    simp [tvMz, tvRz]
  · rw [List.getElem?_eq_none (by rw [List.length_append, tvWs_len]; exact h), List.getElem?_eq_none (by rw [tvWs_len]; exact h)]
def tvNw (own : String) (idx ci : Nat) : Prop := ∃ (C : String) (T : u_T) (N : Nat), tvCl[ci]? = some (C, T, N) ∧ tvN ci = N ∧ (∀ w ∈ u_ws C T N, w ∈ tvGW) ∧ (∀ k, k < N → parseFieldDescriptor (T k).2.2.1 = some (tvTy ci k)) ∧ Cond.classLink own idx C ∈ tvGW ∧ Cond.instantiable C N ∈ tvGW ∧ Cond.initialized C ∈ tvGW ∧ (∀ k, k < N → tvTy ci k ≠ .float ∧ tvTy ci k ≠ .double)
theorem tvFv_dflt (z : Nat) (ty : FieldType) (k : Nat) (h : ty ≠ .float ∧ ty ≠ .double) : defaultValue ty = tvFv z (fun _ => 0) (fun _ => 0) (fun _ => none) ty k := by
  cases ty <;> first | rfl | exact absurd rfl h.1 | exact absurd rfl h.2
/-- what a constructor writes -/
def tvFo (own : String) (idx ci k : Nat) (fin : Bool) : Prop := ∃ (C : String) (T : u_T) (N : Nat), tvCl[ci]? = some (C, T, N) ∧ k < N ∧ tvN ci = N ∧ (∀ w ∈ u_ws C T N, w ∈ tvGW) ∧ (T k).1 = C ∧ C = own ∧ Cond.fieldLink own idx C (T k).2.1 (T k).2.2.1 ∈ tvGW ∧ (∀ k, k < N → parseFieldDescriptor (T k).2.2.1 = some (tvTy ci k)) ∧ (∀ a, a < N → ∀ b, b < N → a ≠ b → (T a).2.1 ≠ (T b).2.1) ∧ (T k).2.2.2 = fin
section TVK
variable {E : tvE} {P : tvPh} {k sl d mc ms nL pc pc' : Nat} {M : tvM} {L : List (Option Value)} {st : List Value} {own : String} {cc : ByteArray} {ret : Option FieldType} {tb : List ExceptionTableEntry}
theorem tv_new {idx ci : Nat} (C : tvC E own cc nL ret d mc ms tb) (hex : tvIn P) (hd : tvD cc pc (.new idx) 3 pc') (hN : tvNw own idx ci) (hs : tvSh P.1 = (0, ci)) (hk : k + 1 ≤ mc) (hsl : sl + tvN ci ≤ ms) (kk : tv_W E (P.1 + 1, tvRz P.2.1 P.1, P.2.2) (k + 1) (sl + tvN ci) (tvMz M P.1) pc' L (.ref (E.G.2.1 + P.1) :: st)) : tv_W E P k sl M pc L st := by
  obtain ⟨hd, rfl⟩ := hd
  obtain ⟨hx, hb, hml, hown, hts, hK, hRm, -⟩ := C
  obtain ⟨Cn, T, N, hc, hN1, hin, hty, w1, w2, w3, hnf⟩ := hN
  subst hN1
  intro H locs ls hP hS hL
  have hKn := hK.1.1 ci _ hc
  have hz : H.size = E.G.2.1 + P.1 := hP.2.1 hex.1
  refine W.newcK hx hb hown (hts _ w1) (hts _ w2) (hts _ w3) rfl hd (by rw [hRm]; exact hk) (by rw [hRm]; exact hsl) hKn.2.1 hz fun H1 kC hkC e1 z1 o1 => ?_
  have hkp : ∀ (i : Nat) (x : Nat × va_E), (tvWs E.G P M)[i]? = some x → H1[x.1]? = H[x.1]? := fun i x hx9 => o1 x.1 (by rw [← hz]; exact (hP.1 i x hx9).lt)
  have hP1 : va_P E.G.2.2.1 tvCl (tvWs E.G P M ++ [(E.G.2.1 + P.1, .inr (ci, (List.range (tvN ci)).map (fun k => tvFv E.G.2.1 (fun _ => 0) (fun _ => 0) (fun _ => none) (tvTy ci k) k)))]) H1 := by
    refine (hP.1.kept hkp).app (fun i x hx9 => ?_)
    have hi : i < 1 := (List.getElem?_eq_some_iff.mp hx9).1
    rw [show i = 0 by omega] at hx9
    cases hx9
    refine ⟨_, hc, (u_born (tvTy ci) hts hin hKn hkC e1 hty).to (fun j hj => ?_)⟩
    rw [tvFv_dflt E.G.2.1 _ j (hnf j hj)]
    show _ = List.getD _ _ _
    rw [List.getD_eq_getElem?_getD, tvRow_get _ _ hj]
    rfl
  rw [tvWs_app E.G P M (by rw [hs]; rfl)] at hP1
  exact kk H1 locs ls ⟨hP1, fun _ => by rw [z1]; rfl, tvSh_lt hs (by decide), by show tvXc E.G P.2.2.2 H1; rw [hex.2]; exact tvXc_nil _ _⟩ ⟨Nat.le_trans hS.1 (by omega), fun x h1 h2 => (o1 x (by rw [← hz]; exact Nat.lt_of_lt_of_le h1 hS.1)).trans (hS.2.1 x h1 h2), hS.2.2⟩ hL
/-- a field of the object under way, the heap's size kept -/
theorem tv_putG {a ci idx j : Nat} {v : Value} {ρ' : tvR} {M' : tvM} {fin : Bool} (C : tvC E own cc nL ret d mc ms tb) (hI : E.meth.name = "<init>") (hd : tvD cc pc (.putfield idx) 3 pc') (hF : tvFo own idx ci j fin) (ha : a < P.1) (hs : tvSh a = (0, ci)) (hn : narrow (tvTy ci j) v = v) (hf : fits (tvTy ci j) v = true)
    (hoff : ∀ i, i ≠ a → M.1 i = M'.1 i ∧ M.2.1 i = M'.2.1 i ∧ M.2.2 i = M'.2.2 i ∧ P.2.1 i = ρ' i) (hv : tvFv E.G.2.1 (M'.1 a) (M'.2.1 a) (ρ' a) (tvTy ci j) j = v) (ho : ∀ i, i ≠ j → tvFv E.G.2.1 (M.1 a) (M.2.1 a) (P.2.1 a) (tvTy ci i) i = tvFv E.G.2.1 (M'.1 a) (M'.2.1 a) (ρ' a) (tvTy ci i) i)
    (kk : tv_W E (P.1, ρ', P.2.2) k sl M' pc' L st) : tv_W E P k sl M pc L (v :: .ref (E.G.2.1 + a) :: st) := by
  obtain ⟨hd, rfl⟩ := hd
  obtain ⟨hx, hb, hml, hown, hts, hK, -⟩ := C
  obtain ⟨Cn, T, N, hc, hj, hN1, hin, hT, hCo, hl, hty, hnm, hfin⟩ := hF
  subst hN1
  intro H locs ls hP hS hL
  have he := tvWs_get E.G P M ha
  rw [hs] at he
  have hset : (tvWs E.G P M).set a (E.G.2.1 + a, .inr (ci, ((List.range (tvN ci)).map (fun k => tvFv E.G.2.1 (M.1 a) (M.2.1 a) (P.2.1 a) (tvTy ci k) k)).set j v)) = tvWs E.G (P.1, ρ', P.2.2) M' := by
    refine tvWs_set E.G P ρ' M M' ha hoff ?_
    rw [hs]
    show Sum.inr (ci, _) = _
    congr 2
    exact (tvRow_set (tvN ci) _ (fun i => tvFv E.G.2.1 (M'.1 a) (M'.2.1 a) (ρ' a) (tvTy ci i) i) v hv ho).symm
  have hap := va_apart (own := own) hts hin (tvTy ci) hty hnm hK.1 hc
  obtain ⟨r, h1, cell, q1, q2, q3, q4⟩ := hP.1 a _ he
  have hr : r = (Cn, T, tvN ci) := Option.some.inj (h1.symm.trans hc)
  subst hr
  obtain ⟨hSl, hfc, kC, hkC, hkind⟩ := hK.1.1 ci _ hc
  obtain ⟨cf, kf, fi, f, hi, hsl⟩ := hSl j hj
  have hlay := hts _ (hin _ (u_in_lay hj))
  have hst := (u_facts hfc hkC (u_lays hts hin hj) hi).1
  have hi' : E.s.fieldFound? Cn (T j).2.1 (T j).2.2.1 = some (cf, kf, fi, f) := by rw [← hT]; exact hi
  have last : ∀ H' : Heap, H'[E.G.2.1 + a]? = some (cell.setSlot f.slot v) → H'.size = H.size → (∀ q, q ≠ E.G.2.1 + a → H'[q]? = H[q]?) → tvw E H' (locs ++ [⟨E.G.2.1 + a, f.slot⟩]) k sl (F0 E.m (pc + 3) ls st) := fun H' e1 e2 e3 => by
    rw [hsl] at e1 ⊢
    have hD := tvWs_D E.G P M hP.2.2.1
    have hP1 : va_P E.G.2.2.1 tvCl ((tvWs E.G P M).set a (E.G.2.1 + a, .inr (ci, ((List.range (tvN ci)).map (fun k => tvFv E.G.2.1 (M.1 a) (M.2.1 a) (P.2.1 a) (tvTy ci k) k)).set j v))) H' := hP.1.set hD he ⟨_, hc, t_OB.to (V := updV (vp_V ((List.range (tvN ci)).map (fun k => tvFv E.G.2.1 (M.1 a) (M.2.1 a) (P.2.1 a) (tvTy ci k) k))) j v) ⟨_, e1, q2, q3, t_set q4 hap hj v⟩ (fun i _ => vp_updV_set (by rw [tvRow_len]; exact hj) v i)⟩ e3
    rw [hset] at hP1
    exact kk H' _ ls ⟨hP1, fun h => by rw [e2]; exact hP.2.1 h, hP.2.2.1, tvXc_put hP.2.2.2 (Nat.lt_of_lt_of_le ha hP.2.2.1) e3⟩ (hS.put e2 e3 (hD.2 a _ he)) hL
  unfold u_lay at hlay
  cases fin with
  | false =>
    rw [if_neg (by rw [hfin]; decide)] at hlay
    have h6 := u_store hfc hkC hkind hlay hi (hty j hj) hn hf
    exact W.putK hx hb (f := f) ⟨hown, hts _ hl, ⟨_, _, _, hi'⟩, hst⟩ (by rw [q2]; exact h6) q1 q3 (by rw [hsl]; exact k2_hasslot (q4 j hj)) rfl rfl hd last
  | true =>
    rw [if_pos hfin] at hlay
    have hcf : E.m.cls = cf := by
      obtain ⟨_, _, c', _, _, _, -, -, hf', -, -, -, hown2, -⟩ := Cond.laysFinal_spec hlay
      have e1 : c' = cf := by
        have h9 := hi.symm.trans hf'
        simp at h9
        exact h9.1.symm
      rw [hT, hCo] at hown2
      rw [← e1]
      exact Option.some.inj (hown.symm.trans hown2)
    have h6 := u_fits hfc hkC hkind (Or.inr hlay) hi (hty j hj) hn hf
    exact W.putFinK hx hb hown (hts _ hl) hi' hst hcf hI (by rw [q2]; exact h6) q1 q3 (by rw [hsl]; exact k2_hasslot (q4 j hj)) rfl rfl hd last
theorem tv_mkR {a ci idx j r : Nat} {fin : Bool} (C : tvC E own cc nL ret d mc ms tb) (hI : E.meth.name = "<init>") (hd : tvD cc pc (.putfield idx) 3 pc') (hF : tvFo own idx ci j fin) (ha : a < P.1) (hs : tvSh a = (0, ci)) (hty : (∃ c, tvTy ci j = .object c) ∨ ∃ t, tvTy ci j = .array t) (kk : tv_W E (P.1, tvRp P.2.1 a j r, P.2.2) k sl M pc' L st) : tv_W E P k sl M pc L (.ref (E.G.2.1 + r) :: .ref (E.G.2.1 + a) :: st) := by
  refine tv_putG (ρ' := tvRp P.2.1 a j r) (M' := M) C hI hd hF ha hs ?_ ?_ (fun i hi => ⟨rfl, rfl, rfl, ?_⟩) ?_ (fun i hi => ?_) kk
  · rcases hty with ⟨c, h⟩ | ⟨t, h⟩ <;> rw [h] <;> rfl
  · rcases hty with ⟨c, h⟩ | ⟨t, h⟩ <;> rw [h] <;> rfl
  · exact (tvU_ne _ _ _ hi).symm
  · have h9 : tvRp P.2.1 a j r a j = some r := by simp [tvRp, tvU]
    rcases hty with ⟨c, h⟩ | ⟨t, h⟩ <;> rw [h] <;> simp only [tvFv, h9] <;> rfl
  · have h9 : tvRp P.2.1 a j r a i = P.2.1 a i := by simp [tvRp, tvU, hi]
    cases h : tvTy ci i <;> simp only [tvFv, h9]
theorem tv_mkI {a ci idx j : Nat} {x : Int32} {fin : Bool} (C : tvC E own cc nL ret d mc ms tb) (hI : E.meth.name = "<init>") (hd : tvD cc pc (.putfield idx) 3 pc') (hF : tvFo own idx ci j fin) (ha : a < P.1) (hs : tvSh a = (0, ci)) (hi9 : ∀ z fi fl fr k, tvFv z fi fl fr (tvTy ci j) k = .int (fi k)) (hn : narrow (tvTy ci j) (.int x) = .int x) (hf : fits (tvTy ci j) (.int x) = true) (kk : tv_W E P k sl (tpi M a j x) pc' L st) : tv_W E P k sl M pc L (.int x :: .ref (E.G.2.1 + a) :: st) := by
  refine tv_putG (ρ' := P.2.1) (M' := tpi M a j x) C hI hd hF ha hs hn hf (fun i hi => ⟨(tvU_ne M.1 j x hi).symm, rfl, rfl, rfl⟩) ?_ (fun i hi => ?_) kk
  · rw [hi9]
    simp [tpi, tvU]
  · have h9 : (tpi M a j x).1 a i = M.1 a i := by simp [tpi, tvU, hi]
    cases h : tvTy ci i <;> simp only [tvFv, h9] <;> rfl
end TVK
section TVM
variable {E : tvE} {P P1 : tvPh} {k sl d mc ms nL pc pc' : Nat} {M M1 : tvM} {L : List (Option Value)} {st : List Value} {own : String} {cc : ByteArray} {ret : Option FieldType} {tb : List ExceptionTableEntry}
theorem tv_newarr {aty : ArrayType} {ty : FieldType} {kd N t0 : Nat} {n : Int32} {a0 : vp_A} (C : tvC E own cc nL ret d mc ms tb) (hex : tvIn P) (hd : tvD cc pc (.newarray aty) 2 pc') (hA : Cond.arrayClass (newarray.typeOf aty) ∈ tvGW) (hty : newarray.typeOf aty = ty) (ht0 : (tvTys E.G)[t0]? = some (E.G.2.2.2.1 t0, ty)) (hr : ∀ U c, va_RA U c ty → U.vm.findClass ("[" ++ ty.toString) = some c) (hs : tvSh P.1 = (kd, N)) (he : ∀ z cA, tvEnt z cA (kd, N) (fun _ => 0) (fun _ => 0) (fun _ => 0) (fun _ => none) = .inl (cA t0, a0)) (ha0 : ∀ c : ClassId, vp_cell c a0 = arrV c N (fun _ => defaultValue ty)) (hn0 : ¬ n < 0) (hnN : n.toNatClampNeg = N) (hby : N * componentBytes ty ≤ 536870912) (hkd : kd ≠ 6) (hk : k + 1 ≤ mc) (hsl : sl + N ≤ ms)
    (kk : tv_W E (P.1 + 1, tvRz P.2.1 P.1, P.2.2) (k + 1) (sl + N) (tvMz M P.1) pc' L (.ref (E.G.2.1 + P.1) :: st)) : tv_W E P k sl M pc L (.int n :: st) := by
  subst hty
  obtain ⟨hd, rfl⟩ := hd
  obtain ⟨hx, hb, hml, hown, hts, hK, hRm, -⟩ := C
  intro H locs ls hP hS hL
  have hz : H.size = E.G.2.1 + P.1 := hP.2.1 hex.1
  refine va_newaK hx hb (hts _ hA) rfl hd rfl hn0 hnN hby (by rw [hRm]; exact hk) (by rw [hRm]; exact hsl) hz fun H1 cA e1 z1 o1 hAr hNm => ?_
  have hcA : cA = E.G.2.2.2.1 t0 := Option.some.inj (hNm.symm.trans (hr _ _ (hK.1.2 t0 _ ht0).2))
  subst hcA
  have hkp : ∀ (i : Nat) (x : Nat × va_E), (tvWs E.G P M)[i]? = some x → H1[x.1]? = H[x.1]? := fun i x hx9 => o1 x.1 (by rw [← hz]; exact (hP.1 i x hx9).lt)
  have hP1 : va_P E.G.2.2.1 tvCl (tvWs E.G P M ++ [(E.G.2.1 + P.1, .inl (E.G.2.2.2.1 t0, a0))]) H1 := by
    refine (hP.1.kept hkp).app (fun i x hx9 => ?_)
    have hi : i < 1 := (List.getElem?_eq_some_iff.mp hx9).1
    rw [show i = 0 by omega] at hx9
    cases hx9
    show H1[E.G.2.1 + P.1]? = some (vp_cell _ _)
    rw [ha0]
    exact e1
  rw [tvWs_app E.G P M (by rw [hs]; exact he _ _)] at hP1
  exact kk H1 locs ls ⟨hP1, fun _ => by rw [z1]; rfl, tvSh_lt hs hkd, by show tvXc E.G P.2.2.2 H1; rw [hex.2]; exact tvXc_nil _ _⟩ ⟨Nat.le_trans hS.1 (by omega), fun x h1 h2 => (o1 x (by rw [← hz]; exact Nat.lt_of_lt_of_le h1 hS.1)).trans (hS.2.1 x h1 h2), hS.2.2⟩ hL
/-- a constructor's call -/
theorem tv_callI {v idx n' ar d' mc' ms' : Nat} {y : MethodName} {cc' : ByteArray} {As st0 : List Value} (C : tvC E own cc nL ret d mc ms tb) (hd : tvD cc pc (.invokespecial idx) 3 pc') (hl : Cond.methodLink own idx y ∈ tvGW) (hY : tvYk y cc' n' none ar) (hy : y.name = "<init>") (hI : Cond.instanceMethod y ∈ tvGW) (hR : tvRun E.G y cc' n' none d' mc' ms' P P1 (.ref v :: As) M (.inl none) M1) (hst : st0 = As.reverse ++ .ref v :: st) (hn : As.length = ar) (hcat : (st.map fun v => v.category).sum ≤ 8) (hdd : d' + 1 ≤ d) (hnn : n' ≤ 45) (hkk : k + mc' ≤ mc) (hss : sl + ms' ≤ ms)
    (kk : tv_W E P1 (k + mc') (sl + ms') M1 pc' L st) : tv_W E P k sl M pc L st0 := by
  obtain ⟨hd, rfl⟩ := hd
  obtain ⟨hx, hb1, hml, hown, hts, hK, hRm, hlk, hrt, htb⟩ := C
  obtain ⟨y1, y2, y3, y4, y5⟩ := hY
  intro H locs ls hP hS hL
  have hcb : CallB E.R E.s E.args own idx y cc' n' none (tvWd y cc' n' none) (tvRm d' mc' ms') mc' ms' ar := by
    refine callB_of ar hts (tvWd_good y1) rfl rfl rfl (hts _ y2) (hts _ hl) ⟨y3.1, y3.2, y4⟩ ⟨?_, ?_⟩
    · rw [hRm]; exact hdd
    · rw [hRm]; show 8 + (n' + 11) + 64 * d' ≤ 64 * d; omega
  exact tv_after (vx_runI ⟨hx, hb1, hml, hown, hts⟩ hR ⟨hcb, hy, hts _ hI⟩ ⟨tvPre_blind, fun U hU hW => ⟨rfl, by rw [hU]; exact hP, hK.go hS hU hW⟩⟩ rfl hn (hL.1.trans hml) hst (lv_room hcat) hd ⟨by rw [hRm]; exact hkk, by rw [hRm]; exact hss⟩) hS hL (fun v h => by cases h; exact kk) (fun e h => by cases h)
theorem tv_callIN {v idx n' ar d' mc' ms' : Nat} {host : String} {y : MethodName} {cc' : ByteArray} {As st0 : List Value} (C : tvC E own cc nL ret d mc ms tb) (hd : tvD cc pc (.invokespecial idx) 3 pc') (hl : Cond.methodLinkNest own idx y host ∈ tvNest) (hY : tvYk y cc' n' none ar) (hy : y.name = "<init>") (hI : Cond.instanceMethod y ∈ tvGW) (hR : tvRun E.G y cc' n' none d' mc' ms' P P1 (.ref v :: As) M (.inl none) M1) (hst : st0 = As.reverse ++ .ref v :: st) (hn : As.length = ar) (hcat : (st.map fun v => v.category).sum ≤ 8) (hdd : d' + 1 ≤ d) (hnn : n' ≤ 45) (hkk : k + mc' ≤ mc) (hss : sl + ms' ≤ ms)
    (kk : tv_W E P1 (k + mc') (sl + ms') M1 pc' L st) : tv_W E P k sl M pc L st0 := by
  obtain ⟨hd, rfl⟩ := hd
  obtain ⟨hx, hb1, hml, hown, hts, hK, hRm, hlk, hrt, htb⟩ := C
  obtain ⟨y1, y2, y3, y4, y5⟩ := hY
  intro H locs ls hP hS hL
  have hcb : va_CN E.R E.s E.args own idx y host cc' n' none (tvWd y cc' n' none) (tvRm d' mc' ms') mc' ms' ar := by
    refine va_cnB ar hts (tvWd_good y1) rfl rfl rfl (hK.2.1 _ hl) (hts _ y2) ⟨y3.1, y3.2, y4⟩ ⟨?_, ?_⟩
    · rw [hRm]; exact hdd
    · rw [hRm]; show 8 + (n' + 11) + 64 * d' ≤ 64 * d; omega
  exact tv_after (vx_runIN ⟨hx, hb1, hml, hown, hts⟩ hR ⟨hcb, hy, hts _ hI⟩ ⟨tvPre_blind, fun U hU hW => ⟨rfl, by rw [hU]; exact hP, hK.go hS hU hW⟩⟩ rfl hn (hL.1.trans hml) hst (lv_room hcat) hd ⟨by rw [hRm]; exact hkk, by rw [hRm]; exact hss⟩) hS hL (fun v h => by cases h; exact kk) (fun e h => by cases h)
end TVM
/-- a constructor's body -/
theorem tvRun.ofI {G : tvG} {y : MethodName} {cc : ByteArray} {n : Nat} {ret : Option FieldType} {d mc ms ar : Nat} {P P1 : tvPh} {args : List Value} {M M1 : tvM} {o : tvO} {own : String} (hY : tvYk y cc n ret ar) (hown : y.cls = own) (L0 : List (Option Value)) (hL : tvEl 0 L0 = lv_args 0 args) (hln : (lg_sl args).length ≤ n)
    (body : ∀ E : tvE, E.G = G → tvC E own cc n ret d mc ms [] → E.meth.name = y.name → tvEnd E P1 M1 o mc ms → tv_W E P 0 0 M 0 L0 []) : tvRun G y cc n ret d mc ms P P1 args M o M1 := by
  subst hown
  refine tv_ofW (cc := cc) (maxL := n) (ret := ret) hY.2.2.2.2 rfl ?_
  intro p e s m args' below meth c s₁ B hml htb hv
  obtain ⟨rfl, hP, hK⟩ := hv
  have hts := atoms_spec (ws := tvWd y cc n ret) B.pre
  have hown : s.vm.findClass y.cls = some m.cls := findClass_of_methodNamed B.named
  have htb' : c.exceptionTable.toList = [] := by
    cases h : c.exceptionTable.toList with
    | nil => rfl
    | cons x r => exact (htb x (by rw [h]; exact List.mem_cons_self)).elim
  have key := body ((p, e, tvRm d mc ms, s, m, args.toArray, below, meth, c), G, vx_MQ below (tvQc G P1 M1 o) (tvXC G P1 M1 o) args.toArray s mc ms (tvA G)) rfl
    ⟨B.exec, B.bytes, hml, hown, fun w hw => hts w (List.mem_cons_of_mem _ hw), hK, rfl, B.notSynchronized, B.returns, htb'⟩ (name_of_methodNamed B.named B.method).1 rfl
  have hl := lv_entry args (n := n) hln
  rw [lg_entry_eq]
  refine key s.heap [] _ hP va_S.rf ?_
  show lv_has _ c.maxLocals (tvEl 0 L0)
  rw [hL, hml]
  exact hl
/-- Object's constructor -/
theorem tvObj_i : Cond.instanceMethod Lib.objectInit ∈ tvGW := tvgc (tvc_1 (List.mem_of_getElem? (i := 69) (by decide +kernel))) rfl
theorem tvObj_c : Cond.code Lib.objectInit ⟨#[0xb1]⟩ 1 none ∈ tvGW := tvgc (tvc_1 (List.mem_of_getElem? (i := 70) (by decide +kernel))) rfl
section TVO
variable {E : tvE} {P : tvPh} {k sl d mc ms nL pc pc' : Nat} {M : tvM} {L : List (Option Value)} {st : List Value} {own : String} {cc : ByteArray} {ret : Option FieldType} {tb : List ExceptionTableEntry}
theorem tv_obj {idx a : Nat} (C : tvC E own cc nL ret d mc ms tb) (hd : tvD cc pc (.invokespecial idx) 3 pc') (hl : Cond.methodLink own idx Lib.objectInit ∈ tvGW) (hr : (st.map fun v => v.category).sum ≤ 8) (hdd : 1 ≤ d) (kk : tv_W E P k sl M pc' L st) : tv_W E P k sl M pc L (.ref a :: st) := by
  obtain ⟨hd, rfl⟩ := hd
  obtain ⟨hx, hb, hml, hown, hts, hK, hRm, -⟩ := C
  intro H locs ls hP hS hL
  refine W.objInit hx hb hown (hts _ hl) (hts _ tvObj_i) (hts _ tvObj_c) rfl hL.1 rfl hd (by rw [hRm]; exact hdd) (Nat.le_trans (Nat.add_le_add_right (lv_room hr) 12) (by rw [hRm]; show 8 + 12 ≤ 64 * d; omega)) ?_
  exact kk H locs ls hP hS hL
end TVO
