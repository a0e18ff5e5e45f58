section TVQ
variable {E : tvE} {P : tvPh} {k sl d mc ms nL pc pc' : Nat} {M : tvM} {L : List (Option Value)} {st : List Value} {own : String} {cc : ByteArray} {ret : Option FieldType} {tb : List ExceptionTableEntry}
/-- an array of States -/
theorem tv_anew {idx N : Nat} {n : Int32} (C : tvC E own cc nL ret d mc ms tb) (hex : tvIn P) (hd : tvD cc pc (.anewarray idx) 3 pc') (hA : Cond.classLink own idx RX6 ∈ tvGW) (hs : tvSh P.1 = (5, N)) (hn0 : ¬ n < 0) (hnN : n.toNatClampNeg = N) (hby : N * 4 ≤ 536870912) (hk : k + 1 ≤ mc) (hsl : sl + N ≤ ms)
    (kk : tv_W E (P.1 + 1, tvRz P.2.1 P.1, P.2.2) (k + 1) (sl + N) (tvMz M P.1) pc' L (.ref (E.G.2.1 + P.1) :: st)) : tv_W E P k sl M pc L (.int n :: st) := by
  obtain ⟨hd, rfl⟩ := hd
  obtain ⟨hx, hb, hml, hown, hts, hK, hRm, -⟩ := C
  intro H locs ls hP hS hL
  have hz : H.size = E.G.2.1 + P.1 := hP.2.1 hex.1
  have hAO : va_AO RX6 E.s := hK.2.2.2.2.2.2.2.2.2.2.1
  subst hnN
  refine W.anew hx hb hown (hts _ hA) (va_AO.use hAO) rfl hd rfl hn0 hby (by rw [hRm]; exact hk) (by rw [hRm]; exact hsl) fun cA kA comp f1 f2 f3 f4 => ?_
  have hcA : cA = E.G.2.2.2.1 4 := by
    obtain ⟨k1, c1, -, -, -, h4⟩ := (hK.1.2 4 _ rfl).2
    exact Option.some.inj (f1.symm.trans h4)
  subst hcA
  generalize hH1 : H.push ({ cls := E.G.2.2.2.1 4, slots := Array.replicate n.toNatClampNeg .null, vm := .none } : Cell) = H1
  have z1 : H1.size = H.size + 1 := by rw [← hH1, Array.size_push]
  have e1 : H1[H.size]? = some (arrV (E.G.2.2.2.1 4) n.toNatClampNeg (fun _ => .null)) := by rw [← hH1, Array.getElem?_push_size, ← arrV_new]
  have o1 : ∀ q : Nat, q < H.size → H1[q]? = H[q]? := fun q hq => by rw [← hH1, Array.getElem?_push, if_neg (Nat.ne_of_lt hq)]
  have hkp : ∀ (i : Nat) (x : Nat × va_E), (tvWs E.G P M)[i]? = some x → H1[x.1]? = H[x.1]? := fun i x hx9 => o1 x.1 ((hP.1 i x hx9).lt)
  have hP1 : va_P E.G.2.2.1 tvCl (tvWs E.G P M ++ [(E.G.2.1 + P.1, .inl (E.G.2.2.2.1 4, n.toNatClampNeg, .inr (.inr (.inr (.inr (fun _ => none))))))]) H1 := by
    refine (hP.1.kept hkp).app (fun i x hx9 => ?_)
    have hi : i < 1 := (List.getElem?_eq_some_iff.mp hx9).1
    rw [show i = 0 by omega] at hx9
    cases hx9
    show H1[E.G.2.1 + P.1]? = some (vp_cell _ _)
    rw [← hz]
    exact e1
  rw [tvWs_app E.G P M (by rw [hs]; rfl)] at hP1
  have := kk H1 locs ls ⟨hP1, fun _ => by rw [z1, hz]; rfl, tvSh_lt hs (by decide), by show tvXc E.G P.2.2.2 H1; rw [hex.2]; exact tvXc_nil _ _⟩ ⟨Nat.le_trans hS.1 (by omega), fun x h1 h2 => (o1 x (Nat.lt_of_lt_of_le h1 hS.1)).trans (hS.2.1 x h1 h2), hS.2.2⟩ hL
  rw [hz]
  exact this
/-- a State into the array -/
theorem tv_ast {a b j n : Nat} {i : Int32} (C : tvC E own cc nL ret d mc ms tb) (hd : tvD cc pc .aastore 1 pc') (ha : a < P.1) (hs : tvSh a = (5, n)) (hb9 : b < P.1) (hsb : tvSh b = (0, 6)) (hi : vp_in i n) (hj : i.toNatClampNeg = j)
    (kk : tv_W E (P.1, tvRp P.2.1 a j b, P.2.2) k sl M pc' L st) : tv_W E P k sl M pc L (.ref (E.G.2.1 + b) :: .int i :: .ref (E.G.2.1 + a) :: st) := by
  subst hj
  obtain ⟨hd, rfl⟩ := hd
  obtain ⟨hx, hb, hml, hown, hts, hK, hRm, -⟩ := C
  intro H locs ls hP hS hL
  have he := tvWs_get E.G P M ha
  have hv := tvWs_get E.G P M hb9
  rw [hs] at he
  rw [hsb] at hv
  have hlt : i.toNatClampNeg < n := Nat.not_le.mp fun q => hi (Or.inr q)
  have h0 : ¬ i < 0 := fun q => hi (Or.inl q)
  have hset : (tvWs E.G P M).set a (E.G.2.1 + a, .inl (E.G.2.2.2.1 4, n, .inr (.inr (.inr (.inr (va_up (fun k => (P.2.1 a k).map (fun q => E.G.2.1 + q)) i.toNatClampNeg (some (E.G.2.1 + b)))))))) = tvWs E.G (P.1, tvRp P.2.1 a i.toNatClampNeg b, P.2.2) M := by
    refine tvWs_set E.G P _ M M ha (fun x hx9 => ⟨rfl, rfl, rfl, (tvU_ne _ _ _ hx9).symm⟩) ?_
    rw [hs]
    show Sum.inl (_, n, _) = _
    congr 7
    funext q
    by_cases hq : q = i.toNatClampNeg
    · subst hq
      simp [tvRp, tvU, va_up]
    · simp [tvRp, tvU, va_up, hq]
  obtain ⟨r', hr', cellV, g1, g2, g3, -⟩ := hP.1 b _ hv
  have hcls := (hK.1.1 6 _ rfl).2
  obtain ⟨kA, comp, k1, k2, k3, -⟩ := (hK.1.2 4 _ rfl).2
  have hcomp : comp = E.G.2.2.1.1 6 := Option.some.inj (k3.symm.trans hcls.1)
  subst hcomp
  obtain ⟨kC, hkC, -⟩ := hcls.2
  refine W.aast hx hb (hP.1 a _ he) (fun q h => by cases h) (fun h => by cases h) k1 k2 rfl hkC ⟨h0, by show _ < (arrV _ _ _).slots.size; rw [arrV_size]; exact hlt⟩ g1 (fun q h => by rw [g3] at h; cases h) (by rw [g2]; exact hkC) (by rw [g2]; exact va_assign hcls) rfl rfl hd fun H1 e z oq => ?_
  have hD := tvWs_D E.G P M hP.2.2.1
  have hP1 : va_P E.G.2.2.1 tvCl ((tvWs E.G P M).set a (E.G.2.1 + a, .inl (E.G.2.2.2.1 4, n, .inr (.inr (.inr (.inr (va_up (fun k => (P.2.1 a k).map (fun q => E.G.2.1 + q)) i.toNatClampNeg (some (E.G.2.1 + b))))))))) H1 := by
    refine hP.1.set hD he ?_ oq
    show H1[E.G.2.1 + a]? = some (vp_cell _ _)
    rw [e]
    show some ((vp_cell _ _).setSlot _ _) = _
    rw [vp_cell_q, vp_cell_q, arrV_store]
    congr 2
    funext q
    by_cases hq : q = i.toNatClampNeg
    · subst hq
      simp [updV, va_up, va_rf]
    · simp [updV, va_up, hq]
  rw [hset] at hP1
  exact kk H1 _ ls ⟨hP1, fun h => by rw [z]; exact hP.2.1 h, hP.2.2.1, tvXc_put hP.2.2.2 (Nat.lt_of_lt_of_le ha hP.2.2.1) oq⟩ (hS.put z oq (hD.2 a _ he)) hL
end TVQ
section TVS
variable {E : tvE} {P : tvPh} {k sl d mc ms nL pc pc' : Nat} {M : tvM} {L : List (Option Value)} {st : List Value} {own : String} {cc : ByteArray} {ret : Option FieldType} {tb : List ExceptionTableEntry}
/-- an int into an array, the heap's size kept -/
theorem tv_iastE {a n j : Nat} {i x : Int32} (hj : i.toNatClampNeg = j) (C : tvC E own cc nL ret d mc ms tb) (hd : tvD cc pc .iastore 1 pc') (ha : a < P.1) (hs : tvSh a = (1, n)) (hi : vp_in i n) (kk : tv_W E P k sl (tpi M a j x) pc' L st) : tv_W E P k sl M pc L (.int x :: .int i :: .ref (E.G.2.1 + a) :: st) := by
  subst hj
  obtain ⟨hd, rfl⟩ := hd
  obtain ⟨hx, hb, hml, hown, hts, hK, -⟩ := C
  intro H locs ls hP hS hL
  have he := tvWs_get E.G P M ha
  rw [hs] at he
  have hset : (tvWs E.G P M).set a (E.G.2.1 + a, .inl (E.G.2.2.2.1 0, n, .inl (upd (M.1 a) i.toNatClampNeg x))) = tvWs E.G P (tpi M a i.toNatClampNeg x) := by
    refine tvWs_set E.G P P.2.1 M (tpi M a i.toNatClampNeg x) ha (fun j hj => ⟨(tvU_ne M.1 _ x hj).symm, rfl, rfl, rfl⟩) ?_
    rw [hs]
    show Sum.inl (_, n, Sum.inl _) = _
    congr 4
    funext j
    simp [tpi, tvU, upd]
  refine W.iast hx hb (hP.1 a _ he) ((hK.1.2 0 _ rfl).1 n (fun j => .int (M.1 a j))) (fun q => by cases q) (by show ¬ (i < 0 ∨ (arrV _ _ _).slots.size ≤ _); rw [arrV_size]; exact hi) rfl rfl hd fun H1 e z oq => ?_
  have hD := tvWs_D E.G P M hP.2.2.1
  have hP1 : va_P E.G.2.2.1 tvCl ((tvWs E.G P M).set a (E.G.2.1 + a, .inl (E.G.2.2.2.1 0, n, .inl (upd (M.1 a) i.toNatClampNeg x)))) H1 := by
    refine hP.1.set hD he ?_ oq
    show H1[E.G.2.1 + a]? = some (vp_cell _ _)
    rw [e]
    show some ((vp_cell _ _).setSlot _ _) = _
    rw [vp_cell_i, vp_cell_i, arrV_store]
    congr 2
    funext q
    by_cases hq : q = i.toNatClampNeg
    · subst hq
      simp [updV, upd]
    · simp [updV, upd, hq]
  rw [hset] at hP1
  exact kk H1 _ ls ⟨hP1, fun h => by rw [z]; exact hP.2.1 h, hP.2.2.1, tvXc_put hP.2.2.2 (Nat.lt_of_lt_of_le ha hP.2.2.1) oq⟩ (hS.put z oq (hD.2 a _ he)) hL
end TVS
