/-! ===== rows over the further cells ===== -/
theorem tvX_world {G : tvG} {X : va_W} {M : tvM} {H : Heap} (hP : tvP G (tvPX X) M H) : va_P G.2.2.1 tvCl (tvWs G (tvPX X) M ++ X) H ∧ va_D (tvA G) (tvWs G (tvPX X) M ++ X) := by
  refine ⟨va_P.app hP.1 hP.2.2.2.1, va_D.app (tvWs_D G _ M hP.2.2.1) (hP.2.2.2.2.weaken fun k q hk h => ⟨by omega, Or.inr h.2⟩) (fun i j p q hp hq e => ?_)⟩
  have h1 := tvWs_inv G _ M hp
  have h2 := (hP.2.2.2.2.2 j q hq).1
  have h3 : i < 249 := h1.1
  omega
theorem tvX_L (G : tvG) (X X' : va_W) (M : tvM) : (tvWs G (tvPX X) M).length = 249 := tvWs_len G _ M
theorem tvX_of {G : tvG} {X X' : va_W} {M : tvM} {H : Heap} (h : va_P G.2.2.1 tvCl (tvWs G (tvPX X) M ++ X') H) (hD : va_D (fun q => G.2.1 + 249 ≤ q ∧ G.w ≤ q) X') : tvP G (tvPX X') M H := by
  refine ⟨h.by id fun k q hk => ?_, fun q => q.elim, Nat.le_refl _, h.by (fun k => 249 + k) fun k q hk => ?_, hD⟩
  · have h1 : (tvWs G (tvPX X) M)[k]? = some q := hk
    obtain ⟨h2, -⟩ := List.getElem?_eq_some_iff.mp h1
    show (tvWs G (tvPX X) M ++ X')[k]? = some q
    rw [List.getElem?_append_left h2]
    exact h1
  · show (tvWs G (tvPX X) M ++ X')[249 + k]? = some q
    rw [List.getElem?_append_right (by rw [tvX_L G X X']; omega), tvX_L G X X', Nat.add_sub_cancel_left]
    exact hk
theorem tvX_get {G : tvG} {X : va_W} {M : tvM} {i : Nat} {q : Nat × va_E} (h : X[i]? = some q) : (tvWs G (tvPX X) M ++ X)[249 + i]? = some q := by
  rw [List.getElem?_append_right (by rw [tvX_L G X X]; omega), tvX_L G X X, Nat.add_sub_cancel_left]
  exact h
theorem tvX_set {G : tvG} {X : va_W} {M : tvM} {i : Nat} (q : Nat × va_E) : (tvWs G (tvPX X) M ++ X).set (249 + i) q = tvWs G (tvPX X) M ++ X.set i q := by
  rw [List.set_append_right _ _ (by rw [tvX_L G X X]; omega), tvX_L G X X, Nat.add_sub_cancel_left]
theorem tvX_dset {G : tvG} {X : va_W} {H : Heap} {i q : Nat} {e0 e : va_E} (h : tvXc G X H) (hx : X[i]? = some (q, e0)) : va_D (fun q => G.2.1 + 249 ≤ q ∧ G.w ≤ q) (X.set i (q, e)) := h.2.set hx
section TXR
variable {E : tvE} {X : va_W} {k sl d mc ms nL pc pc' : Nat} {M : tvM} {L : List (Option Value)} {st : List Value} {own : String} {cc : ByteArray} {ret : Option FieldType} {tb : List ExceptionTableEntry}
theorem tx_iald {q i j n : Nat} {f : Nat → Int32} {x : Int32} (hj : x.toNatClampNeg = j) (C : tvC E own cc nL ret d mc ms tb) (hd : tvD cc pc .iaload 1 pc') (hx : X[i]? = some (q, .inl (E.G.2.2.2.1 0, n, .inl f))) (hi : vp_in x n) (kk : tv_W E (tvPX X) k sl M pc' L (.int (f j) :: st)) : tv_W E (tvPX X) k sl M pc L (.int x :: .ref q :: st) := by
  subst hj
  obtain ⟨hd, rfl⟩ := hd
  intro H locs ls hP hS hL
  exact va_iald C.1 C.2.1 C.2.2.2.2.2.1.1 hP.2.2.2.1 i 0 hx rfl hi hd (kk H locs ls hP hS hL)
theorem tx_alen {q i n : Nat} {f : Nat → Int32} (C : tvC E own cc nL ret d mc ms tb) (hd : tvD cc pc .arraylength 1 pc') (hx : X[i]? = some (q, .inl (E.G.2.2.2.1 0, n, .inl f))) (kk : tv_W E (tvPX X) k sl M pc' L (.int (nI n) :: st)) : tv_W E (tvPX X) k sl M pc L (.ref q :: st) := by
  obtain ⟨hd, rfl⟩ := hd
  intro H locs ls hP hS hL
  exact va_alen C.1 C.2.1 C.2.2.2.2.2.1.1 hP.2.2.2.1 i 0 hx (ty := .int) rfl rfl hd (kk H locs ls hP hS hL)
theorem tx_iast {q i j n : Nat} {f : Nat → Int32} {x v : Int32} (hj : x.toNatClampNeg = j) (C : tvC E own cc nL ret d mc ms tb) (hd : tvD cc pc .iastore 1 pc') (hx : X[i]? = some (q, .inl (E.G.2.2.2.1 0, n, .inl f))) (hi : vp_in x n) (kk : tv_W E (tvPX (X.set i (q, .inl (E.G.2.2.2.1 0, n, .inl (upd f j v))))) k sl M pc' L st) : tv_W E (tvPX X) k sl M pc L (.int v :: .int x :: .ref q :: st) := by
  subst hj
  obtain ⟨hd, rfl⟩ := hd
  intro H locs ls hP hS hL
  obtain ⟨hW, hD⟩ := tvX_world hP
  refine va_iast C.1 C.2.1 C.2.2.2.2.2.1.1 hW hD hS (249 + i) 0 (tvX_get hx) rfl hi hd (fun H1 locs1 hP1 hD1 hS1 => ?_)
  rw [tvX_set] at hP1
  exact kk H1 locs1 ls (tvX_of hP1 (tvX_dset hP.2.2.2 hx)) hS1 hL
/-- a new array -/
theorem tx_newarr {aty : ArrayType} {ty : FieldType} {N t0 : Nat} {n : Int32} {a0 : vp_A} (C : tvC E own cc nL ret d mc ms tb) (hd : tvD cc pc (.newarray aty) 2 pc') (hA : Cond.arrayClass (newarray.typeOf aty) ∈ tvGW) (hty : newarray.typeOf aty = ty) (ht0 : (tvTys E.G)[t0]? = some (E.G.2.2.2.1 t0, ty)) (hr : ∀ U c, va_RA U c ty → U.vm.findClass ("[" ++ ty.toString) = some c) (ha0 : ∀ c : ClassId, vp_cell c a0 = arrV c N (fun _ => defaultValue ty)) (hn0 : ¬ n < 0) (hnN : n.toNatClampNeg = N) (hby : N * componentBytes ty ≤ 536870912) (hk : k + 1 ≤ mc) (hsl : sl + N ≤ ms)
    (kk : ∀ q : Nat, tv_W E (tvPX (X ++ [(q, .inl (E.G.2.2.2.1 t0, a0))])) (k + 1) (sl + N) M pc' L (.ref q :: st)) : tv_W E (tvPX X) k sl M pc L (.int n :: st) := by
  subst hty
  obtain ⟨hd, rfl⟩ := hd
  obtain ⟨hx, hb, hml, hown, hts, hK, hRm, -⟩ := C
  intro H locs ls hP hS hL
  refine va_newaK hx hb (hts _ hA) rfl hd rfl hn0 hnN hby (by rw [hRm]; exact hk) (by rw [hRm]; exact hsl) rfl fun H1 cA e1 z1 o1 hAr hNm => ?_
  have hcA : cA = E.G.2.2.2.1 t0 := Option.some.inj (hNm.symm.trans (hr _ _ (hK.1.2 t0 _ ht0).2))
  subst hcA
  obtain ⟨hW, hD⟩ := tvX_world hP
  have hkp : ∀ (i : Nat) (x : Nat × va_E), (tvWs E.G (tvPX X) M ++ X)[i]? = some x → H1[x.1]? = H[x.1]? := fun i x hx9 => o1 x.1 (hW i x hx9).lt
  have hcell : va_P E.G.2.2.1 tvCl [(H.size, .inl (E.G.2.2.2.1 t0, a0))] H1 := by
    intro i x hx9
    have hi : i < 1 := (List.getElem?_eq_some_iff.mp hx9).1
    rw [show i = 0 by omega] at hx9
    cases hx9
    show H1[H.size]? = some (vp_cell _ _)
    rw [ha0]
    exact e1
  have hP1 : va_P E.G.2.2.1 tvCl (tvWs E.G (tvPX X) M ++ (X ++ [(H.size, .inl (E.G.2.2.2.1 t0, a0))])) H1 := by
    rw [← List.append_assoc]
    exact (hW.kept hkp).app hcell
  have h7 := hK.2.2.2.2.2.2.1
  have h249 : E.G.2.1 + 249 ≤ H.size := by
    have h1 := (hP.1 248 _ (tvWs_get E.G (tvPX X) M (show 248 < 249 by omega))).lt
    have h2 : E.G.2.1 + 248 < H.size := h1
    omega
  refine kk H.size H1 locs ls (tvX_of hP1 (hP.2.2.2.2.push hP.2.2.2.1 rfl ⟨h249, Nat.le_trans h7.2 hS.1⟩)) ⟨Nat.le_trans hS.1 (by omega), fun x h1 h2 => (o1 x (Nat.lt_of_lt_of_le h1 hS.1)).trans (hS.2.1 x h1 h2), hS.2.2⟩ hL
end TXR
