/-! ===== objects, bytes and texts among the further cells; calls that are given all of them ===== -/
def tvXf (own : String) (idx ci j : Nat) : Prop := ∃ (C : String) (T : u_T) (N : Nat), tvCl[ci]? = some (C, T, N) ∧ j < N ∧ (∀ w ∈ u_ws C T N, w ∈ tvGW) ∧ Cond.fieldLink own idx (T j).1 (T j).2.1 (T j).2.2.1 ∈ tvGW
def tvXw (own : String) (ci j : Nat) (fin : Bool) : Prop := ∃ (C : String) (T : u_T) (N : Nat), tvCl[ci]? = some (C, T, N) ∧ (∀ k, k < N → parseFieldDescriptor (T k).2.2.1 = some (tvTy ci k)) ∧ (∀ a, a < N → ∀ b, b < N → a ≠ b → (T a).2.1 ≠ (T b).2.1) ∧ (T j).2.2.2 = fin ∧ (fin = true → (T j).1 = own)
/-- a text: a constant, or a String among the further cells -/
def tvTxt (G : tvG) (X : va_W) (a b n : Nat) (f : Nat → Int32) : Prop :=
  (∃ (N : Nat) (len : List Nat) (byt : List (List Int32)) (adK adV : Nat → Nat) (i : Nat), (∀ U H, tvK G U H → vk_S N len byt adK adV (tvA G) U H) ∧ i < N ∧ a = adK i ∧ b = adV i ∧ n = len.getD i 0 ∧ f = fun j => (byt.getD i []).getD j 0) ∨
  (∃ (i j : Nat) (fs : List Value), X[i]? = some (a, .inr (10, fs)) ∧ fs[0]? = some (.ref b) ∧ fs[1]? = some (.int 0) ∧ X[j]? = some (b, .inl (G.2.2.2.1 2, n, .inl f)))
/-- a private method, on an object of a class below -/
theorem sx_sel {C : String} {y0 y : MethodName} {s : State} {args : Array Value} (hy : y.cls ≠ "java/lang/invoke/MethodHandle" ∧ y.cls ≠ "java/lang/invoke/VarHandle") (hc0 : y0.cls = y.cls) (hs : (Cond.selects C y0 y0).before args s = true) (hpriv : (Cond.privateMethod y).before args s = true) (hinst : (Cond.instanceMethod y).before args s = true) : (Cond.selects C y y).before args s = true := by
  obtain ⟨c, r, m0, hc, hr, hm0, -, mk, hmk, hni⟩ := Cond.selects_spec hs
  obtain ⟨m1, methM, hnamed, hmethM, -, -⟩ := Cond.instanceMethod_spec hinst
  have hfound : s.methodFound? y.cls y.name y.desc = some m1 := State.methodFound?_of_named hnamed hy
  have e0 := findClass_of_methodNamed hm0
  rw [hc0] at e0
  have hcls : m0.cls = m1.cls := Option.some.inj (e0.symm.trans (findClass_of_methodNamed hnamed))
  have hsel : selectMethod {} s.vm c m1 = .method m1 := selectMethod_private hmethM (Cond.privateMethod_at hpriv m1 methM hnamed hmethM)
  rw [hcls] at hmk
  simp only [Cond.before, Cond.holds, Cond.value, hc, hfound, hnamed, hsel, hmk]
  simp
  exact hni
theorem tvRunX.met {G : tvG} {y : MethodName} {ws : List Cond} {d mc ms : Nat} {X : va_W} {args : List Value} {M : tvM} {post : tvO → va_W → tvM → Prop} (h : tvRunX G y ws d mc ms X args M post) (hno : ∀ e X1 M1, ¬ post (.inr e) X1 M1) :
    ∃ Qc : Array Value → State → Outcome → State → Prop, Met G.1 y ws (tvRm d mc ms) (va_Pc args (tvPre G (tvPX X) M)) Qc mc ms (tvA G) ∧ (∀ a st v t, Qc a st (.returned v) t → ∃ (X1 : va_W) (M1 : tvM), post (.inl v) X1 M1 ∧ tvP G (tvPX X1) M1 t.heap ∧ va_F (tvA G) st t) := by
  obtain ⟨Qc, XC, hM, hq, hx⟩ := h
  refine ⟨Qc, MetFree.mono hM (fun _ _ h => h) (fun _ _ _ _ _ h => h) (fun a s o s' _ h => ?_), hq⟩
  rcases h with h | ⟨q, -, E', ce, L, h9⟩
  · exact h
  · obtain ⟨X1, M1, h1, -⟩ := hx _ _ _ h9.1
    exact absurd h1 (hno _ _ _)
theorem tx_room {R : Room} {d mc ms : Nat} {st : List Value} (hRm : R = tvRm d mc ms) (hr : (st.map fun v => v.category).sum ≤ 8) (hdp : 1 ≤ d) : (st.map fun v => v.category).sum + (nativeFrameWords "java/lang/System" "arraycopy" 5 + 11) ≤ R.locals := by
  rw [hRm]
  show _ ≤ 64 * d
  have : nativeFrameWords "java/lang/System" "arraycopy" 5 + 11 ≤ 40 := by decide +kernel
  omega
/-- a further cell more -/
theorem tvX_push {G : tvG} {X : va_W} {M : tvM} {H1 : Heap} {q : Nat} {e : va_E} (h : va_P G.2.2.1 tvCl ((tvWs G (tvPX X) M ++ X) ++ [(q, e)]) H1) (hD : va_D (tvA G) ((tvWs G (tvPX X) M ++ X) ++ [(q, e)])) (hX : va_D (fun q => G.2.1 + 249 ≤ q ∧ G.w ≤ q) X) : tvP G (tvPX (X ++ [(q, e)])) M H1 := by
  rw [List.append_assoc] at h hD
  have get : ∀ (i : Nat) (p : Nat × va_E), (X ++ [(q, e)])[i]? = some p → (tvWs G (tvPX X) M ++ (X ++ [(q, e)]))[249 + i]? = some p := fun i p hi => by
    rw [List.getElem?_append_right (by rw [tvX_L G X X]; omega), tvX_L G X X, Nat.add_sub_cancel_left]
    exact hi
  have hl : (X ++ [(q, e)])[X.length]? = some (q, e) := by simp
  have hA : tvA G q := hD.2 _ _ (get _ _ hl)
  have hq : G.2.1 + 249 ≤ q := by
    rcases Nat.lt_or_ge q (G.2.1 + 249) with h1 | h1
    · exfalso
      have h2 : G.2.1 ≤ q := hA.1
      have h3 := tvWs_get G (tvPX X) M (show q - G.2.1 < 249 by omega)
      rw [← List.getElem?_append_left (l₂ := X ++ [(q, e)]) (by rw [tvX_L G X X]; omega)] at h3
      have h4 := hD.1 _ _ _ _ h3 (get _ _ hl) (by show G.2.1 + (q - G.2.1) = q; omega)
      omega
    · exact h1
  refine tvX_of h ⟨fun i j p p' hi hj e1 => ?_, fun i p hi => ?_⟩
  · have h4 := hD.1 _ _ _ _ (get i p hi) (get j p' hj) e1
    omega
  · rcases Nat.lt_or_ge i X.length with h1 | h1
    · rw [List.getElem?_append_left h1] at hi
      exact hX.2 i p hi
    · have h2 : i < (X ++ [(q, e)]).length := (List.getElem?_eq_some_iff.mp hi).1
      have h3 : i = X.length := by simp at h2; omega
      subst h3
      rw [hl] at hi
      cases hi
      have h5 := hA.2
      exact ⟨hq, h5.elim (fun z => absurd z (by omega)) id⟩
section TXB
variable {E : tvE} {X : va_W} {k sl d mc ms nL pc pc' : Nat} {M : tvM} {L : List (Option Value)} {st : List Value} {own : String} {cc : ByteArray} {ret : Option FieldType} {tb : List ExceptionTableEntry} {post : tvO → va_W → tvM → Prop}
theorem tx_getf {q i ci idx j : Nat} {fs : List Value} {v : Value} (C : tvC E own cc nL ret d mc ms tb) (hd : tvD cc pc (.getfield idx) 3 pc') (hF : tvXf own idx ci j) (hx : X[i]? = some (q, .inr (ci, fs))) (hv : fs[j]? = some v) (kk : tv_W E (tvPX X) k sl M pc' L (v :: st)) : tv_W E (tvPX X) k sl M pc L (.ref q :: st) := by
  obtain ⟨hd, rfl⟩ := hd
  obtain ⟨Cn, T, N, hc, hj, hin, hl⟩ := hF
  exact fun H locs ls hP hS hL => va_get C.1 C.2.1 C.2.2.2.2.1 hin C.2.2.2.1 C.2.2.2.2.2.1.1 hP.2.2.2.1 i hx hc j hj (C.2.2.2.2.1 _ hl) (fun _ h => h) hv hd (kk H locs ls hP hS hL)
theorem tx_putf {q i ci idx j : Nat} {fs fs' : List Value} {v : Value} (C : tvC E own cc nL ret d mc ms tb) (hd : tvD cc pc (.putfield idx) 3 pc') (hF : tvXf own idx ci j) (hW : tvXw own ci j false) (hx : X[i]? = some (q, .inr (ci, fs))) (hn : narrow (tvTy ci j) v = v) (hf : fits (tvTy ci j) v = true) (hlen : j < fs.length) (hfs : fs.set j v = fs') (kk : tv_W E (tvPX (X.set i (q, .inr (ci, fs')))) k sl M pc' L st) : tv_W E (tvPX X) k sl M pc L (v :: .ref q :: st) := by
  subst hfs
  obtain ⟨hd, rfl⟩ := hd
  obtain ⟨Cn, T, N, hc, hj, hin, hl⟩ := hF
  obtain ⟨Cn', T', N', hc', hty, hnm, hfin, -⟩ := hW
  cases hc.symm.trans hc'
  intro H locs ls hP hS hL
  obtain ⟨hWd, hD⟩ := tvX_world hP
  refine va_put C.1 C.2.1 C.2.2.2.2.1 hin (tvTy ci) hty hnm C.2.2.2.1 C.2.2.2.2.2.1.1 hWd hD hS (249 + i) (tvX_get hx) hc j hj (C.2.2.2.2.1 _ hl) (fun _ h => h) hfin (hty j hj) hn hf hlen hd (fun H1 locs1 hP1 hD1 hS1 => ?_)
  rw [tvX_set] at hP1
  exact kk H1 locs1 ls (tvX_of hP1 (tvX_dset hP.2.2.2 hx)) hS1 hL
theorem tx_putF {q i ci idx j : Nat} {fs fs' : List Value} {v : Value} (C : tvC E own cc nL ret d mc ms tb) (hI : E.meth.name = "<init>") (hd : tvD cc pc (.putfield idx) 3 pc') (hF : tvXf own idx ci j) (hW : tvXw own ci j true) (hx : X[i]? = some (q, .inr (ci, fs))) (hn : narrow (tvTy ci j) v = v) (hf : fits (tvTy ci j) v = true) (hlen : j < fs.length) (hfs : fs.set j v = fs') (kk : tv_W E (tvPX (X.set i (q, .inr (ci, fs')))) k sl M pc' L st) : tv_W E (tvPX X) k sl M pc L (v :: .ref q :: st) := by
  subst hfs
  obtain ⟨hd, rfl⟩ := hd
  obtain ⟨Cn, T, N, hc, hj, hin, hl⟩ := hF
  obtain ⟨Cn', T', N', hc', hty, hnm, hfin, hdecl⟩ := hW
  cases hc.symm.trans hc'
  intro H locs ls hP hS hL
  obtain ⟨hWd, hD⟩ := tvX_world hP
  refine va_putF C.1 C.2.1 C.2.2.2.2.1 hin (tvTy ci) hty hnm C.2.2.2.1 C.2.2.2.2.2.1.1 hWd hD hS (249 + i) (tvX_get hx) hc j hj (C.2.2.2.2.1 _ hl) (fun _ h => h) hfin hI (hdecl rfl) (hty j hj) hn hf hlen hd (fun H1 locs1 hP1 hD1 hS1 => ?_)
  rw [tvX_set] at hP1
  exact kk H1 locs1 ls (tvX_of hP1 (tvX_dset hP.2.2.2 hx)) hS1 hL
theorem tx_new {idx ci N : Nat} {fs : List Value} (C : tvC E own cc nL ret d mc ms tb) (hd : tvD cc pc (.new idx) 3 pc') (hN : tvNw own idx ci) (hNN : tvN ci = N) (hfs : ∀ j, j < N → defaultValue (tvTy ci j) = vp_V fs j) (hk : k + 1 ≤ mc) (hsl : sl + N ≤ ms)
    (kk : ∀ q : Nat, tv_W E (tvPX (X ++ [(q, .inr (ci, fs))])) (k + 1) (sl + N) M pc' L (.ref q :: st)) : tv_W E (tvPX X) k sl M pc L st := by
  subst hNN
  obtain ⟨hd, rfl⟩ := hd
  obtain ⟨hx, hb, hml, hown, hts, hK, hRm, -⟩ := C
  obtain ⟨Cn, T, N, hc, hN1, hin, hty, w1, w2, w3, hnf⟩ := hN
  subst hN1
  intro H locs ls hP hS hL
  have hKn := hK.1.1 ci _ hc
  refine W.newcK hx hb hown (hts _ w1) (hts _ w2) (hts _ w3) rfl hd (by rw [hRm]; exact hk) (by rw [hRm]; exact hsl) hKn.2.1 rfl fun H1 kC hkC e1 z1 o1 => ?_
  obtain ⟨hW, hD⟩ := tvX_world hP
  have hkp : ∀ (i : Nat) (x : Nat × va_E), (tvWs E.G (tvPX X) M ++ X)[i]? = some x → H1[x.1]? = H[x.1]? := fun i x hx9 => o1 x.1 (hW i x hx9).lt
  have hcell : va_P E.G.2.2.1 tvCl [(H.size, .inr (ci, fs))] H1 := by
    intro i x hx9
    have hi : i < 1 := (List.getElem?_eq_some_iff.mp hx9).1
    rw [show i = 0 by omega] at hx9
    cases hx9
    exact ⟨_, hc, (u_born (tvTy ci) hts hin hKn hkC e1 hty).to hfs⟩
  have hP1 : va_P E.G.2.2.1 tvCl (tvWs E.G (tvPX X) M ++ (X ++ [(H.size, .inr (ci, fs))])) H1 := by
    rw [← List.append_assoc]
    exact (hW.kept hkp).app hcell
  have h7 := hK.2.2.2.2.2.2.1
  have h249 : E.G.2.1 + 249 ≤ H.size := by
    have h1 := (hP.1 248 _ (tvWs_get E.G (tvPX X) M (show 248 < 249 by omega))).lt
    have h2 : E.G.2.1 + 248 < H.size := h1
    omega
  exact kk H.size H1 locs ls (tvX_of hP1 (hP.2.2.2.2.push hP.2.2.2.1 rfl ⟨h249, Nat.le_trans h7.2 hS.1⟩)) ⟨Nat.le_trans hS.1 (by omega), fun x h1 h2 => (o1 x (Nat.lt_of_lt_of_le h1 hS.1)).trans (hS.2.1 x h1 h2), hS.2.2⟩ hL
theorem tx_blen {q j n : Nat} {f : Nat → Int32} (C : tvC E own cc nL ret d mc ms tb) (hd : tvD cc pc .arraylength 1 pc') (hx : X[j]? = some (q, .inl (E.G.2.2.2.1 2, n, .inl f))) (kk : tv_W E (tvPX X) k sl M pc' L (.int (nI n) :: st)) : tv_W E (tvPX X) k sl M pc L (.ref q :: st) := by
  obtain ⟨hd, rfl⟩ := hd
  intro H locs ls hP hS hL
  exact va_alen C.1 C.2.1 C.2.2.2.2.2.1.1 hP.2.2.2.1 j 2 hx (ty := .byte) rfl rfl hd (kk H locs ls hP hS hL)
theorem tx_bast {q i j n : Nat} {f : Nat → Int32} {x v w : Int32} (hj : x.toNatClampNeg = j) (hw : vp_nar .byte v = w) (C : tvC E own cc nL ret d mc ms tb) (hd : tvD cc pc .bastore 1 pc') (hx : X[i]? = some (q, .inl (E.G.2.2.2.1 2, n, .inl f))) (hi : vp_in x n) (kk : tv_W E (tvPX (X.set i (q, .inl (E.G.2.2.2.1 2, n, .inl (upd f j w))))) k sl M pc' L st) : tv_W E (tvPX X) k sl M pc L (.int v :: .int x :: .ref q :: st) := by
  subst hj hw
  obtain ⟨hd, rfl⟩ := hd
  intro H locs ls hP hS hL
  obtain ⟨hW, hD⟩ := tvX_world hP
  refine va_bast C.1 C.2.1 C.2.2.2.2.2.1.1 hW hD hS (249 + i) 2 (tvX_get hx) rfl hi hd (fun H1 locs1 hP1 hD1 hS1 => ?_)
  rw [tvX_set] at hP1
  exact kk H1 locs1 ls (tvX_of hP1 (tvX_dset hP.2.2.2 hx)) hS1 hL
theorem tx_copy {q0 q1 i j n0 n1 idx : Nat} {f g : Nat → Int32} {sp dp n : Int32} (C : tvC E own cc nL ret d mc ms tb) (hd : tvD cc pc (.invokestatic idx) 3 pc') (hl : Cond.methodLink own idx arraycopyName ∈ tvGW) (hx0 : X[i]? = some (q0, .inl (E.G.2.2.2.1 2, n0, .inl f))) (hx1 : X[j]? = some (q1, .inl (E.G.2.2.2.1 2, n1, .inl g)))
    (h1 : ¬ sp < 0) (h2 : ¬ dp < 0) (h3 : ¬ n < 0) (h4 : sp.toNatClampNeg + n.toNatClampNeg ≤ n0) (h5 : dp.toNatClampNeg + n.toNatClampNeg ≤ n1) (hfit : ∀ i, i < n.toNatClampNeg → fits .byte (.int (f (sp.toNatClampNeg + i))) = true) (hr : (st.map fun v => v.category).sum ≤ 8) (hdd : 1 ≤ d)
    (kk : tv_W E (tvPX (X.set j (q1, .inl (E.G.2.2.2.1 2, n1, .inl (va_cpy f g sp.toNatClampNeg dp.toNatClampNeg n.toNatClampNeg))))) k sl M pc' L st) : tv_W E (tvPX X) k sl M pc L (.int n :: .int dp :: .ref q1 :: .int sp :: .ref q0 :: st) := by
  obtain ⟨hd, rfl⟩ := hd
  obtain ⟨hx, hb, hml, hown, hts, hK, hRm, -⟩ := C
  intro H locs ls hP hS hL
  obtain ⟨hW, hD⟩ := tvX_world hP
  refine va_copyi hx hb (by rw [hml]; exact (hL.1.trans hml).symm) hown (hts _ hl) (hts _ tvW_nat) (hts _ tvW_st) (hts _ tvW_in) hK.1 hW hD hS (249 + i) (249 + j) 2 2 (tvX_get hx0) (tvX_get hx1) rfl rfl rfl h1 h2 h3 h4 h5 hfit (by rw [hRm]; exact hdd) (tx_room hRm hr hdd) hd (fun H1 locs1 hP1 hD1 hS1 => ?_)
  rw [tvX_set] at hP1
  exact kk H1 locs1 ls (tvX_of hP1 (tvX_dset hP.2.2.2 hx1)) hS1 hL
/-- an array's clone, and its cast -/
theorem tx_clone {q i n idx : Nat} {f : Nat → Int32} (C : tvC E own cc nL ret d mc ms tb) (hd : tvD cc pc (.invokevirtual idx) 3 pc') (hl : Cond.methodLink own idx ⟨"[B", "clone", "()Ljava/lang/Object;"⟩ ∈ tvGW ∧ Cond.sameMethod "[B" "java/lang/Object" "clone" "()Ljava/lang/Object;" ∈ tvGW ∧ Cond.native ⟨"java/lang/Object", "clone", "()Ljava/lang/Object;"⟩ ∈ tvGW ∧ Cond.instanceMethod ⟨"java/lang/Object", "clone", "()Ljava/lang/Object;"⟩ ∈ tvGW ∧ Cond.selects "[B" ⟨"[B", "clone", "()Ljava/lang/Object;"⟩ ⟨"java/lang/Object", "clone", "()Ljava/lang/Object;"⟩ ∈ tvGW ∧ Cond.castable "[B" "java/lang/Cloneable" ∈ tvNest) (hx : X[i]? = some (q, .inl (E.G.2.2.2.1 2, n, .inl f))) (hfit : ∀ i, i < n → fits .byte (.int (f i)) = true) (hr : st = []) (hdd : 1 ≤ d) (hk : k + 1 ≤ mc) (hs : sl + n ≤ ms)
    (kk : ∀ q' : Nat, tv_W E (tvPX (X ++ [(q', .inl (E.G.2.2.2.1 2, n, .inl f))])) (k + 1) (sl + n) M pc' L (.ref q' :: st)) : tv_W E (tvPX X) k sl M pc L (.ref q :: st) := by
  subst hr
  obtain ⟨hd, rfl⟩ := hd
  obtain ⟨hx0, hb, hml, hown, hts, hK, hRm, -⟩ := C
  obtain ⟨l1, l2, l3, l4, l5, l6⟩ := hl
  intro H locs ls hP hS hL
  obtain ⟨hW, hD⟩ := tvX_world hP
  have h7 := hK.2.2.2.2.2.2.1
  have h249 : E.G.2.1 ≤ E.s.heap.size := h7.1
  exact va_clone hx0 hb (by rw [hml]; exact (hL.1.trans hml).symm) hown (hts _ l1) (hts _ l2) (hts _ l3) (hts _ l4) (hts _ l5) (hK.2.1 _ l6) hK.1 hW hD hS (fun q hq => ⟨Nat.le_trans h249 hq, Or.inr (Nat.le_trans h7.2 hq)⟩) (249 + i) 2 (tvX_get hx) rfl (va_nm_byte (hK.1.2 2 _ rfl).2) (va_fit (cA := E.G.2.2.2.1 2) (n := n) (F := fun j => .int (f j)) hfit) (by rw [hRm]; exact hdd) (by rw [hRm]; show 0 + 14 ≤ 64 * d; omega) (by rw [hRm]; exact hk) (by rw [hRm]; exact hs) hd (fun q' H1 _ hP1 hD1 hS1 => kk q' H1 locs ls (tvX_push hP1 hD1 hP.2.2.2.2) hS1 hL)
theorem tx_castB {q i n idx : Nat} {f : Nat → Int32} (C : tvC E own cc nL ret d mc ms tb) (hd : tvD cc pc (.checkcast idx) 3 pc') (hl : Cond.classLink own idx "[B" ∈ tvGW) (hx : X[i]? = some (q, .inl (E.G.2.2.2.1 2, n, .inl f))) (kk : tv_W E (tvPX X) k sl M pc' L (.ref q :: st)) : tv_W E (tvPX X) k sl M pc L (.ref q :: st) := by
  obtain ⟨hd, rfl⟩ := hd
  intro H locs ls hP hS hL
  exact va_castA C.1 C.2.1 C.2.2.2.1 (C.2.2.2.2.1 _ hl) hP.2.2.2.1 i hx (va_nm_byte (C.2.2.2.2.2.1.1.2 2 _ rfl).2) hd (kk H locs ls hP hS hL)
/-- texts -/
theorem tx_tcoder {a b n idx : Nat} {f : Nat → Int32} (C : tvC E own cc nL ret d mc ms tb) (hd : tvD cc pc (.getfield idx) 3 pc') (hF : tvXf own idx 10 1) (hx : tvTxt E.G X a b n f) (kk : tv_W E (tvPX X) k sl M pc' L (.int 0 :: st)) : tv_W E (tvPX X) k sl M pc L (.ref a :: st) := by
  rcases hx with ⟨N, len, byt, adK, adV, i, h0, hi, rfl, rfl, rfl, rfl⟩ | ⟨i, j, fs, h1, h2, h3, h4⟩
  · obtain ⟨hd, rfl⟩ := hd
    obtain ⟨Cn, T, N', hc, hj, hin, hl⟩ := hF
    cases hc
    exact fun H locs ls hP hS hL => vk_getf C.1 C.2.1 ((h0 _ _ C.2.2.2.2.2.1).1 i hi).2.1 hS C.2.2.2.1 (C.2.2.2.2.1 _ hl) (fun _ h => h) hd (kk H locs ls hP hS hL)
  · exact tx_getf C hd hF h1 h3 kk
theorem tx_tvalue {a b n idx : Nat} {f : Nat → Int32} (C : tvC E own cc nL ret d mc ms tb) (hd : tvD cc pc (.getfield idx) 3 pc') (hF : tvXf own idx 10 0) (hx : tvTxt E.G X a b n f) (kk : tv_W E (tvPX X) k sl M pc' L (.ref b :: st)) : tv_W E (tvPX X) k sl M pc L (.ref a :: st) := by
  rcases hx with ⟨N, len, byt, adK, adV, i, h0, hi, rfl, rfl, rfl, rfl⟩ | ⟨i, j, fs, h1, h2, h3, h4⟩
  · obtain ⟨hd, rfl⟩ := hd
    obtain ⟨Cn, T, N', hc, hj, hin, hl⟩ := hF
    cases hc
    exact fun H locs ls hP hS hL => vk_getf C.1 C.2.1 ((h0 _ _ C.2.2.2.2.2.1).1 i hi).2.2.1 hS C.2.2.2.1 (C.2.2.2.2.1 _ hl) (fun _ h => h) hd (kk H locs ls hP hS hL)
  · exact tx_getf C hd hF h1 h2 kk
theorem tx_tlen {a b n : Nat} {f : Nat → Int32} (C : tvC E own cc nL ret d mc ms tb) (hd : tvD cc pc .arraylength 1 pc') (hx : tvTxt E.G X a b n f) (kk : tv_W E (tvPX X) k sl M pc' L (.int (nI n) :: st)) : tv_W E (tvPX X) k sl M pc L (.ref b :: st) := by
  rcases hx with ⟨N, len, byt, adK, adV, i, h0, hi, rfl, rfl, rfl, rfl⟩ | ⟨i, j, fs, h1, h2, h3, h4⟩
  · obtain ⟨hd, rfl⟩ := hd
    exact fun H locs ls hP hS hL => va_tlen C.1 C.2.1 ((h0 _ _ C.2.2.2.2.2.1).1 i hi).2.2.2 hS rfl hd (kk H locs ls hP hS hL)
  · exact tx_blen C hd h4 kk
theorem tx_tbyte {a b n j : Nat} {f : Nat → Int32} {x : Int32} (hj : x.toNatClampNeg = j) (C : tvC E own cc nL ret d mc ms tb) (hd : tvD cc pc .baload 1 pc') (hx : tvTxt E.G X a b n f) (hin : vp_in x n) (kk : tv_W E (tvPX X) k sl M pc' L (.int (f j) :: st)) : tv_W E (tvPX X) k sl M pc L (.int x :: .ref b :: st) := by
  subst hj
  rcases hx with ⟨N, len, byt, adK, adV, i, h0, hi, rfl, rfl, rfl, rfl⟩ | ⟨i, j, fs, h1, h2, h3, h4⟩
  · obtain ⟨hd, rfl⟩ := hd
    exact fun H locs ls hP hS hL => va_tb C.1 C.2.1 ((h0 _ _ C.2.2.2.2.2.1).1 i hi).2.2.2 hS hin rfl hd (kk H locs ls hP hS hL)
  · obtain ⟨hd, rfl⟩ := hd
    exact fun H locs ls hP hS hL => va_bald C.1 C.2.1 C.2.2.2.2.2.1.1 hP.2.2.2.1 j 2 h4 rfl hin hd (kk H locs ls hP hS hL)
theorem tx_tcopy {a b n q1 j n1 idx : Nat} {f g : Nat → Int32} {dp w : Int32} (C : tvC E own cc nL ret d mc ms tb) (hd : tvD cc pc (.invokestatic idx) 3 pc') (hl : Cond.methodLink own idx arraycopyName ∈ tvGW) (hx : tvTxt E.G X a b n f) (hx1 : X[j]? = some (q1, .inl (E.G.2.2.2.1 2, n1, .inl g)))
    (h2 : ¬ dp < 0) (h3 : ¬ w < 0) (h4 : w.toNatClampNeg ≤ n) (h5 : dp.toNatClampNeg + w.toNatClampNeg ≤ n1) (hfit : ∀ i, i < w.toNatClampNeg → fits .byte (.int (f i)) = true) (hr : (st.map fun v => v.category).sum ≤ 8) (hdd : 1 ≤ d)
    (kk : tv_W E (tvPX (X.set j (q1, .inl (E.G.2.2.2.1 2, n1, .inl (va_cpy f g 0 dp.toNatClampNeg w.toNatClampNeg))))) k sl M pc' L st) : tv_W E (tvPX X) k sl M pc L (.int w :: .int dp :: .ref q1 :: .int 0 :: .ref b :: st) := by
  rcases hx with ⟨N, len, byt, adK, adV, i, h0, hi, rfl, rfl, rfl, rfl⟩ | ⟨i, i2, fs, hh1, hh2, hh3, hh4⟩
  · obtain ⟨hd, rfl⟩ := hd
    obtain ⟨hx, hb, hml, hown, hts, hK, hRm, -⟩ := C
    intro H locs ls hP hS hL
    obtain ⟨hW, hD⟩ := tvX_world hP
    refine vk_copyt hx hb (by rw [hml]; exact (hL.1.trans hml).symm) hown (hts _ hl) (hts _ tvW_nat) (hts _ tvW_st) (hts _ tvW_in) hK.1 hW hD hS (f := fun j => (byt.getD i []).getD j 0) ((h0 _ _ hK).1 i hi).2.2.2 (249 + j) 2 (tvX_get hx1) rfl (by decide) h2 h3 (by show 0 + _ ≤ _; omega) h5 (fun i hi => by show fits .byte (.int ((fun j => (byt.getD _ []).getD j 0) (0 + i))) = true; rw [Nat.zero_add]; exact hfit i hi) (by rw [hRm]; exact hdd) (tx_room hRm hr hdd) hd (fun H1 locs1 hP1 hD1 hS1 => ?_)
    rw [tvX_set] at hP1
    exact kk H1 locs1 ls (tvX_of hP1 (tvX_dset hP.2.2.2 hx1)) hS1 hL
  · exact tx_copy C hd hl hh4 hx1 (by decide) h2 h3 (by show 0 + _ ≤ _; omega) h5 (fun i hi => by show fits .byte (.int (f (0 + i))) = true; rw [Nat.zero_add]; exact hfit i hi) hr hdd kk
/-- the JDK's tables of digits -/
theorem tx_dgs {idx : Nat} {n : String} {F : Nat → Int32} (C : tvC E own cc nL ret d mc ms tb) (hd : tvD cc pc (.getstatic idx) 3 pc') (hn : (n = "DigitOnes" ∧ F = fun j => nI (48 + j % 10)) ∨ (n = "DigitTens" ∧ F = fun j => nI (48 + j / 10))) (hl : Cond.fieldLink own idx "java/lang/Integer" n "[B" ∈ tvGW) (kk : ∀ q : Nat, (∀ (pc pc' : Nat) (k sl : Nat) (X : va_W) (L : List (Option Value)) (st : List Value) (x : Int32), tvD cc pc .baload 1 pc' → vp_in x 100 → tv_W E (tvPX X) k sl M pc' L (.int (F x.toNatClampNeg) :: st) → tv_W E (tvPX X) k sl M pc L (.int x :: .ref q :: st)) → tv_W E (tvPX X) k sl M pc' L (.ref q :: st)) : tv_W E (tvPX X) k sl M pc L st := by
  have hD : tvDg n F (tvA E.G) E.s E.s.heap := by
    rcases hn with ⟨rfl, rfl⟩ | ⟨rfl, rfl⟩
    · exact C.2.2.2.2.2.1.dig.1
    · exact C.2.2.2.2.2.1.dig.2
  obtain ⟨q, hz, hT⟩ := hD
  obtain ⟨hd, rfl⟩ := hd
  exact fun H locs ls hP hS hL => va_gets C.1 C.2.1 hz hS C.2.2.2.1 (C.2.2.2.2.1 _ hl) (fun _ h => h) hd (kk q (fun pc pc' k sl X L st x hd' hin kk' => fun H locs ls hP hS hL => va_tb C.1 C.2.1 hT hS hin rfl hd'.1 (by obtain ⟨hd1, rfl⟩ := hd'; exact kk' H locs ls hP hS hL)) H locs ls hP hS hL)
/-- behind a call that was given all further cells -/
theorem tx_afterP {a : Array Value} {st0 : List Value} {mc' ms' : Nat} {H : Heap} {locs : List Loc} {ls : Array Slot} {Qc : Array Value → State → Outcome → State → Prop} (hr : va_Run E.1.1 E.2.1.1 E.1.2.1 E.R E.s E.m E.args E.below E.meth E.c H locs k sl mc' ms' (F0 E.m pc ls st0) st (Qc a) (tvA E.G)) (hS : va_S (tvA E.G) E.s.heap H locs) (hl : tvLok L E.c.maxLocals ls)
    (hq : ∀ a st v t, Qc a st (.returned v) t → ∃ (X1 : va_W) (M1 : tvM), post (.inl v) X1 M1 ∧ tvP E.G (tvPX X1) M1 t.heap ∧ va_F (tvA E.G) st t)
    (kk : ∀ (v : Option Value) (X1 : va_W) (M1 : tvM), post (.inl v) X1 M1 → tv_W E (tvPX X1) (k + mc') (sl + ms') M1 (pc + 3) L (v.toList ++ st)) : tvw E H locs k sl (F0 E.m pc ls st0) := by
  intro T hT Y
  obtain ⟨v, st₀, t, T', L1, h0, Y', hL, e1, e2, hq1, hst⟩ := hr T hT Y
  obtain ⟨X1, M1, h1, h2, hF⟩ := hq _ _ _ _ hq1
  obtain ⟨k1, k2, k3⟩ := vx_keep h0 e1 hS (fun q _ h => h) (fun q h => h) hL hF
  obtain ⟨t2, a1, b1⟩ := kk v X1 M1 h1 T'.heap (locs ++ L1) ls (by rw [e1]; exact h2) k3 hl T' rfl Y'
  exact ⟨t2, hst t2 a1, b1⟩
theorem tx_pV {q i ci idx n' ar d' mc' ms' N : Nat} {Cn : String} {y : MethodName} {cc' : ByteArray} {ret' : Option FieldType} {As st0 : List Value} {T : u_T} {fs : List Value} (C : tvC E own cc nL ret d mc ms tb) (hd : tvD cc pc (.invokevirtual idx) 3 pc') (hl : Cond.methodLink own idx y ∈ tvGW) (hY : tvYk y cc' n' ret' ar) (hI : Cond.instanceMethod y ∈ tvGW) (hsel : ∀ (args : Array Value) (s : State), (∀ w ∈ tvGW, w.before args s = true) → (∀ w ∈ tvNest, va_Nw w s) → (Cond.selects Cn y y).before args s = true) (hR : tvRunX E.G y (tvWd y cc' n' ret') d' mc' ms' X (.ref q :: As) M post) (hno : ∀ e X1 M1, ¬ post (.inr e) X1 M1) (hx : X[i]? = some (q, .inr (ci, fs))) (hc : tvCl[ci]? = some (Cn, T, N)) (hst : st0 = As.reverse ++ .ref q :: st) (hn : As.length = ar) (hcat : (st.map fun v => v.category).sum ≤ 8) (hdd : d' + 1 ≤ d) (hnn : n' ≤ 45) (hkk : k + mc' ≤ mc) (hss : sl + ms' ≤ ms)
    (kk : ∀ (v : Option Value) (X1 : va_W) (M1 : tvM), post (.inl v) X1 M1 → tv_W E (tvPX X1) (k + mc') (sl + ms') M1 pc' L (v.toList ++ st)) : tv_W E (tvPX X) k sl M pc L st0 := by
  obtain ⟨hd, rfl⟩ := hd
  obtain ⟨hx0, hb1, hml, hown, hts, hK, hRm, hlk, hrt, htb⟩ := C
  obtain ⟨y1, y2, y3, y4, y5⟩ := hY
  intro H locs ls hP hS hL
  obtain ⟨Qc, hM, hq⟩ := hR.met hno
  have hcb : CallW E.R E.s E.args own Cn idx y cc' n' ret' (tvWd y cc' n' ret') (tvRm d' mc' ms') mc' ms' ar := by
    refine ⟨callB_of ar hts (tvWd_good y1) rfl rfl rfl (hts _ y2) (hts _ hl) ⟨y3.1, y3.2, y4⟩ ⟨?_, ?_⟩, hts _ hI, hsel _ _ hts hK.2.1⟩
    · rw [hRm]; exact hdd
    · rw [hRm]; show 8 + (n' + 11) + 64 * d' ≤ 64 * d; omega
  exact tx_afterP (va_runV ⟨hx0, hb1, hml, hown, hts⟩ hM hcb ⟨tvPre_blind, va_recv hK.1 hP.2.2.2.1 hc hx, fun U hU hW => ⟨rfl, by rw [hU]; exact hP, hK.go hS hU hW⟩⟩ rfl hn (hL.1.trans hml) hst (lv_room hcat) hd ⟨by rw [hRm]; exact hkk, by rw [hRm]; exact hss⟩) hS hL hq kk
theorem tx_pT {q b n idx n' ar d' mc' ms' : Nat} {f : Nat → Int32} {y : MethodName} {cc' : ByteArray} {ret' : Option FieldType} {As st0 : List Value} (C : tvC E own cc nL ret d mc ms tb) (hd : tvD cc pc (.invokevirtual idx) 3 pc') (hl : Cond.methodLink own idx y ∈ tvGW) (hY : tvYk y cc' n' ret' ar) (hI : tvYi y) (hR : tvRunX E.G y (tvWd y cc' n' ret') d' mc' ms' X (.ref q :: As) M post) (hno : ∀ e X1 M1, ¬ post (.inr e) X1 M1) (hx : tvTxt E.G X q b n f) (hc : y.cls = "java/lang/String") (hst : st0 = As.reverse ++ .ref q :: st) (hn : As.length = ar) (hcat : (st.map fun v => v.category).sum ≤ 8) (hdd : d' + 1 ≤ d) (hnn : n' ≤ 45) (hkk : k + mc' ≤ mc) (hss : sl + ms' ≤ ms)
    (kk : ∀ (v : Option Value) (X1 : va_W) (M1 : tvM), post (.inl v) X1 M1 → tv_W E (tvPX X1) (k + mc') (sl + ms') M1 pc' L (v.toList ++ st)) : tv_W E (tvPX X) k sl M pc L st0 := by
  obtain ⟨hd, rfl⟩ := hd
  obtain ⟨hx0, hb1, hml, hown, hts, hK, hRm, hlk, hrt, htb⟩ := C
  obtain ⟨y1, y2, y3, y4, y5⟩ := hY
  intro H locs ls hP hS hL
  obtain ⟨Qc, hM, hq⟩ := hR.met hno
  have hcb : CallW E.R E.s E.args own y.cls idx y cc' n' ret' (tvWd y cc' n' ret') (tvRm d' mc' ms') mc' ms' ar := by
    refine ⟨callB_of ar hts (tvWd_good y1) rfl rfl rfl (hts _ y2) (hts _ hl) ⟨y3.1, y3.2, y4⟩ ⟨?_, ?_⟩, hts _ hI.1, hts _ hI.2⟩
    · rw [hRm]; exact hdd
    · rw [hRm]; show 8 + (n' + 11) + 64 * d' ≤ 64 * d; omega
  have hrec : ∃ cell : Cell, H[q]? = some cell ∧ cell.vm.isStatics = false ∧ E.s.vm.findClass y.cls = some cell.cls := by
    rw [hc]
    rcases hx with ⟨N, len, byt, adK, adV, i, h0, hi, rfl, rfl, rfl, rfl⟩ | ⟨i, j, fs, h1, h2, h3, h4⟩
    · exact vk_recv (h0 _ _ hK) hi hS
    · exact va_recv (ci := 10) hK.1 hP.2.2.2.1 rfl h1
  exact tx_afterP (va_runV ⟨hx0, hb1, hml, hown, hts⟩ hM hcb ⟨tvPre_blind, hrec, fun U hU hW => ⟨rfl, by rw [hU]; exact hP, hK.go hS hU hW⟩⟩ rfl hn (hL.1.trans hml) hst (lv_room hcat) hd ⟨by rw [hRm]; exact hkk, by rw [hRm]; exact hss⟩) hS hL hq kk
theorem tx_pS {idx n' ar d' mc' ms' : Nat} {y : MethodName} {cc' : ByteArray} {ret' : Option FieldType} {As st0 : List Value} (C : tvC E own cc nL ret d mc ms tb) (hd : tvD cc pc (.invokestatic idx) 3 pc') (hl : Cond.methodLink own idx y ∈ tvGW) (hY : tvYk y cc' n' ret' ar) (hI : Cond.static y ∈ tvGW) (hR : tvRunX E.G y (tvWd y cc' n' ret') d' mc' ms' X As M post) (hno : ∀ e X1 M1, ¬ post (.inr e) X1 M1) (hst : st0 = As.reverse ++ st) (hn : As.length = ar) (hcat : (st.map fun v => v.category).sum ≤ 8) (hdd : d' + 1 ≤ d) (hnn : n' ≤ 45) (hkk : k + mc' ≤ mc) (hss : sl + ms' ≤ ms)
    (kk : ∀ (v : Option Value) (X1 : va_W) (M1 : tvM), post (.inl v) X1 M1 → tv_W E (tvPX X1) (k + mc') (sl + ms') M1 pc' L (v.toList ++ st)) : tv_W E (tvPX X) k sl M pc L st0 := by
  obtain ⟨hd, rfl⟩ := hd
  obtain ⟨hx, hb1, hml, hown, hts, hK, hRm, hlk, hrt, htb⟩ := C
  obtain ⟨y1, y2, y3, y4, y5⟩ := hY
  intro H locs ls hP hS hL
  obtain ⟨Qc, hM, hq⟩ := hR.met hno
  have hcb : CallB E.R E.s E.args own idx y cc' n' ret' (tvWd y cc' n' ret') (tvRm d' mc' ms') mc' ms' ar := by
    refine callB_of ar hts (tvWd_good y1) rfl rfl rfl (hts _ y2) (hts _ hl) ⟨y3.1, y3.2, y4⟩ ⟨?_, ?_⟩
    · rw [hRm]; exact hdd
    · rw [hRm]; show 8 + (n' + 11) + 64 * d' ≤ 64 * d; omega
  exact tx_afterP (va_runS ⟨hx, hb1, hml, hown, hts⟩ hM ⟨hcb, hts _ hI⟩ ⟨tvPre_blind, fun U hU hW => ⟨rfl, by rw [hU]; exact hP, hK.go hS hU hW⟩⟩ rfl hn (hL.1.trans hml) hst (lv_room hcat) hd ⟨by rw [hRm]; exact hkk, by rw [hRm]; exact hss⟩) hS hL hq kk
theorem tx_pI {q idx n' ar d' mc' ms' : Nat} {y : MethodName} {cc' : ByteArray} {As st0 : List Value} (C : tvC E own cc nL ret d mc ms tb) (hd : tvD cc pc (.invokespecial idx) 3 pc') (hl : Cond.methodLink own idx y ∈ tvGW) (hY : tvYk y cc' n' none ar) (hy : y.name = "<init>") (hI : Cond.instanceMethod y ∈ tvGW) (hR : tvRunX E.G y (tvWd y cc' n' none) d' mc' ms' X (.ref q :: As) M post) (hno : ∀ e X1 M1, ¬ post (.inr e) X1 M1) (hst : st0 = As.reverse ++ .ref q :: st) (hn : As.length = ar) (hcat : (st.map fun v => v.category).sum ≤ 8) (hdd : d' + 1 ≤ d) (hnn : n' ≤ 45) (hkk : k + mc' ≤ mc) (hss : sl + ms' ≤ ms)
    (kk : ∀ (v : Option Value) (X1 : va_W) (M1 : tvM), post (.inl v) X1 M1 → tv_W E (tvPX X1) (k + mc') (sl + ms') M1 pc' L (v.toList ++ st)) : tv_W E (tvPX X) k sl M pc L st0 := by
  obtain ⟨hd, rfl⟩ := hd
  obtain ⟨hx, hb1, hml, hown, hts, hK, hRm, hlk, hrt, htb⟩ := C
  obtain ⟨y1, y2, y3, y4, y5⟩ := hY
  intro H locs ls hP hS hL
  obtain ⟨Qc, hM, hq⟩ := hR.met hno
  have hcb : CallB E.R E.s E.args own idx y cc' n' none (tvWd y cc' n' none) (tvRm d' mc' ms') mc' ms' ar := by
    refine callB_of ar hts (tvWd_good y1) rfl rfl rfl (hts _ y2) (hts _ hl) ⟨y3.1, y3.2, y4⟩ ⟨?_, ?_⟩
    · rw [hRm]; exact hdd
    · rw [hRm]; show 8 + (n' + 11) + 64 * d' ≤ 64 * d; omega
  exact tx_afterP (va_runI ⟨hx, hb1, hml, hown, hts⟩ hM ⟨hcb, hy, hts _ hI⟩ ⟨tvPre_blind, fun U hU hW => ⟨rfl, by rw [hU]; exact hP, hK.go hS hU hW⟩⟩ rfl hn (hL.1.trans hml) hst (lv_room hcat) hd ⟨by rw [hRm]; exact hkk, by rw [hRm]; exact hss⟩) hS hL hq kk
/-- super.m(..) -/
theorem tx_pSU {q i ci idx n' ar d' mc' ms' N : Nat} {Cn : String} {y : MethodName} {cc' : ByteArray} {ret' : Option FieldType} {As st0 : List Value} {T : u_T} {fs : List Value} (C : tvC E own cc nL ret d mc ms tb) (hd : tvD cc pc (.invokespecial idx) 3 pc') (hl : Cond.methodLink own idx y ∈ tvGW) (hY : tvYk y cc' n' ret' ar) (hI : Cond.instanceMethod y ∈ tvGW) (hsa : Cond.sameMethod y.cls y.cls y.name y.desc ∈ tvGW) (hsu : Cond.superclass own y.cls ∈ tvGW) (hy : y.name ≠ "<init>") (hR : tvRunX E.G y (tvWd y cc' n' ret') d' mc' ms' X (.ref q :: As) M post) (hno : ∀ e X1 M1, ¬ post (.inr e) X1 M1) (hx : X[i]? = some (q, .inr (ci, fs))) (hc : tvCl[ci]? = some (Cn, T, N)) (hst : st0 = As.reverse ++ .ref q :: st) (hn : As.length = ar) (hcat : (st.map fun v => v.category).sum ≤ 8) (hdd : d' + 1 ≤ d) (hnn : n' ≤ 45) (hkk : k + mc' ≤ mc) (hss : sl + ms' ≤ ms)
    (kk : ∀ (v : Option Value) (X1 : va_W) (M1 : tvM), post (.inl v) X1 M1 → tv_W E (tvPX X1) (k + mc') (sl + ms') M1 pc' L (v.toList ++ st)) : tv_W E (tvPX X) k sl M pc L st0 := by
  obtain ⟨hd, rfl⟩ := hd
  obtain ⟨hx0, hb1, hml, hown, hts, hK, hRm, hlk, hrt, htb⟩ := C
  obtain ⟨y1, y2, y3, y4, y5⟩ := hY
  intro H locs ls hP hS hL
  obtain ⟨Qc, hM, hq⟩ := hR.met hno
  have hcb : va_CS E.R E.s E.args own idx y cc' n' ret' (tvWd y cc' n' ret') (tvRm d' mc' ms') mc' ms' ar := by
    refine ⟨⟨rfl, rfl, ?_, ?_, pay_in hts (tvWd_good y1), List.mem_cons_self⟩, hts _ hl, hts _ hsa, hts _ hsu, hts _ hI, hts _ y2, hts _ y1, hy, fun sig h => ?_⟩
    · rw [hRm]; exact hdd
    · rw [hRm]; show 8 + (n' + 11) + 64 * d' ≤ 64 * d; omega
    · rw [h] at y4
      exact (Option.some.inj y4).symm
  exact tx_afterP (va_runSU (hK.1.1 ci _ hc).2 ⟨hx0, hb1, hml, hown, hts⟩ hM hcb ⟨tvPre_blind, va_recv hK.1 hP.2.2.2.1 hc hx, fun U hU hW => ⟨rfl, by rw [hU]; exact hP, hK.go hS hU hW⟩⟩ rfl hn (hL.1.trans hml) hst (lv_room hcat) hd ⟨by rw [hRm]; exact hkk, by rw [hRm]; exact hss⟩) hS hL hq kk
/-- an overriding method -/
theorem tx_pO {q i ci idx n' n0 ar d' mc' ms' N : Nat} {Cn : String} {x y : MethodName} {cc' c0 : ByteArray} {ret' r0 : Option FieldType} {As st0 : List Value} {T : u_T} {fs : List Value} (C : tvC E own cc nL ret d mc ms tb) (hd : tvD cc pc (.invokevirtual idx) 3 pc') (hl : Cond.methodLink own idx x ∈ tvGW) (hY : tvYk y cc' n' ret' ar) (hX : tvYk x c0 n0 r0 ar) (hIx : Cond.instanceMethod ⟨x.cls, x.name, x.desc⟩ ∈ tvGW) (hIy : Cond.instanceMethod y ∈ tvGW) (hsa : Cond.sameMethod x.cls x.cls x.name x.desc ∈ tvGW) (hsel : Cond.selects Cn x y ∈ tvGW) (hR : tvRunX E.G y (tvWd y cc' n' ret') d' mc' ms' X (.ref q :: As) M post) (hno : ∀ e X1 M1, ¬ post (.inr e) X1 M1) (hx : X[i]? = some (q, .inr (ci, fs))) (hc : tvCl[ci]? = some (Cn, T, N)) (hst : st0 = As.reverse ++ .ref q :: st) (hn : As.length = ar) (hcat : (st.map fun v => v.category).sum ≤ 8) (hdd : d' + 1 ≤ d) (hnn : n' ≤ 45) (hkk : k + mc' ≤ mc) (hss : sl + ms' ≤ ms)
    (kk : ∀ (v : Option Value) (X1 : va_W) (M1 : tvM), post (.inl v) X1 M1 → tv_W E (tvPX X1) (k + mc') (sl + ms') M1 pc' L (v.toList ++ st)) : tv_W E (tvPX X) k sl M pc L st0 := by
  obtain ⟨hd, rfl⟩ := hd
  obtain ⟨hx0, hb1, hml, hown, hts, hK, hRm, hlk, hrt, htb⟩ := C
  obtain ⟨y1, y2, y3, y4, y5⟩ := hY
  obtain ⟨x1, x2, x3, x4, x5⟩ := hX
  intro H locs ls hP hS hL
  obtain ⟨Qc, hM, hq⟩ := hR.met hno
  have hcb : va_CU E.R E.s E.args own Cn x.cls idx x y cc' n' ret' (tvWd y cc' n' ret') (tvRm d' mc' ms') mc' ms' ar := by
    refine ⟨⟨rfl, rfl, ?_, ?_, pay_in hts (tvWd_good y1), List.mem_cons_self⟩, hts _ y1, hts _ y2, x3, fun sig h => ?_, hts _ hl, hts _ hsa, va_Decl.of (hts _ hIx) (hts _ x1), hts _ hsel, hts _ hIy⟩
    · rw [hRm]; exact hdd
    · rw [hRm]; show 8 + (n' + 11) + 64 * d' ≤ 64 * d; omega
    · rw [h] at x4
      exact (Option.some.inj x4).symm
  exact tx_afterP (va_runU ⟨hx0, hb1, hml, hown, hts⟩ hM hcb ⟨tvPre_blind, va_recv hK.1 hP.2.2.2.1 hc hx, fun U hU hW => ⟨rfl, by rw [hU]; exact hP, hK.go hS hU hW⟩⟩ rfl hn (hL.1.trans hml) hst (lv_room hcat) hd ⟨by rw [hRm]; exact hkk, by rw [hRm]; exact hss⟩) hS hL hq kk
theorem tv_ti {P : tvPh} {x v : Int32} (h : x = v) (kk : tv_W E P k sl M pc L (.int v :: st)) : tv_W E P k sl M pc L (.int x :: st) := by
  subst h
  exact kk
theorem tv_tl {P : tvPh} {x v : Int64} (h : x = v) (kk : tv_W E P k sl M pc L (.long v :: st)) : tv_W E P k sl M pc L (.long x :: st) := by
  subst h
  exact kk
theorem tv_null (C : tvC E own cc nL ret d mc ms tb) {P : tvPh} (hd : tvD cc pc .aconst_null 1 pc') (kk : tv_W E P k sl M pc' L (.null :: st)) : tv_W E P k sl M pc L st := by
  obtain ⟨hd, rfl⟩ := hd
  exact fun H locs ls hP hS hl => lv_null C.1 C.2.1 hd (kk H locs ls hP hS hl)
theorem tv_ifnonnull {P : tvPh} {x t : Nat} (C : tvC E own cc nL ret d mc ms tb) (hd : tvJ cc pc .ifnonnull t pc') (kt : tv_W E P k sl M t L st) : tv_W E P k sl M pc L (.ref x :: st) := by
  obtain ⟨off, hd, ht, rfl⟩ := hd
  exact fun H locs ls hP hS hl => lv_ifnonnull C.1 C.2.1 hd ht (kt H locs ls hP hS hl)
theorem tv_ineg {P : tvPh} {x : Int32} (C : tvC E own cc nL ret d mc ms tb) (hd : tvD cc pc .ineg 1 pc') (kk : tv_W E P k sl M pc' L (.int (-x) :: st)) : tv_W E P k sl M pc L (.int x :: st) := by
  obtain ⟨hd, rfl⟩ := hd
  exact fun H locs ls hP hS hl => lv_ineg C.1 C.2.1 hd (kk H locs ls hP hS hl)
theorem tv_ishl {P : tvPh} {x y : Int32} (C : tvC E own cc nL ret d mc ms tb) (hd : tvD cc pc .ishl 1 pc') (kk : tv_W E P k sl M pc' L (.int (x <<< (y &&& 31)) :: st)) : tv_W E P k sl M pc L (.int y :: .int x :: st) := by
  obtain ⟨hd, rfl⟩ := hd
  exact fun H locs ls hP hS hl => lv_ishl C.1 C.2.1 hd (kk H locs ls hP hS hl)
end TXB
