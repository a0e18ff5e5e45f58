/-! ===== methods with a table of their own; the law's own rows; further cells ===== -/
def tvWdW (y : MethodName) (cc : ByteArray) (n : Nat) (ret : Option FieldType) (hh : List (Nat × Nat × Nat × Nat)) : List Cond := .codeWith y cc n ret hh :: tvGW
/-- the contract of a method with a table of its own -/
def tvRunW (G : tvG) (y : MethodName) (cc : ByteArray) (n : Nat) (ret : Option FieldType) (hh : List (Nat × Nat × Nat × Nat)) (d mc ms : Nat) (P P1 : tvPh) (args : List Value) (M : tvM) (o : tvO) (M1 : tvM) : Prop :=
  vx_Met G.1 y (tvWdW y cc n ret hh) (tvRm d mc ms) (va_Pc args (tvPre G P M)) (tvQc G P1 M1 o) (tvXC G P1 M1 o) mc ms (tvA G)
def tvYw (y : MethodName) (cc : ByteArray) (n : Nat) (ret : Option FieldType) (hh : List (Nat × Nat × Nat × Nat)) (ar : Nat) : Prop := Cond.codeWith y cc n ret hh ∈ tvGW ∧ Cond.initialized y.cls ∈ tvGW ∧ (y.cls ≠ "java/lang/invoke/MethodHandle" ∧ y.cls ≠ "java/lang/invoke/VarHandle") ∧ (parseMethodDescriptor y.desc).map (fun d => d.parameters.length) = some ar ∧ plainName y.cls = true
theorem tvWdW_good {y : MethodName} {cc : ByteArray} {n : Nat} {ret : Option FieldType} {hh : List (Nat × Nat × Nat × Nat)} (h : Cond.codeWith y cc n ret hh ∈ tvGW) : GoodIn tvGW (tvWdW y cc n ret hh) := by
  intro w hw
  rcases List.mem_cons.mp hw with rfl | hw
  · exact ⟨h, tvGood h⟩
  · exact ⟨hw, tvGood hw⟩
theorem tvRunW.of {G : tvG} {y : MethodName} {cc : ByteArray} {n : Nat} {ret : Option FieldType} {hh : List (Nat × Nat × Nat × Nat)} {d mc ms ar : Nat} {P P1 : tvPh} {args : List Value} {M M1 : tvM} {o : tvO} {own : String} (hY : tvYw y cc n ret hh ar) (hown : y.cls = own) (L0 : List (Option Value)) (hL : tvEl 0 L0 = lv_args 0 args) (hln : (lg_sl args).length ≤ n)
    (body : ∀ E : tvE, E.G = G → tvC E own cc n ret d mc ms (tableOf hh) → tvEnd E P1 M1 o mc ms → tv_W E P 0 0 M 0 L0 []) : tvRunW G y cc n ret hh d mc ms P P1 args M o M1 := by
  subst hown
  refine vx_ofWH (cc := cc) (maxL := n) (ret := ret) (hh := hh) hY.2.2.2.2 rfl ?_
  intro p e s m args' below meth c s₁ B hml hv
  obtain ⟨rfl, hP, hK⟩ := hv
  have hts := atoms_spec (ws := tvWdW y cc n ret hh) B.pre
  have hown : s.vm.findClass y.cls = some m.cls := findClass_of_methodNamed B.named
  have htb : c.exceptionTable.toList = tableOf hh := vx_table (x := y) B (hts _ List.mem_cons_self)
  have key := body ((p, e, tvRm d mc ms, s, m, args.toArray, below, meth, c), G, vx_MQ below (tvQc G P1 M1 o) (tvXC G P1 M1 o) args.toArray s mc ms (tvA G)) rfl
    ⟨B.exec, B.bytes, hml, hown, fun w hw => hts w (List.mem_cons_of_mem _ hw), hK, rfl, B.notSynchronized, B.returns, htb⟩ rfl
  have hl := lv_entry args (n := n) hln
  rw [lg_entry_eq]
  refine key s.heap [] _ hP va_S.rf ?_
  show lv_has _ c.maxLocals (tvEl 0 L0)
  rw [hL, hml]
  exact hl
theorem tvK.nc {G : tvG} {U : State} {H : Heap} (h : tvK G U H) : tvNcE U := h.2.2.2.2.2.2.2.2.2.2.2.2.2.2
theorem tvK.law {G : tvG} {U : State} {H : Heap} (h : tvK G U H) : vk_S 6 tvLenL tvBytL (fun j => G.2.2.2.2.1 (27 + j)) (fun j => G.2.2.2.2.2.1 (27 + j)) (tvA G) U H := h.2.2.2.2.2.2.2.2.2.2.2.2.2.1
theorem tvK.dig {G : tvG} {U : State} {H : Heap} (h : tvK G U H) : tvDg "DigitOnes" (fun j => nI (48 + j % 10)) (tvA G) U H ∧ tvDg "DigitTens" (fun j => nI (48 + j / 10)) (tvA G) U H := h.2.2.2.2.2.2.2.2.2.2.2.2.1
theorem tvK.scr {G : tvG} {U : State} {H : Heap} (h : tvK G U H) : va_X G.sb G.sl G.sx U H ∧ G.sb < H.size ∧ ¬ tvA G G.sb ∧ G.sl ≤ 260 := h.2.2.2.2.2.2.2.2.2.2.2.1
theorem tvA_up {G : tvG} {w : Nat} (h : G.w ≤ w) (q : Nat) (hq : tvA (G.up w) q) : tvA G q := by
  obtain ⟨h1, h2⟩ := hq
  refine ⟨h1, h2.elim Or.inl (fun h3 => Or.inr (Nat.le_trans h h3))⟩
/-- .. with a higher bound -/
theorem tvK.up {G : tvG} {U : State} {H : Heap} {w : Nat} (h : tvK G U H) (h1 : G.w ≤ w) (h2 : w ≤ H.size) : tvK (G.up w) U H := by
  obtain ⟨k1, k2, k3, k4, k5, k6, k7, k8, k9, k10, k11, ⟨k12, k13, k14, k15⟩, k16, k18, k17⟩ := h
  have a := tvA_up (G := G) h1
  exact ⟨k1, k2, k3, k4.narrow a, k5.narrow a, k6.narrow a, ⟨k7.1, h2⟩, k8, k9.narrow a, k10.narrow a, k11, ⟨k12, k13, fun q => k14 (a _ q), k15⟩, ⟨k16.1.narrow a, k16.2.narrow a⟩, k18.narrow a, k17⟩
abbrev tvPX (X : va_W) : tvPh := (249, tvRho, False, X)
theorem tvP_nil {G : tvG} {X : va_W} {M : tvM} {H : Heap} {w : Nat} (h : tvP G (tvPX X) M H) : tvP (G.up w) tvP0 M H := ⟨h.1, fun q => q.elim, Nat.le_refl _, tvXc_nil _ _⟩
/-- fewer further cells -/
theorem tvP_sub {G : tvG} {X X1 : va_W} {M : tvM} {H : Heap} (h : tvP G (tvPX X) M H) (g : Nat → Nat) (hg : ∀ (k : Nat) (q : Nat × va_E), X1[k]? = some q → X[g k]? = some q) (hi : ∀ i j : Nat, i < X1.length → j < X1.length → g i = g j → i = j) : tvP G (tvPX X1) M H := ⟨h.1, fun q => q.elim, Nat.le_refl _, h.2.2.2.1.by g hg, h.2.2.2.2.by g hg hi⟩
theorem tvP_0 {G : tvG} {X : va_W} {M : tvM} {H : Heap} (h : tvP G (tvPX X) M H) : tvP G tvP0 M H := ⟨h.1, fun q => q.elim, Nat.le_refl _, tvXc_nil _ _⟩
/-- behind a call that had no further cells: the caller's are as they were -/
theorem tvX_join {G : tvG} {X X1 : va_W} {M M1 : tvM} {H H1 : Heap} (hP : tvP G (tvPX X) M H) (hw : G.w ≤ H.size) (hF : ∀ q, q < H.size → ¬ tvA (G.up H.size) q → H1[q]? = H[q]?) (hP1 : tvP (G.up H.size) (tvPX X1) M1 H1) : tvP G (tvPX (X ++ X1)) M1 H1 := by
  have hX := hP.2.2.2
  have hX1 := hP1.2.2.2
  have lt : ∀ (k : Nat) (q : Nat × va_E), X[k]? = some q → q.1 < H.size := fun k q hk => (hX.1 k q hk).lt
  have ge : ∀ (k : Nat) (q : Nat × va_E), X1[k]? = some q → G.2.1 + 249 ≤ q.1 ∧ H.size ≤ q.1 := fun k q hk => hX1.2.2 k q hk
  refine ⟨hP1.1, fun q => q.elim, Nat.le_refl _, ?_, ?_⟩
  · refine va_P.app (hX.1.kept fun k q hk => ?_) hX1.1
    refine hF _ (lt k q hk) (fun h => ?_)
    have h1 := (hX.2.2 k q hk).1
    have h2 := lt k q hk
    rcases h.2 with h3 | h3
    · have h4 : q.1 < G.2.1 + 249 := h3
      omega
    · have h4 : H.size ≤ q.1 := h3
      omega
  · refine va_D.app hX.2 (hX1.2.weaken fun k q hk h => ⟨h.1, ?_⟩) (fun i j p q hp hq e => ?_)
    · have h1 := (ge k q hk).2
      show G.w ≤ q.1
      omega
    · have h1 := lt i p hp
      have h2 := (ge j q hq).2
      omega
/-- a contract whose end is told by a relation: the outcome, the further cells, the memory -/
def tvRunX (G : tvG) (y : MethodName) (ws : List Cond) (d mc ms : Nat) (X : va_W) (args : List Value) (M : tvM) (post : tvO → va_W → tvM → Prop) : Prop :=
  ∃ (Qc : Array Value → State → Outcome → State → Prop) (XC : String → State → State → Prop), vx_Met G.1 y ws (tvRm d mc ms) (va_Pc args (tvPre G (tvPX X) M)) Qc XC mc ms (tvA G) ∧
    (∀ a st v t, Qc a st (.returned v) t → ∃ (X1 : va_W) (M1 : tvM), post (.inl v) X1 M1 ∧ tvP G (tvPX X1) M1 t.heap ∧ va_F (tvA G) st t) ∧
    (∀ e st t, XC e st t → ∃ (X1 : va_W) (M1 : tvM), post (.inr e) X1 M1 ∧ tvP G (tvPX X1) M1 t.heap ∧ va_F (tvA G) st t)
def tvIs (o : tvO) (M : tvM) : tvO → va_W → tvM → Prop := fun o' X' M' => o' = o ∧ X' = [] ∧ M' = M
theorem tvRun.x {G : tvG} {y : MethodName} {cc : ByteArray} {n : Nat} {ret : Option FieldType} {d mc ms : Nat} {args : List Value} {M : tvM} {o : tvO} {M1 : tvM} (h : tvRun G y cc n ret d mc ms tvP0 tvP0 args M o M1) : tvRunX G y (tvWd y cc n ret) d mc ms [] args M (tvIs o M1) :=
  ⟨_, _, h, fun a st v t ⟨v', h1, h2, h3, h4⟩ => ⟨[], M1, ⟨by cases h2; exact h1.symm, rfl, rfl⟩, h3, h4⟩, fun e st t ⟨h1, h3, h4⟩ => ⟨[], M1, ⟨h1.symm, rfl, rfl⟩, h3, h4⟩⟩
theorem tvRunW.x {G : tvG} {y : MethodName} {cc : ByteArray} {n : Nat} {ret : Option FieldType} {hh : List (Nat × Nat × Nat × Nat)} {d mc ms : Nat} {args : List Value} {M : tvM} {o : tvO} {M1 : tvM} (h : tvRunW G y cc n ret hh d mc ms tvP0 tvP0 args M o M1) : tvRunX G y (tvWdW y cc n ret hh) d mc ms [] args M (tvIs o M1) :=
  ⟨_, _, h, fun a st v t ⟨v', h1, h2, h3, h4⟩ => ⟨[], M1, ⟨by cases h2; exact h1.symm, rfl, rfl⟩, h3, h4⟩, fun e st t ⟨h1, h3, h4⟩ => ⟨[], M1, ⟨h1.symm, rfl, rfl⟩, h3, h4⟩⟩
/-- .. its body, for methods without a table -/
def tvEndX (E : tvE) (post : tvO → va_W → tvM → Prop) (mc ms : Nat) : Prop := E.2.2 = vx_MQ E.below (fun _ st oc t => ∃ (v : Option Value) (X1 : va_W) (M1 : tvM), post (.inl v) X1 M1 ∧ oc = .returned v ∧ tvP E.G (tvPX X1) M1 t.heap ∧ va_F (tvA E.G) st t) (fun e st t => ∃ (X1 : va_W) (M1 : tvM), post (.inr e) X1 M1 ∧ tvP E.G (tvPX X1) M1 t.heap ∧ va_F (tvA E.G) st t) E.args E.s mc ms (tvA E.G)
theorem tvRunX.of {G : tvG} {y : MethodName} {cc : ByteArray} {n : Nat} {ret : Option FieldType} {d mc ms ar : Nat} {X : va_W} {args : List Value} {M : tvM} {post : tvO → va_W → tvM → Prop} {own : String} (hY : tvYk y cc n ret ar) (hown : y.cls = own) (L0 : List (Option Value)) (hL : tvEl 0 L0 = lv_args 0 args) (hln : (lg_sl args).length ≤ n)
    (body : ∀ E : tvE, E.G = G → tvC E own cc n ret d mc ms [] → E.meth.name = y.name → tvEndX E post mc ms → tv_W E (tvPX X) 0 0 M 0 L0 []) : tvRunX G y (tvWd y cc n ret) d mc ms X args M post := by
  subst hown
  refine ⟨fun _ st oc t => ∃ (v : Option Value) (X1 : va_W) (M1 : tvM), post (.inl v) X1 M1 ∧ oc = .returned v ∧ tvP G (tvPX X1) M1 t.heap ∧ va_F (tvA G) st t, fun e st t => ∃ (X1 : va_W) (M1 : tvM), post (.inr e) X1 M1 ∧ tvP G (tvPX X1) M1 t.heap ∧ va_F (tvA G) st t, ?_, fun a st v t ⟨v', X1, M1, h1, h2, h3⟩ => ⟨X1, M1, by cases h2; exact h1, h3⟩, fun e st t h => h⟩
  refine tv_ofW (cc := cc) (maxL := n) (ret := ret) hY.2.2.2.2 rfl ?_
  intro p e s m args' below meth c s₁ B hml htb hv
  obtain ⟨rfl, hP, hK⟩ := hv
  have hts := atoms_spec (ws := tvWd y cc n ret) B.pre
  have hown : s.vm.findClass y.cls = some m.cls := findClass_of_methodNamed B.named
  have htb' : c.exceptionTable.toList = [] := by
    cases h : c.exceptionTable.toList with
    | nil => rfl
    | cons x r => exact (htb x (by rw [h]; exact List.mem_cons_self)).elim
  have key := body ((p, e, tvRm d mc ms, s, m, args.toArray, below, meth, c), G, vx_MQ below (fun _ st oc t => ∃ (v : Option Value) (X1 : va_W) (M1 : tvM), post (.inl v) X1 M1 ∧ oc = .returned v ∧ tvP G (tvPX X1) M1 t.heap ∧ va_F (tvA G) st t) (fun e st t => ∃ (X1 : va_W) (M1 : tvM), post (.inr e) X1 M1 ∧ tvP G (tvPX X1) M1 t.heap ∧ va_F (tvA G) st t) args.toArray s mc ms (tvA G)) rfl
    ⟨B.exec, B.bytes, hml, hown, fun w hw => hts w (List.mem_cons_of_mem _ hw), hK, rfl, B.notSynchronized, B.returns, htb'⟩ (name_of_methodNamed B.named B.method).1 rfl
  have hl := lv_entry args (n := n) hln
  rw [lg_entry_eq]
  refine key s.heap [] _ hP va_S.rf ?_
  show lv_has _ c.maxLocals (tvEl 0 L0)
  rw [hL, hml]
  exact hl
section TXL
variable {E : tvE} {X : va_W} {P P1 : tvPh} {k sl d mc ms nL pc pc' : Nat} {M M1 : tvM} {L : List (Option Value)} {st : List Value} {own : String} {cc : ByteArray} {ret : Option FieldType} {tb : List ExceptionTableEntry} {o : tvO} {post : tvO → va_W → tvM → Prop}
/-- ends -/
theorem tx_iret {v : Int32} {ty : FieldType} (C : tvC E own cc nL (some ty) d mc ms tb) (hQ : tvEndX E post mc ms) (hd : tvD cc pc .ireturn 1 pc') (hn : narrow ty (.int v) = .int v) (ho : post (.inl (some (.int v))) X M) (hk : k ≤ mc) (hs : sl ≤ ms) : tv_W E (tvPX X) k sl M pc L [.int v] := by
  intro H locs ls hP hS hl
  show W _ _ _ _ _ _ _ _ _ _ _ _ _ _ E.2.2 _
  rw [show E.2.2 = _ from hQ]
  exact W.widen hk hs (vx_ret (W.zret C.1 C.2.1 C.2.2.2.2.2.2.2.2.1 hn (fun t ht hW => ⟨_, X, M, ho, rfl, by rw [ht]; exact hP, hS.F ht⟩) hS.2.2 hd.1 C.2.2.2.2.2.2.2.1))
theorem tx_vret (C : tvC E own cc nL none d mc ms tb) (hQ : tvEndX E post mc ms) (hd : tvD cc pc .return_ 1 pc') (ho : post (.inl none) X M) (hk : k ≤ mc) (hs : sl ≤ ms) : tv_W E (tvPX X) k sl M pc L [] := by
  intro H locs ls hP hS hl
  show W _ _ _ _ _ _ _ _ _ _ _ _ _ _ E.2.2 _
  rw [show E.2.2 = _ from hQ]
  exact W.widen hk hs (vx_ret (W.vret C.1 C.2.1 C.2.2.2.2.2.2.2.2.1 (fun t ht hW => ⟨_, X, M, ho, rfl, by rw [ht]; exact hP, hS.F ht⟩) hS.2.2 hd.1 C.2.2.2.2.2.2.2.1))
theorem tx_aret {v : Nat} {ty : FieldType} (C : tvC E own cc nL (some ty) d mc ms tb) (hty : (∃ c, ty = .object c) ∨ ∃ t, ty = .array t) (hQ : tvEndX E post mc ms) (hd : tvD cc pc .areturn 1 pc') (ho : post (.inl (some (.ref v))) X M) (hk : k ≤ mc) (hs : sl ≤ ms) : tv_W E (tvPX X) k sl M pc L [.ref v] := by
  intro H locs ls hP hS hl
  show W _ _ _ _ _ _ _ _ _ _ _ _ _ _ E.2.2 _
  rw [show E.2.2 = _ from hQ]
  exact W.widen hk hs (vx_ret (W.aret C.1 C.2.1 C.2.2.2.2.2.2.2.2.1 hty (Or.inr ⟨_, rfl⟩) (fun t ht hW => ⟨_, X, M, ho, rfl, by rw [ht]; exact hP, hS.F ht⟩) hS.2.2 hd.1 C.2.2.2.2.2.2.2.1))
theorem tv_widen {k' sl' : Nat} (hk : k ≤ k') (hs : sl ≤ sl') (kk : tv_W E P k' sl' M pc L st) : tv_W E P k sl M pc L st := fun H locs ls hP hS hl => W.widen hk hs (kk H locs ls hP hS hl)
/-- further cells forgotten -/
theorem tx_drop0 (kk : tv_W E tvP0 k sl M pc L st) : tv_W E (tvPX X) k sl M pc L st := fun H locs ls hP hS hl => kk H locs ls (tvP_0 hP) hS hl
theorem tx_sub {X1 : va_W} (g : Nat → Nat) (hg : ∀ (k : Nat) (q : Nat × va_E), X1[k]? = some q → X[g k]? = some q) (hi : ∀ i j : Nat, i < X1.length → j < X1.length → g i = g j → i = j) (kk : tv_W E (tvPX X1) k sl M pc L st) : tv_W E (tvPX X) k sl M pc L st := fun H locs ls hP hS hl => kk H locs ls (tvP_sub hP g hg hi) hS hl
/-- behind a call under a higher bound -/
theorem tx_after {a : Array Value} {st0 : List Value} {mc' ms' : Nat} {H : Heap} {locs : List Loc} {ls : Array Slot} {Qc : Array Value → State → Outcome → State → Prop} {XC : String → State → State → Prop} (hr : vx_Run E.1.1 E.2.1.1 E.1.2.1 E.R E.s E.m E.args E.below E.meth E.c H locs k sl mc' ms' (F0 E.m pc ls st0) st (Qc a) XC (tvA (E.G.up H.size))) (hw : E.G.w ≤ H.size) (hP : tvP E.G (tvPX X) M H) (hS : va_S (tvA E.G) E.s.heap H locs) (hl : tvLok L E.c.maxLocals ls)
    (hq : ∀ a st v t, Qc a st (.returned v) t → ∃ (X1 : va_W) (M1 : tvM), post (.inl v) X1 M1 ∧ tvP (E.G.up H.size) (tvPX X1) M1 t.heap ∧ va_F (tvA (E.G.up H.size)) st t) (hx : ∀ e st t, XC e st t → ∃ (X1 : va_W) (M1 : tvM), post (.inr e) X1 M1 ∧ tvP (E.G.up H.size) (tvPX X1) M1 t.heap ∧ va_F (tvA (E.G.up H.size)) st t)
    (kk : ∀ (v : Option Value) (X1 : va_W) (M1 : tvM), post (.inl v) X1 M1 → tv_W E (tvPX (X ++ X1)) (k + mc') (sl + ms') M1 (pc + 3) L (v.toList ++ st)) (kx : ∀ (e : String) (X1 : va_W) (M1 : tvM), post (.inr e) X1 M1 → tv_X E (tvPX (X ++ X1)) (k + mc') (sl + ms') M1 pc L st e) : tvw E H locs k sl (F0 E.m pc ls st0) := by
  intro T hT Y
  have hA := tvA_up (G := E.G) hw
  rcases hr T hT Y with ⟨v, st₀, t, T', L1, h0, Y', hL, e1, e2, hq1, hst⟩ | ⟨q, st₀, t, T', L1, e, ce, h0, Y', hL, e1, e2, hx1, hce, hcv, hcl, hst⟩
  · obtain ⟨X1, M1, h1, h2, hF⟩ := hq _ _ _ _ hq1
    obtain ⟨k1, k2, k3⟩ := vx_keep h0 e1 hS (fun q _ h => hA q h) (fun q h => hA q h) hL hF
    have hP1 := tvX_join hP hw (fun q h3 h4 => by rw [← h0]; exact hF.2 q (by rw [h0]; exact h3) h4) h2
    obtain ⟨t2, a1, b1⟩ := kk v X1 M1 h1 T'.heap (locs ++ L1) ls (by rw [e1]; exact hP1) k3 hl T' rfl Y'
    exact ⟨t2, hst t2 a1, b1⟩
  · obtain ⟨X1, M1, h1, h2, hF⟩ := hx _ _ _ hx1
    obtain ⟨k1, k2, k3⟩ := vx_keep h0 e1 hS (fun q _ h => hA q h) (fun q h => hA q h) hL hF
    have hP1 := tvX_join hP hw (fun q h3 h4 => by rw [← h0]; exact hF.2 q (by rw [h0]; exact h3) h4) h2
    obtain ⟨t2, a1, b1⟩ := kx e X1 M1 h1 T'.heap (locs ++ L1) ls q ce (by rw [e1]; exact hP1) k3 hl (by rw [e1]; exact hce) hcv hcl T' rfl Y'
    exact ⟨t2, hst.trans a1, b1⟩
/-- a call of a method of the class -/
theorem tx_callV {b ci idx n' ar d' mc' ms' N : Nat} {y : MethodName} {cc' : ByteArray} {ret' : Option FieldType} {As st0 : List Value} {T : u_T} (C : tvC E own cc nL ret d mc ms tb) (hd : tvD cc pc (.invokevirtual idx) 3 pc') (hl : Cond.methodLink own idx y ∈ tvGW) (hY : tvYk y cc' n' ret' ar) (hI : tvYi y) (hR : ∀ w, tvRunX (E.G.up w) y (tvWd y cc' n' ret') d' mc' ms' [] (.ref (E.G.2.1 + b) :: As) M post) (hb : b < 249) (hs : tvSh b = (0, ci)) (hc : tvCl[ci]? = some (y.cls, T, N)) (hst : st0 = As.reverse ++ .ref (E.G.2.1 + b) :: st) (hn : As.length = ar) (hcat : (st.map fun v => v.category).sum ≤ 8) (hdd : d' + 1 ≤ d) (hnn : n' ≤ 45) (hkk : k + mc' ≤ mc) (hss : sl + ms' ≤ ms)
    (kk : ∀ (v : Option Value) (X1 : va_W) (M1 : tvM), post (.inl v) X1 M1 → tv_W E (tvPX (X ++ X1)) (k + mc') (sl + ms') M1 pc' L (v.toList ++ st)) (kx : ∀ (e : String) (X1 : va_W) (M1 : tvM), post (.inr e) X1 M1 → tv_X E (tvPX (X ++ X1)) (k + mc') (sl + ms') M1 pc L st e) : tv_W E (tvPX X) k sl M pc L st0 := by
  obtain ⟨hd, rfl⟩ := hd
  obtain ⟨hx, hb1, hml, hown, hts, hK, hRm, hlk, hrt, htb⟩ := C
  obtain ⟨y1, y2, y3, y4, y5⟩ := hY
  intro H locs ls hP hS hL
  have hw : E.G.w ≤ H.size := Nat.le_trans hK.2.2.2.2.2.2.1.2 hS.1
  obtain ⟨Qc, XC, hM, hq, hxx⟩ := hR H.size
  have he := tvWs_get E.G (tvPX X) M hb
  rw [hs] at he
  have hcb : CallW E.R E.s E.args own y.cls idx y cc' n' ret' (tvWd y cc' n' ret') (tvRm d' mc' ms') mc' ms' ar := by
    refine ⟨callB_of ar hts (tvWd_good y1) rfl rfl rfl (hts _ y2) (hts _ hl) ⟨y3.1, y3.2, y4⟩ ⟨?_, ?_⟩, hts _ hI.1, hts _ hI.2⟩
    · rw [hRm]; exact hdd
    · rw [hRm]; show 8 + (n' + 11) + 64 * d' ≤ 64 * d; omega
  refine tx_after (vx_runV ⟨hx, hb1, hml, hown, hts⟩ hM hcb ⟨tvPre_blind, va_recv hK.1 hP.1 hc he, fun U hU hW => ⟨rfl, by rw [hU]; exact tvP_nil hP, (hK.go hS hU hW).up (by rw [hU] at *; exact hw) (by rw [hU]; exact Nat.le_refl _)⟩⟩ rfl hn (hL.1.trans hml) hst (lv_room hcat) hd ⟨by rw [hRm]; exact hkk, by rw [hRm]; exact hss⟩) hw hP hS hL hq hxx kk kx
/-- a static call -/
theorem tx_callS {idx n' ar d' mc' ms' : Nat} {y : MethodName} {cc' : ByteArray} {ret' : Option FieldType} {As st0 : List Value} (C : tvC E own cc nL ret d mc ms tb) (hd : tvD cc pc (.invokestatic idx) 3 pc') (hl : Cond.methodLink own idx y ∈ tvGW) (hY : tvYk y cc' n' ret' ar) (hI : Cond.static y ∈ tvGW) (hR : ∀ w, tvRunX (E.G.up w) y (tvWd y cc' n' ret') d' mc' ms' [] As M post) (hst : st0 = As.reverse ++ st) (hn : As.length = ar) (hcat : (st.map fun v => v.category).sum ≤ 8) (hdd : d' + 1 ≤ d) (hnn : n' ≤ 45) (hkk : k + mc' ≤ mc) (hss : sl + ms' ≤ ms)
    (kk : ∀ (v : Option Value) (X1 : va_W) (M1 : tvM), post (.inl v) X1 M1 → tv_W E (tvPX (X ++ X1)) (k + mc') (sl + ms') M1 pc' L (v.toList ++ st)) (kx : ∀ (e : String) (X1 : va_W) (M1 : tvM), post (.inr e) X1 M1 → tv_X E (tvPX (X ++ X1)) (k + mc') (sl + ms') M1 pc L st e) : tv_W E (tvPX X) k sl M pc L st0 := by
  obtain ⟨hd, rfl⟩ := hd
  obtain ⟨hx, hb1, hml, hown, hts, hK, hRm, hlk, hrt, htb⟩ := C
  obtain ⟨y1, y2, y3, y4, y5⟩ := hY
  intro H locs ls hP hS hL
  have hw : E.G.w ≤ H.size := Nat.le_trans hK.2.2.2.2.2.2.1.2 hS.1
  obtain ⟨Qc, XC, hM, hq, hxx⟩ := hR H.size
  have hcb : CallB E.R E.s E.args own idx y cc' n' ret' (tvWd y cc' n' ret') (tvRm d' mc' ms') mc' ms' ar := by
    refine callB_of ar hts (tvWd_good y1) rfl rfl rfl (hts _ y2) (hts _ hl) ⟨y3.1, y3.2, y4⟩ ⟨?_, ?_⟩
    · rw [hRm]; exact hdd
    · rw [hRm]; show 8 + (n' + 11) + 64 * d' ≤ 64 * d; omega
  refine tx_after (vx_runS ⟨hx, hb1, hml, hown, hts⟩ hM ⟨hcb, hts _ hI⟩ ⟨tvPre_blind, fun U hU hW => ⟨rfl, by rw [hU]; exact tvP_nil hP, (hK.go hS hU hW).up (by rw [hU] at *; exact hw) (by rw [hU]; exact Nat.le_refl _)⟩⟩ rfl hn (hL.1.trans hml) hst (lv_room hcat) hd ⟨by rw [hRm]; exact hkk, by rw [hRm]; exact hss⟩) hw hP hS hL hq hxx kk kx
/-- .. of a method with a table of its own -/
theorem tx_callSW {idx n' ar d' mc' ms' : Nat} {y : MethodName} {cc' : ByteArray} {ret' : Option FieldType} {hh' : List (Nat × Nat × Nat × Nat)} {As st0 : List Value} (C : tvC E own cc nL ret d mc ms tb) (hd : tvD cc pc (.invokestatic idx) 3 pc') (hl : Cond.methodLink own idx y ∈ tvGW) (hY : tvYw y cc' n' ret' hh' ar) (hI : Cond.static y ∈ tvGW) (hR : ∀ w, tvRunX (E.G.up w) y (tvWdW y cc' n' ret' hh') d' mc' ms' [] As M post) (hst : st0 = As.reverse ++ st) (hn : As.length = ar) (hcat : (st.map fun v => v.category).sum ≤ 8) (hdd : d' + 1 ≤ d) (hnn : n' ≤ 45) (hkk : k + mc' ≤ mc) (hss : sl + ms' ≤ ms)
    (kk : ∀ (v : Option Value) (X1 : va_W) (M1 : tvM), post (.inl v) X1 M1 → tv_W E (tvPX (X ++ X1)) (k + mc') (sl + ms') M1 pc' L (v.toList ++ st)) (kx : ∀ (e : String) (X1 : va_W) (M1 : tvM), post (.inr e) X1 M1 → tv_X E (tvPX (X ++ X1)) (k + mc') (sl + ms') M1 pc L st e) : tv_W E (tvPX X) k sl M pc L st0 := by
  obtain ⟨hd, rfl⟩ := hd
  obtain ⟨hx, hb1, hml, hown, hts, hK, hRm, hlk, hrt, htb⟩ := C
  obtain ⟨y1, y2, y3, y4, y5⟩ := hY
  intro H locs ls hP hS hL
  have hw : E.G.w ≤ H.size := Nat.le_trans hK.2.2.2.2.2.2.1.2 hS.1
  obtain ⟨Qc, XC, hM, hq, hxx⟩ := hR H.size
  have hcb : vx_CSW E.R E.s E.args own idx y cc' n' ret' hh' (tvWdW y cc' n' ret' hh') (tvRm d' mc' ms') mc' ms' ar := by
    refine ⟨⟨rfl, rfl, ?_, ?_, pay_in hts (tvWdW_good y1), List.mem_cons_self⟩, hts _ y1, hts _ y2, y3, fun sig h => ?_, hts _ hl, hts _ hI⟩
    · rw [hRm]; exact hdd
    · rw [hRm]; show 8 + (n' + 11) + 64 * d' ≤ 64 * d; omega
    · rw [h] at y4
      exact (Option.some.inj y4).symm
  refine tx_after (vx_runSX ⟨hx, hb1, hml, hown, hts⟩ hM hcb ⟨tvPre_blind, fun U hU hW => ⟨rfl, by rw [hU]; exact tvP_nil hP, (hK.go hS hU hW).up (by rw [hU] at *; exact hw) (by rw [hU]; exact Nat.le_refl _)⟩⟩ rfl hn (hL.1.trans hml) hst (lv_room hcat) hd ⟨by rw [hRm]; exact hkk, by rw [hRm]; exact hss⟩) hw hP hS hL hq hxx kk kx
/-- calls that answer one value -/
theorem tx_cV {b ci idx n' ar d' mc' ms' N : Nat} {y : MethodName} {cc' : ByteArray} {ret' : Option FieldType} {As st0 : List Value} {T : u_T} {v : Option Value} (C : tvC E own cc nL ret d mc ms tb) (hd : tvD cc pc (.invokevirtual idx) 3 pc') (hl : Cond.methodLink own idx y ∈ tvGW) (hY : tvYk y cc' n' ret' ar) (hI : tvYi y) (hR : ∀ w, tvRun (E.G.up w) y cc' n' ret' d' mc' ms' tvP0 tvP0 (.ref (E.G.2.1 + b) :: As) M (.inl v) M1) (hb : b < 249) (hs : tvSh b = (0, ci)) (hc : tvCl[ci]? = some (y.cls, T, N)) (hst : st0 = As.reverse ++ .ref (E.G.2.1 + b) :: st) (hn : As.length = ar) (hcat : (st.map fun v => v.category).sum ≤ 8) (hdd : d' + 1 ≤ d) (hnn : n' ≤ 45) (hkk : k + mc' ≤ mc) (hss : sl + ms' ≤ ms)
    {k' sl' : Nat} (hk' : k + mc' = k') (hs' : sl + ms' = sl') {st1 : List Value} (h1 : v.toList ++ st = st1) (kk : tv_W E (tvPX X) k' sl' M1 pc' L st1) : tv_W E (tvPX X) k sl M pc L st0 := by
  subst hk' hs' h1
  refine tx_callV C hd hl hY hI (fun w => (hR w).x) hb hs hc hst hn hcat hdd hnn hkk hss (fun v' X1 M1 h => ?_) (fun e X1 M1 h => by cases h.1)
  obtain ⟨h1, rfl, rfl⟩ := h
  cases h1
  rw [List.append_nil]
  exact kk
theorem tx_cS {idx n' ar d' mc' ms' : Nat} {y : MethodName} {cc' : ByteArray} {ret' : Option FieldType} {As st0 : List Value} {v : Option Value} (C : tvC E own cc nL ret d mc ms tb) (hd : tvD cc pc (.invokestatic idx) 3 pc') (hl : Cond.methodLink own idx y ∈ tvGW) (hY : tvYk y cc' n' ret' ar) (hI : Cond.static y ∈ tvGW) (hR : ∀ w, tvRun (E.G.up w) y cc' n' ret' d' mc' ms' tvP0 tvP0 As M (.inl v) M1) (hst : st0 = As.reverse ++ st) (hn : As.length = ar) (hcat : (st.map fun v => v.category).sum ≤ 8) (hdd : d' + 1 ≤ d) (hnn : n' ≤ 45) (hkk : k + mc' ≤ mc) (hss : sl + ms' ≤ ms)
    {k' sl' : Nat} (hk' : k + mc' = k') (hs' : sl + ms' = sl') {st1 : List Value} (h1 : v.toList ++ st = st1) (kk : tv_W E (tvPX X) k' sl' M1 pc' L st1) : tv_W E (tvPX X) k sl M pc L st0 := by
  subst hk' hs' h1
  refine tx_callS C hd hl hY hI (fun w => (hR w).x) hst hn hcat hdd hnn hkk hss (fun v' X1 M1 h => ?_) (fun e X1 M1 h => by cases h.1)
  obtain ⟨h1, rfl, rfl⟩ := h
  cases h1
  rw [List.append_nil]
  exact kk
theorem tx_cSW {idx n' ar d' mc' ms' : Nat} {y : MethodName} {cc' : ByteArray} {ret' : Option FieldType} {hh' : List (Nat × Nat × Nat × Nat)} {As st0 : List Value} {v : Option Value} (C : tvC E own cc nL ret d mc ms tb) (hd : tvD cc pc (.invokestatic idx) 3 pc') (hl : Cond.methodLink own idx y ∈ tvGW) (hY : tvYw y cc' n' ret' hh' ar) (hI : Cond.static y ∈ tvGW) (hR : ∀ w, tvRunW (E.G.up w) y cc' n' ret' hh' d' mc' ms' tvP0 tvP0 As M (.inl v) M1) (hst : st0 = As.reverse ++ st) (hn : As.length = ar) (hcat : (st.map fun v => v.category).sum ≤ 8) (hdd : d' + 1 ≤ d) (hnn : n' ≤ 45) (hkk : k + mc' ≤ mc) (hss : sl + ms' ≤ ms)
    {k' sl' : Nat} (hk' : k + mc' = k') (hs' : sl + ms' = sl') {st1 : List Value} (h1 : v.toList ++ st = st1) (kk : tv_W E (tvPX X) k' sl' M1 pc' L st1) : tv_W E (tvPX X) k sl M pc L st0 := by
  subst hk' hs' h1
  refine tx_callSW C hd hl hY hI (fun w => (hR w).x) hst hn hcat hdd hnn hkk hss (fun v' X1 M1 h => ?_) (fun e X1 M1 h => by cases h.1)
  obtain ⟨h1, rfl, rfl⟩ := h
  cases h1
  rw [List.append_nil]
  exact kk
/-- caught here -/
theorem tv_catch {e : String} (C : tvC E own cc nL ret d mc ms tb) (pre : List ExceptionTableEntry) (x : ExceptionTableEntry) (suf : List ExceptionTableEntry) (hsplit : tb = pre ++ x :: suf) (hpass : ∀ z ∈ pre, z.catchType ≠ 0 ∧ ∃ nm : String, Cond.classLink own z.catchType nm ∈ tvGW ∧ (e, nm) ∈ tvNcs)
    (hx : covers x pc = true) (h0 : x.catchType ≠ 0) (hlink : Cond.classLink own x.catchType e ∈ tvGW) (hcast : Cond.castable e e ∈ tvNest) (kk : ∀ q : Nat, tv_W E P k sl M x.handlerPc L [.ref q]) : tv_X E P k sl M pc L st e := by
  obtain ⟨hx1, hb1, hml, hown, hts, hK, hRm, hlk, hrt, htb⟩ := C
  have hN := hK.nc
  obtain ⟨k1, k2, -⟩ := id hK
  intro H locs ls q ce hP hS hl hq hv hc
  exact vx_catch hown pre x suf (htb.trans hsplit) (fun z hz => by obtain ⟨a, nm, b, c⟩ := hpass z hz; exact Or.inr ⟨a, nm, hts _ b, hN _ c⟩) hx h0 (hts _ hlink) (va_Nw.use (tvNest_on hcast) (k2 _ hcast)) hq hv hc (kk q H locs ls hP hS hl)
/-- numbers of the class file -/
theorem tv_ldcI {idx : Nat} {v : Int32} (C : tvC E own cc nL ret d mc ms tb) (hd : tvD cc pc (.ldc idx) 2 pc') (h : Cond.constant own idx v ∈ tvGW) (kk : tv_W E P k sl M pc' L (.int v :: st)) : tv_W E P k sl M pc L st := by
  obtain ⟨hd, rfl⟩ := hd
  exact fun H locs ls hP hS hl => lv_ldc C.1 C.2.1 C.2.2.2.1 (C.2.2.2.2.1 _ h) hd (kk H locs ls hP hS hl)
theorem tv_ldcwI {idx : Nat} {v : Int32} (C : tvC E own cc nL ret d mc ms tb) (hd : tvD cc pc (.ldc_w idx) 3 pc') (h : Cond.constant own idx v ∈ tvGW) (kk : tv_W E P k sl M pc' L (.int v :: st)) : tv_W E P k sl M pc L st := by
  obtain ⟨hd, rfl⟩ := hd
  exact fun H locs ls hP hS hl => lv_ldcw C.1 C.2.1 C.2.2.2.1 (C.2.2.2.2.1 _ h) hd (kk H locs ls hP hS hl)
theorem tv_iushr {x y : Int32} (C : tvC E own cc nL ret d mc ms tb) (hd : tvD cc pc .iushr 1 pc') (kk : tv_W E P k sl M pc' L (.int (x.toUInt32 >>> (y.toUInt32 &&& Int32.toUInt32 31)).toInt32 :: st)) : tv_W E P k sl M pc L (.int y :: .int x :: st) := by
  obtain ⟨hd, rfl⟩ := hd
  exact fun H locs ls hP hS hl => lv_iushr C.1 C.2.1 hd rfl (kk H locs ls hP hS hl)
theorem tv_ior {x y : Int32} (C : tvC E own cc nL ret d mc ms tb) (hd : tvD cc pc .ior 1 pc') (kk : tv_W E P k sl M pc' L (.int (x ||| y) :: st)) : tv_W E P k sl M pc L (.int y :: .int x :: st) := by
  obtain ⟨hd, rfl⟩ := hd
  exact fun H locs ls hP hS hl => lv_ior C.1 C.2.1 hd (kk H locs ls hP hS hl)
theorem tv_l2i {x : Int64} (C : tvC E own cc nL ret d mc ms tb) (hd : tvD cc pc .l2i 1 pc') (kk : tv_W E P k sl M pc' L (.int x.toInt32 :: st)) : tv_W E P k sl M pc L (.long x :: st) := by
  obtain ⟨hd, rfl⟩ := hd
  exact fun H locs ls hP hS hl => lv_l2i C.1 C.2.1 hd rfl (kk H locs ls hP hS hl)
/-- the script -/
theorem tv_sld {i : Int32} (C : tvC E own cc nL ret d mc ms tb) (hd : tvD cc pc .iaload 1 pc') (hi : vp_in i E.G.sl) (kk : tv_W E P k sl M pc' L (.int (E.G.sx i.toNatClampNeg) :: st)) : tv_W E P k sl M pc L (.int i :: .ref E.G.sb :: st) := by
  obtain ⟨hd, rfl⟩ := hd
  have h := C.2.2.2.2.2.1.scr
  intro H locs ls hP hS hL
  exact va_sld C.1 C.2.1 h.1 h.2.1 h.2.2.1 hS hi hd (kk H locs ls hP hS hL)
theorem tv_slen (C : tvC E own cc nL ret d mc ms tb) (hd : tvD cc pc .arraylength 1 pc') (kk : tv_W E P k sl M pc' L (.int (nI E.G.sl) :: st)) : tv_W E P k sl M pc L (.ref E.G.sb :: st) := by
  obtain ⟨hd, rfl⟩ := hd
  have h := C.2.2.2.2.2.1.scr
  intro H locs ls hP hS hL
  exact va_slen C.1 C.2.1 h.1 h.2.1 h.2.2.1 hS hd (kk H locs ls hP hS hL)
end TXL
