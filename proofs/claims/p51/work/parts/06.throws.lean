/-! ===== throws; the JDK's own ===== -/
abbrev tvXn : List String := ["java/lang/RuntimeException", "java/lang/Exception"]
def tvTh (own : String) (ik is ic i : Nat) (cls text : String) : Prop := Cond.classLink own ik cls ∈ tvGW ∧ Cond.initialized cls ∈ tvGW ∧ Bundle.fit cls = true ∧ (own, is, text, i) ∈ tvStr ∧ (∀ w ∈ vx_atS own ic cls tvXn, (w ∈ tvGW ∨ w ∈ tvNest) ∧ vx_ot w = true)
/-! ===== NoSuchElementException: its own constructor hands its text on by entry 13 ===== -/
theorem tvSix_0 : decode prog_37_method_4_code 0 = .ok (.aload_n 0, 1) := by decide +kernel
theorem tvSix_1 : decode prog_37_method_4_code 1 = .ok (.aload_n 1, 1) := by decide +kernel
theorem tvSix_2 : decode prog_37_method_4_code 2 = .ok (.invokespecial 13, 3) := by decide +kernel
theorem tvSix_5 : decode prog_37_method_4_code 5 = .ok (.return_, 1) := by decide +kernel
def tvNs : String := "java/util/NoSuchElementException"
def tvNoLc : Cond → Bool
  | .code .. => false
  | .methodLink .. => false
  | _ => true
def tvNsA (own : String) (ic : Nat) : List Cond :=
  Bundle.throwableAtoms ++ Bundle.throwableSAtoms ++ Bundle.passSAtoms tvNs "java/lang/RuntimeException" 13 prog_37_method_4_code ++ Bundle.chainSAtoms "java/lang/RuntimeException" ["java/lang/Exception"] ++ Cond.methodLink own ic (Bundle.initS tvNs) :: (Bundle.ownAtoms own ic tvNs []).filter tvNoLc
theorem tvNs_own {own : String} {ic : Nat} {w : Cond} (h : w ∈ Bundle.ownAtoms own ic tvNs []) (h2 : tvNoLc w = true) : w ∈ tvNsA own ic :=
  List.mem_append_right _ (List.mem_cons_of_mem _ (List.mem_filter.mpr ⟨h, h2⟩))
set_option maxHeartbeats 1000000 in
theorem tv_ctorN {p : Program} {l : Launch} {e : Env} {R : Room} {s : State} {m₀ : MethodId} {args : Array Value} {below : List Frame} {meth : Method} {c : Code} {W : State} {locs : List Loc} {cells slots : Nat}
    (X : Stand p l e R s m₀ args below meth c W locs cells slots) (hexec : p.tables.exec = Jvm.exec) (htr : e.platform.stackTraces = false) {own : String} {ic : Nat} (hown : s.vm.findClass own = some m₀.cls)
    (h : ∀ w ∈ tvNsA own ic, w.before args s = true) (hlocs : ∀ x ∈ locs, ∀ cell, s.heap[x.base]? = some cell → cell.vm.isStatics = false)
    {a : Addr} {cX : ClassId} {kX : Class} (hfX : s.vm.findClass tvNs = some cX) (hkX : s.vm.classes[cX]? = some kX) (hcell : W.heap[a]? = some (freshCell cX kX)) (hnew : s.heap.size ≤ a) {msg : Value} (hmsg : msg.isRef = true)
    {g : JFrame} (hg : g.method = m₀) (hsize : g.locals.size = c.maxLocals) (hlk : g.locked = none) (hen : g.entered = []) {rest : List Value} (hst : g.stack = msg :: .ref a :: .ref a :: rest)
    (hd6 : decode c.code g.pc = .ok (.invokespecial ic, 3)) (hd9 : decode c.code (g.pc + 3) = .ok (.athrow, 1)) (hout : ∀ x ∈ c.exceptionTable.toList, covers x (g.pc + 3) = false)
    (hRf : 5 < R.frames) (hRl : 2 * g.monitorRoom + ((Value.ref a :: rest).map fun v => v.category).sum + 81 ≤ R.locals) (hlocks : meth.locks = false) :
    ∃ U : State, Steps p.tables e below (W.setTop g) U ∧ U.status = .running ∧ Ended U below (.threw a) ∧ s.WarmedH U.vm ∧ s.sameButNew ({ U with vm := s.vm } : State) locs cells slots ∧
      ∃ ce, U.heap[a]? = some ce ∧ ce.vm = .none ∧ s.vm.findClass tvNs = some ce.cls := by
  have hpf : e.platform = _ := X.admits.platform
  have howns : e.platform.frameOwnsMonitors = true := by rw [hpf]
  have hfin : e.platform.finalization = false := by rw [hpf]
  have hpl : e.platform.magicAccessors = ({} : Platform).magicAccessors := by rw [hpf]
  have hA : ∀ w ∈ Bundle.ownAtoms own ic tvNs [], tvNoLc w = true → w.holds args s none s [] = true := fun w h1 h2 => h w (tvNs_own h1 h2)
  -- Throwable, its constructor, the three that hand on
  obtain ⟨T, Z0, LT, -, Y⟩ := ThrowableC.of_atoms (args := args) howns hfin hpl (fun w hw => h w (by simp [tvNsA, hw]))
  obtain ⟨Z, Mg, LZ, LM, hnZ⟩ := Init0T.ofS_atoms (args := args) hpl LT Y (fun w hw => h w (by simp [tvNsA, hw]))
  obtain ⟨Q2, Qs, hlen, L2, hL, hQ2, hl2, hls⟩ := Bundle.chainS (args := args) hpl hnZ ["java/lang/Exception"] "java/lang/RuntimeException" (by decide +kernel) (by decide +kernel) (fun w hw => h w (by simp [tvNsA, hw]))
  obtain ⟨Q1, L1, hQ1, hsup⟩ := PassC.ofS_atoms (args := args) (s := s) hpl (X := tvNs) (Y := "java/lang/RuntimeException") (by decide +kernel) (by decide) tvSix_0 tvSix_1 tvSix_2 tvSix_5 (fun w hw => h w (by simp [tvNsA, hw]))
  have hs1 : Q1.sup = Q2.m := Option.some.inj (hsup.symm.trans hQ2)
  -- the class made
  have hf1 : s.vm.findClass tvNs = some Q1.m.cls := findClass_of_methodNamed hQ1
  have hcx : cX = Q1.m.cls := Option.some.inj (hfX.symm.trans hf1)
  subst hcx
  obtain ⟨z1, kX', hz1, hk, hord, -, -, -⟩ := Cond.instantiable_spec (hA (.instantiable tvNs 6) (by simp [Bundle.ownAtoms]) rfl)
  cases Option.some.inj (hz1.symm.trans hf1)
  cases Option.some.inj (hkX.symm.trans hk)
  have hsel0 : selectMethod e.platform s.vm Q1.m.cls T.fill0 = .method T.fill0 := by
    obtain ⟨z2, r2, m2, q1, q2, q3, q4, -⟩ := Cond.selects_spec (hA (.selects tvNs Bundle.tFill0 Bundle.tFill0) (by simp [Bundle.ownAtoms]) rfl)
    cases Option.some.inj (q1.symm.trans hf1)
    cases Option.some.inj (q2.symm.trans (State.methodFound?_of_named Y.fill0 (by decide)))
    cases Option.some.inj (q3.symm.trans Y.fill0)
    rw [Launch.admits_selectMethod X.admits]
    exact q4
  have hselF : selectMethod e.platform s.vm Q1.m.cls T.fill = .method T.fill := by
    obtain ⟨z2, r2, m2, q1, q2, q3, q4, -⟩ := Cond.selects_spec (hA (.selects tvNs Bundle.tFill Bundle.tFill) (by simp [Bundle.ownAtoms]) rfl)
    cases Option.some.inj (q1.symm.trans hf1)
    cases Option.some.inj (q2.symm.trans (State.methodFound?_of_named Y.fill (by decide)))
    cases Option.some.inj (q3.symm.trans Y.fill)
    rw [Launch.admits_selectMethod X.admits]
    exact q4
  -- Throwable's two static fields, in the cell as it is now
  obtain ⟨S0, hS0, hiss⟩ := Y.statics
  obtain ⟨u0, hu0⟩ := Cond.staticRefV Y.unassigned LT.unassignedStatic LT.statics hS0 hiss (hA (.isRef (.static Bundle.tN "UNASSIGNED_STACK" Bundle.steD)) (by simp [Bundle.ownAtoms]) rfl)
  obtain ⟨sen, hsen⟩ := Cond.staticRefV Y.sentinel LT.sentinelStatic LT.statics hS0 hiss (hA (.isRef (.static Bundle.tN "SUPPRESSED_SENTINEL" Bundle.listD)) (by simp [Bundle.ownAtoms]) rfl)
  obtain ⟨S1, hS1, heS, -, hkeep⟩ := X.same.2.2.2.2.2 T.aS S0 hS0
  have hS1' : W.heap[T.aS]? = some S1 := hS1
  have hfar : ∀ i, (⟨T.aS, i⟩ : Loc) ∉ locs := fun i hi => by
    have h9 := hlocs _ hi S0 hS0
    rw [hiss] at h9
    cases h9
  have hkn : S1.vm ≠ .unknown := by
    rw [heS]
    intro hu
    rw [show S0.vm = .unknown from hu] at hiss
    cases hiss
  have hne : T.aS ≠ a := Nat.ne_of_lt (Nat.lt_of_lt_of_le (Array.getElem?_eq_some_iff.mp hS0).1 hnew)
  -- the fields that the constructors write
  obtain ⟨ci8, i8, fB, g1, g2, g3, g4, -, hnB, htB, hffB⟩ := Cond.ownField (t := .object "java/lang/Object") Y.found LT.cls (by decide +kernel) (hA (.fieldLink Bundle.tN 198 Bundle.tN "backtrace" "Ljava/lang/Object;") (by simp [Bundle.ownAtoms]) rfl) (hA (.lays Bundle.tN Bundle.tN "backtrace" "Ljava/lang/Object;") (by simp [Bundle.ownAtoms]) rfl) e.platform hpl
  obtain ⟨iM, hffM⟩ := Y.msg
  obtain ⟨tyC, dC, eC, nC⟩ := Cond.laysAt hf1 hk Y.cause (hA (.lays tvNs Bundle.tN "cause" "Ljava/lang/Throwable;") (by simp [Bundle.ownAtoms]) rfl)
  obtain ⟨tyS, dS, eS, nS⟩ := Cond.laysAt hf1 hk Y.stack (hA (.lays tvNs Bundle.tN "stackTrace" Bundle.steD) (by simp [Bundle.ownAtoms]) rfl)
  obtain ⟨tyP, dP, eP, nP⟩ := Cond.laysAt hf1 hk Y.supp (hA (.lays tvNs Bundle.tN "suppressedExceptions" Bundle.listD) (by simp [Bundle.ownAtoms]) rfl)
  obtain ⟨tyM, dM, eM, nM⟩ := Cond.laysAt hf1 hk hffM (hA (.lays tvNs Bundle.tN "detailMessage" "Ljava/lang/String;") (by simp [Bundle.ownAtoms]) rfl)
  obtain ⟨tyB, dB, eB, nB⟩ := Cond.laysAt hf1 hk hffB (hA (.lays tvNs Bundle.tN "backtrace" "Ljava/lang/Object;") (by simp [Bundle.ownAtoms]) rfl)
  have bC := Cond.laysApart eB eC nB nC (by rw [hnB, Y.causeName]; decide)
  have bS := Cond.laysApart eB eS nB nS (by rw [hnB, Y.stackName]; decide)
  have bP := Cond.laysApart eB eP nB nP (by rw [hnB, Y.suppName]; decide)
  have hskip : SkipFacts T e.platform s (fun u => u) u0 ((preparedCellV T.toThrowableT (freshCell Q1.m.cls kX) a u0 sen).withEntry W.cur) :=
    ⟨{ ci198 := ci8, i198 := i8, fBack := fB }, ⟨g1, g2, g3, g4⟩, by
      have h9 := fresh_default (c := Q1.m.cls) tyB
      rw [htB] at h9
      simpa [preparedCellV, Cell.setSlot, Cell.withEntry, Array.getElem?_setIfInBounds, bC, bS, bP, bC.symm, bS.symm, bP.symm, defaultValue] using h9, fun _ _ => rfl⟩
  -- the walk
  obtain ⟨tm, mC, cC, kC, v1, hnC, -, -, -, -, -, -, -, hW1, st1⟩ := Steps.initColdS (tb := p.tables) (e := e) (below := below) (s := s) (U := W) X.here hexec X.warmed hpl hown (t := Bundle.initS tvNs) rfl rfl ⟨by decide, by decide⟩
    (h (.methodLink own ic (Bundle.initS tvNs)) (by simp [tvNsA])) (h (.instanceMethod (Bundle.initS tvNs)) (by simp [tvNsA, Bundle.passSAtoms])) (bytes := prog_37_method_4_code) (maxL := 2) (h (.code (Bundle.initS tvNs) prog_37_method_4_code 2 none) (by simp [tvNsA, Bundle.passSAtoms]))
    (f := g) hg (a := a) (msg := msg) (rest := .ref a :: rest) hst hd6
  cases Option.some.inj (hnC.symm.trans hQ1)
  have X1 := X.noted hW1
  obtain ⟨v2, X2, st2⟩ := X1.ctorMessageOffV hexec (g := { g with stack := .ref a :: rest }) hg hsize T LT Z LZ Mg LM (Q1 :: Q2 :: Qs)
    (fun P hP => by
      rcases List.mem_cons.mp hP with rfl | hP
      · exact L1
      · rcases List.mem_cons.mp hP with rfl | hP
        · exact L2
        · exact hL P hP) ⟨hs1, hl2, hls⟩ (u0 := u0) (sen := sen) (self := a) hmsg (cell := freshCell Q1.m.cls kX) (cellS := S1)
    hcell (fun _ => by simp) (by simp) rfl rfl hsel0 hselF hS1' hne hkn (by rw [hkeep _ (hfar _)]; exact hu0) (by rw [hkeep _ (hfar _)]; exact hsen)
    (Takes.of_laid hk hord tyC (by rw [Y.causeType]; rfl)) (Takes.of_laid hk hord tyS (by rw [Y.stackType]; exact fits_refV_array _ u0)) (Takes.of_laid hk hord tyP (by rw [Y.suppType]; exact fits_refV_object _ sen))
    (Takes.of_laid hk hord tyM (by rw [Y.msgType]; exact fits_refV_object _ ⟨msg, hmsg⟩)) Y.objLocals hskip htr [] hd6
    (by simp only [List.length_cons, hlen, List.length_nil]; omega) (by simp only [List.length_cons, hlen, List.length_nil]; exact hRl)
  obtain ⟨hwalk, hrun, hend, hWU, hsame⟩ := X2.athrowLeaves hexec (g := { g with stack := .ref a :: rest, pc := g.pc + 3 }) hg hlk hen hout (a := a) (rest := rest) rfl hd9
  have hlt : a < ((W.setVm v1).setVm v2).heap.size := (Array.getElem?_eq_some_iff.mp hcell).1
  refine ⟨_, st1 _ (fun acts => ?_), hrun, hend, hWU, hsame.weaken (fun y hy hy2 => ?_) (Nat.le_refl _) (Nat.le_refl _), _, heapAt_setCell_self (s := (W.setVm v1).setVm v2) (plainBareV T.toThrowableT (freshCell Q1.m.cls kX) a u0 sen msg) hlt, rfl, hf1⟩
  · rw [doInvoke_state]
    exact st2 _ hwalk
  · rcases List.mem_append.mp hy with h1 | h1
    · exact h1
    · have hb : y.base = a := by
        simp only [List.mem_cons, List.not_mem_nil, or_false] at h1
        rcases h1 with rfl | rfl | rfl | rfl | rfl <;> rfl
      rw [hb] at hy2
      exact absurd hy2 (Nat.not_lt.mpr hnew)
/-- NoSuchElementException: its constructor calls its superclass's by another entry than the kit's chain has -/
def tvThN (own : String) (ik is ic i : Nat) (cls text : String) : Prop := cls = tvNs ∧ Cond.classLink own ik tvNs ∈ tvGW ∧ Cond.initialized tvNs ∈ tvGW ∧ (own, is, text, i) ∈ tvStr ∧ (∀ w ∈ (tvNsA own ic).filter vx_no, (w ∈ tvGW ∨ w ∈ tvNest) ∧ vx_ot w = true)
section TVT
variable {E : tvE} {P P1 : tvPh} {k sl d mc ms nL pc pc' : Nat} {M M1 : tvM} {L : List (Option Value)} {st : List Value} {own : String} {cc : ByteArray} {ret : Option FieldType} {tb : List ExceptionTableEntry} {o : tvO}
theorem tvNest_on {w : Cond} (h : w ∈ tvNest) : w.onTables = true := by
  have h1 : tvIsN w = true := (List.mem_filter.mp h).2
  cases w <;> first | (cases h1; done) | rfl
theorem tv_throw {ik is ic i : Nat} {cls text : String} (C : tvC E own cc nL ret d mc ms []) (hex : tvEx P) (hQ : tvEnd E P M1 o mc ms) (hT : tvTh own ik is ic i cls text) (d0 : tvD cc pc (.new ik) 3 (pc + 3)) (d3 : tvD cc (pc + 3) .dup 1 (pc + 4)) (d4 : tvD cc (pc + 4) (.ldc is) 2 (pc + 6)) (d6 : tvD cc (pc + 6) (.invokespecial ic) 3 (pc + 9)) (d9 : tvD cc (pc + 9) .athrow 1 (pc + 10)) (hd : 6 ≤ d) (hr : (st.map fun v => v.category).sum ≤ 8) (ho : o = .inr cls) (hM : M1 = M) (hk : k + 1 ≤ mc := by exact Nat.le_of_ble_eq_true rfl) (hs : sl + 6 ≤ ms := by exact Nat.le_of_ble_eq_true rfl) : tv_W E P k sl M pc L st := by
  subst hM
  obtain ⟨hx, hb1, hml, hown, hts, hK, hRm, hlk, hrt, htb⟩ := C
  obtain ⟨t1, t2, t3, t4, t5⟩ := hT
  intro H locs ls hP hS hL
  show W _ _ _ _ _ _ _ _ _ _ _ _ _ _ E.2.2 _
  rw [show E.2.2 = _ from hQ]
  obtain ⟨k1, k2, k3, k4, k5, k6, k7, k8, -⟩ := id hK
  refine vx_throwS (text := text) (names := tvXn) hx hb1 k8 hown t3 (by decide +kernel) (hts _ t1) (hts _ t2) (k3 _ t4) (fun w hw => ?_) (fun w hw => ?_) k5 k6 hS hL.1 d0.1 d3.1 d4.1 d6.1 d9.1 (fun x hx => by rw [htb] at hx; cases hx) (by rw [hRm]; show 2 + 3 < d; omega) (by rw [hRm]; show _ + (13 * (2 + 1) + 43) ≤ 64 * d; omega) (by rw [hRm]; exact hk) (by rw [hRm]; exact hs) hlk (fun t hA hz hq => ⟨ho, ⟨fun j q hj => ?_, tvEx_ok hex hP⟩, ?_⟩) hS.2.2 hk hs
  · rcases (t5 w hw).1 with h | h
    · exact hts _ h
    · exact va_Nw.use (tvNest_on h) (k2 _ h)
  · rcases List.mem_cons.mp hw with rfl | hw
    · rfl
    · rcases List.mem_cons.mp hw with rfl | hw
      · rfl
      · exact (t5 w hw).2
  · exact (hP.1 j q hj).kept (hq _ (hP.1 j q hj).lt)
  · exact ⟨Nat.le_trans hS.1 hz, fun q h1 h2 => by rw [hq q (Nat.lt_of_lt_of_le h1 hS.1)]; exact hS.2.1 q h1 h2⟩
theorem tv_throwW {ik is ic i : Nat} {cls text : String} (C : tvC E own cc nL ret d mc ms []) (hex : tvEx P) (hQ : tvEnd E P M1 o mc ms) (hT : tvTh own ik is ic i cls text) (d0 : tvD cc pc (.new ik) 3 (pc + 3)) (d3 : tvD cc (pc + 3) .dup 1 (pc + 4)) (d4 : tvD cc (pc + 4) (.ldc_w is) 3 (pc + 7)) (d6 : tvD cc (pc + 7) (.invokespecial ic) 3 (pc + 10)) (d9 : tvD cc (pc + 10) .athrow 1 (pc + 11)) (hd : 6 ≤ d) (hr : (st.map fun v => v.category).sum ≤ 8) (ho : o = .inr cls) (hM : M1 = M) (hk : k + 1 ≤ mc := by exact Nat.le_of_ble_eq_true rfl) (hs : sl + 6 ≤ ms := by exact Nat.le_of_ble_eq_true rfl) : tv_W E P k sl M pc L st := by
  subst hM
  obtain ⟨hx, hb1, hml, hown, hts, hK, hRm, hlk, hrt, htb⟩ := C
  obtain ⟨t1, t2, t3, t4, t5⟩ := hT
  intro H locs ls hP hS hL
  show W _ _ _ _ _ _ _ _ _ _ _ _ _ _ E.2.2 _
  rw [show E.2.2 = _ from hQ]
  obtain ⟨k1, k2, k3, k4, k5, k6, k7, k8, -⟩ := id hK
  refine vx_throwSW (text := text) (names := tvXn) hx hb1 k8 hown t3 (by decide +kernel) (hts _ t1) (hts _ t2) (k3 _ t4) (fun w hw => ?_) (fun w hw => ?_) k5 k6 hS hL.1 d0.1 d3.1 d4.1 d6.1 d9.1 (fun x hx => by rw [htb] at hx; cases hx) (by rw [hRm]; show 2 + 3 < d; omega) (by rw [hRm]; show _ + (13 * (2 + 1) + 43) ≤ 64 * d; omega) (by rw [hRm]; exact hk) (by rw [hRm]; exact hs) hlk (fun t hA hz hq => ⟨ho, ⟨fun j q hj => ?_, tvEx_ok hex hP⟩, ?_⟩) hS.2.2 hk hs
  · rcases (t5 w hw).1 with h | h
    · exact hts _ h
    · exact va_Nw.use (tvNest_on h) (k2 _ h)
  · rcases List.mem_cons.mp hw with rfl | hw
    · rfl
    · rcases List.mem_cons.mp hw with rfl | hw
      · rfl
      · exact (t5 w hw).2
  · exact (hP.1 j q hj).kept (hq _ (hP.1 j q hj).lt)
  · exact ⟨Nat.le_trans hS.1 hz, fun q h1 h2 => by rw [hq q (Nat.lt_of_lt_of_le h1 hS.1)]; exact hS.2.1 q h1 h2⟩
theorem tv_throwQ {ik is ic i n : Nat} {text : String} {li : Instr} (C : tvC E own cc nL ret d mc ms []) (hex : tvEx P) (hQ : tvEnd E P M1 o mc ms) (t1 : Cond.classLink own ik tvNs ∈ tvGW) (t2 : Cond.initialized tvNs ∈ tvGW) (t4 : (own, is, text, i) ∈ tvStr) (t5 : ∀ w ∈ (tvNsA own ic).filter vx_no, (w ∈ tvGW ∨ w ∈ tvNest) ∧ vx_ot w = true) (hli : (li = .ldc is ∧ n = 2) ∨ (li = .ldc_w is ∧ n = 3)) (d0 : decode cc pc = .ok (.new ik, 3)) (d3 : decode cc (pc + 3) = .ok (.dup, 1)) (d4 : decode cc (pc + 4) = .ok (li, n)) (d6 : decode cc (pc + 4 + n) = .ok (.invokespecial ic, 3)) (d9 : decode cc (pc + 4 + n + 3) = .ok (.athrow, 1)) (hd : 6 ≤ d) (hr : (st.map fun v => v.category).sum ≤ 8) (ho : o = .inr tvNs) (hM : M1 = M) (hk : k + 1 ≤ mc) (hs : sl + 6 ≤ ms) : tv_W E P k sl M pc L st := by
  subst hM
  obtain ⟨hx, hb1, hml, hown, hts, hK, hRm, hlk, hrt, htb⟩ := C
  intro H locs ls hP hS hL
  show W _ _ _ _ _ _ _ _ _ _ _ _ _ _ E.2.2 _
  rw [show E.2.2 = _ from hQ]
  obtain ⟨k1, k2, k3, k4, k5, k6, k7, k8, -⟩ := id hK
  intro T hT X
  have htr : _ = false := (congrArg Platform.stackTraces X.admits.platform).trans k8
  have hcells : k + 1 ≤ E.R.cells := by rw [hRm]; exact hk
  have hslots : sl + 6 ≤ E.R.slots := by rw [hRm]; exact hs
  have Y := vx_rebase X (R' := { frames := E.R.frames, locals := E.R.locals, cells := 1, slots := 6 }) (Nat.le_refl _) (Nat.le_refl _) hcells hslots
  obtain ⟨s', hA⟩ : ∃ z, z = (T.setVm E.s.vm).setFrames (.invoking E.m E.args :: E.below) := ⟨_, rfl⟩
  rw [← hA] at Y
  have hvm : s'.vm = E.s.vm := by rw [hA]; rfl
  have hhp : s'.heap = H := by rw [hA]; exact hT
  have hW0 : E.s.WarmedH s'.vm := by rw [hvm]; exact State.WarmedH.refl E.s
  have hat : ∀ w ∈ (tvNsA own ic).filter vx_no, w.before E.args s' = true := fun w hw => vx_ot_at hW0 hvm.symm (t5 w hw).2 (by
    rcases (t5 w hw).1 with h | h
    · exact hts _ h
    · exact va_Nw.use (tvNest_on h) (k2 _ h))
  have hU' := vx_Zq.moved hW0.alike (k5.kept hS.2.1)
  have hN' := vx_Zq.moved hW0.alike (k6.kept hS.2.1)
  rw [← hhp] at hU' hN'
  have h := vx_own hat (vx_isRefq hU'.1) (vx_isRefq hN'.1) hU'.2.word hN'.2.word
  have hown' : s'.vm.findClass own = some E.m.cls := by rw [hvm]; exact hown
  have hins : (Cond.instantiable tvNs 6).before E.args s' = true := h _ (tvNs_own (by simp [Bundle.ownAtoms]) rfl)
  have hk' : (Cond.classLink own ik tvNs).before E.args s' = true := vx_ot_at hW0 hvm.symm (by rfl) (hts _ t1)
  have hini' : (Cond.initialized tvNs).before E.args s' = true := vx_ot_at hW0 hvm.symm (by rfl) (hts _ t2)
  have hcb : E.c.code = cc := hb1
  obtain ⟨vm₁, cX, kX, hfX, hkX, -, -, X₁, st1⟩ := Y.newCold hx (own := own) (C := tvNs) (index := ik) (n := 6) hown' hk' hins hini' (g := F0 E.m pc ls st) rfl (by rw [hcb]; exact d0) (Nat.le_refl _) (Nat.le_refl _)
  generalize hT1 : (T.setVm vm₁).pushCell { cls := cX, slots := kX.instanceTypes.map defaultValue, vm := .none } = T1 at X₁ st1
  have hcat : (Value.ref T.heap.size).category = 1 := rfl
  have hcellA : T1.heap[T.heap.size]? = some (freshCell cX kX) := by rw [← hT1]; exact State.heap_pushCell_size _ _
  have hstr' := vk_R.warm hW0 (k3 _ t4)
  obtain ⟨U, hsteps, hrun, hend, hW, hsame, ce, hce, hcv, hcc⟩ := tv_ctorN X₁ hx htr (own := own) (ic := ic) hown' h (fun x hx => nomatch hx) hfX hkX hcellA (by rw [hhp, hT]; exact Nat.le_refl _) (msg := .ref (E.G.2.2.2.2.1 i)) rfl
    (g := { method := E.m, pc := pc + 4 + n, locals := ls, stack := .ref (E.G.2.2.2.2.1 i) :: .ref T.heap.size :: .ref T.heap.size :: st, locked := none }) rfl hL.1 rfl rfl (rest := st) rfl
    (by rw [hcb]; exact d6) (by rw [hcb]; exact d9) (fun x hx => by rw [htb] at hx; cases hx) (by show 5 < E.R.frames; rw [hRm]; show 5 < d; omega) (by simp only [List.map_cons, List.sum_cons, hcat]; show 2 * 0 + _ + 81 ≤ E.R.locals; rw [hRm]; show _ ≤ 64 * d; omega) hlk
  obtain ⟨f1, f2⟩ := vx_frame hsame
  rw [hhp] at f1 f2
  have hWs : E.s.WarmedH U.vm := State.WarmedH.trans hW0 hW
  have hall : E.s.sameButNew ({ U with vm := E.s.vm } : State) locs mc ms := by
    subst hA
    obtain ⟨e1, e2⟩ := hsame
    rw [State.setFrames_setFrames] at e1
    have h2 : (T.setVm E.s.vm).sameButNew ({ U with vm := E.s.vm } : State) [] (0 + 1) (0 + 6) := ⟨e1, e2⟩
    have h3 := X.same.trans h2
    rw [List.append_nil] at h3
    exact h3.mono hk hs
  rw [hvm] at hcc
  have hPU : tvP E.G P M1 U.heap := ⟨fun j q hj => (hP.1 j q hj).kept (f2 _ (hP.1 j q hj).lt (fun z hz => nomatch hz)), tvEx_ok hex hP⟩
  have hFU : va_F (tvA E.G) E.s U := ⟨Nat.le_trans hS.1 f1, fun q h1 h2 => by rw [f2 q (Nat.lt_of_lt_of_le h1 hS.1) (fun z hz => nomatch hz)]; exact hS.2.1 q h1 h2⟩
  refine ⟨U, ?_, .threw T.heap.size, hrun, hend, Or.inr ⟨T.heap.size, rfl, tvNs, ce, locs, ⟨ho, hPU, hFU⟩, hce, hcv, hcc, hWs, hall, hS.2.2⟩⟩
  refine st1 _ ?_
  have d3' : decode E.c.code (pc + 3) = .ok (.dup, 1) := by rw [hcb]; exact d3
  have d4' : decode E.c.code (pc + 4) = .ok (li, n) := by rw [hcb]; exact d4
  show Steps _ _ _ (T1.setTop { method := E.m, pc := pc + 3, locals := ls, stack := .ref T.heap.size :: st, locked := none }) _
  jvm_step X₁.here [X₁.here.top, hx, d3', Value.category]
  rcases hli with ⟨rfl, rfl⟩ | ⟨rfl, rfl⟩
  · exact X₁.ldcString hx (own := own) (text := text) (index := is) (a := E.G.2.2.2.2.1 i) hown' hstr'.1 hstr'.2 (g := { method := E.m, pc := pc + 4, locals := ls, stack := .ref T.heap.size :: .ref T.heap.size :: st, locked := none }) rfl d4' _ hsteps
  · exact X₁.ldcStringW hx (own := own) (text := text) (index := is) (a := E.G.2.2.2.2.1 i) hown' hstr'.1 hstr'.2 (g := { method := E.m, pc := pc + 4, locals := ls, stack := .ref T.heap.size :: .ref T.heap.size :: st, locked := none }) rfl d4' _ hsteps
theorem tv_throwN {ik is ic i : Nat} {cls text : String} (C : tvC E own cc nL ret d mc ms []) (hex : tvEx P) (hQ : tvEnd E P M1 o mc ms) (hT : tvThN own ik is ic i cls text) (d0 : tvD cc pc (.new ik) 3 (pc + 3)) (d3 : tvD cc (pc + 3) .dup 1 (pc + 4)) (d4 : tvD cc (pc + 4) (.ldc is) 2 (pc + 6)) (d6 : tvD cc (pc + 6) (.invokespecial ic) 3 (pc + 9)) (d9 : tvD cc (pc + 9) .athrow 1 (pc + 10)) (hd : 6 ≤ d) (hr : (st.map fun v => v.category).sum ≤ 8) (ho : o = .inr cls) (hM : M1 = M) (hk : k + 1 ≤ mc := by exact Nat.le_of_ble_eq_true rfl) (hs : sl + 6 ≤ ms := by exact Nat.le_of_ble_eq_true rfl) : tv_W E P k sl M pc L st := by
  obtain ⟨rfl, t1, t2, t4, t5⟩ := hT
  exact tv_throwQ (n := 2) C hex hQ t1 t2 t4 t5 (Or.inl ⟨rfl, rfl⟩) d0.1 d3.1 d4.1 d6.1 d9.1 hd hr ho hM hk hs
theorem tv_throwNW {ik is ic i : Nat} {cls text : String} (C : tvC E own cc nL ret d mc ms []) (hex : tvEx P) (hQ : tvEnd E P M1 o mc ms) (hT : tvThN own ik is ic i cls text) (d0 : tvD cc pc (.new ik) 3 (pc + 3)) (d3 : tvD cc (pc + 3) .dup 1 (pc + 4)) (d4 : tvD cc (pc + 4) (.ldc_w is) 3 (pc + 7)) (d6 : tvD cc (pc + 7) (.invokespecial ic) 3 (pc + 10)) (d9 : tvD cc (pc + 10) .athrow 1 (pc + 11)) (hd : 6 ≤ d) (hr : (st.map fun v => v.category).sum ≤ 8) (ho : o = .inr cls) (hM : M1 = M) (hk : k + 1 ≤ mc := by exact Nat.le_of_ble_eq_true rfl) (hs : sl + 6 ≤ ms := by exact Nat.le_of_ble_eq_true rfl) : tv_W E P k sl M pc L st := by
  obtain ⟨rfl, t1, t2, t4, t5⟩ := hT
  exact tv_throwQ (n := 3) C hex hQ t1 t2 t4 t5 (Or.inr ⟨rfl, rfl⟩) d0.1 d3.1 d4.1 d6.1 d9.1 hd hr ho hM hk hs
end TVT
