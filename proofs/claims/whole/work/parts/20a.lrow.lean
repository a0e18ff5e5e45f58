/-! ===== methods with a table of their own; the law's own rows ===== -/
def tvEx : List String := ["java/lang/IndexOutOfBoundsException", "java/lang/IllegalArgumentException", "java/lang/IllegalStateException", "java/lang/UnsupportedOperationException", "java/util/NoSuchElementException", "java/lang/ArithmeticException"]
def tvNcs : List (String × String) := [("java/lang/IndexOutOfBoundsException", "java/lang/IllegalArgumentException"), ("java/lang/IndexOutOfBoundsException", "java/lang/IllegalStateException"), ("java/lang/IndexOutOfBoundsException", "java/lang/UnsupportedOperationException"), ("java/lang/IndexOutOfBoundsException", "java/util/NoSuchElementException"), ("java/lang/IndexOutOfBoundsException", "java/lang/ArithmeticException"), ("java/lang/IllegalArgumentException", "java/lang/IndexOutOfBoundsException"), ("java/lang/IllegalArgumentException", "java/lang/IllegalStateException"), ("java/lang/IllegalArgumentException", "java/lang/UnsupportedOperationException"), ("java/lang/IllegalArgumentException", "java/util/NoSuchElementException"), ("java/lang/IllegalArgumentException", "java/lang/ArithmeticException"), ("java/lang/IllegalStateException", "java/lang/IndexOutOfBoundsException"), ("java/lang/IllegalStateException", "java/lang/IllegalArgumentException"), ("java/lang/IllegalStateException", "java/lang/UnsupportedOperationException"), ("java/lang/IllegalStateException", "java/util/NoSuchElementException"), ("java/lang/IllegalStateException", "java/lang/ArithmeticException"), ("java/lang/UnsupportedOperationException", "java/lang/IndexOutOfBoundsException"), ("java/lang/UnsupportedOperationException", "java/lang/IllegalArgumentException"), ("java/lang/UnsupportedOperationException", "java/lang/IllegalStateException"), ("java/lang/UnsupportedOperationException", "java/util/NoSuchElementException"), ("java/lang/UnsupportedOperationException", "java/lang/ArithmeticException"), ("java/util/NoSuchElementException", "java/lang/IndexOutOfBoundsException"), ("java/util/NoSuchElementException", "java/lang/IllegalArgumentException"), ("java/util/NoSuchElementException", "java/lang/IllegalStateException"), ("java/util/NoSuchElementException", "java/lang/UnsupportedOperationException"), ("java/util/NoSuchElementException", "java/lang/ArithmeticException"), ("java/lang/ArithmeticException", "java/lang/IndexOutOfBoundsException"), ("java/lang/ArithmeticException", "java/lang/IllegalArgumentException"), ("java/lang/ArithmeticException", "java/lang/IllegalStateException"), ("java/lang/ArithmeticException", "java/lang/UnsupportedOperationException"), ("java/lang/ArithmeticException", "java/util/NoSuchElementException")]
def tvNcE (U : State) : Prop := ∀ q ∈ tvNcs, va_Nc q.1 q.2 U
def tvPreN (G : tvG) (P : tvPh) (M : tvM) (U : State) : Prop := tvPre G P M U ∧ tvNcE U
theorem tvNcE.go {s U : State} (h : tvNcE s) (hW : s.WarmedH U.vm) : tvNcE U := fun q hq => va_Nc.moved hW.alike (h q hq)
theorem tvPreN_blind {G : tvG} {P : tvPh} {M : tvM} {args : List Value} : FrameBlind (va_Pc args (tvPreN G P M)) := fun a U g mk h => ⟨h.1, ⟨h.2.1.1, h.2.1.2.calling⟩, fun q hq => va_Nc.moved (u := U) (U := U.calling g mk a) (Vm.Alike.refl U.vm) (h.2.2 q hq)⟩
def tvWdW (y : MethodName) (cc : ByteArray) (n : Nat) (ret : Option FieldType) (hh : List (Nat × Nat × Nat × Nat)) : List Cond := .codeWith y cc n ret hh :: tvGW
/-- the contract of a method with a table of its own -/
def tvRunW (G : tvG) (y : MethodName) (cc : ByteArray) (n : Nat) (ret : Option FieldType) (hh : List (Nat × Nat × Nat × Nat)) (d mc ms : Nat) (P P1 : tvPh) (args : List Value) (M : tvM) (o : tvO) (M1 : tvM) : Prop :=
  vx_Met G.1 y (tvWdW y cc n ret hh) (tvRm d mc ms) (va_Pc args (tvPreN G P M)) (tvQc G P1 M1 o) (tvXC G P1 M1 o) mc ms (tvA G)
def tvYw (y : MethodName) (cc : ByteArray) (n : Nat) (ret : Option FieldType) (hh : List (Nat × Nat × Nat × Nat)) (ar : Nat) : Prop := Cond.codeWith y cc n ret hh ∈ tvGW ∧ Cond.initialized y.cls ∈ tvGW ∧ (y.cls ≠ "java/lang/invoke/MethodHandle" ∧ y.cls ≠ "java/lang/invoke/VarHandle") ∧ (parseMethodDescriptor y.desc).map (fun d => d.parameters.length) = some ar ∧ plainName y.cls = true
theorem tvWdW_good {y : MethodName} {cc : ByteArray} {n : Nat} {ret : Option FieldType} {hh : List (Nat × Nat × Nat × Nat)} (h : Cond.codeWith y cc n ret hh ∈ tvGW) : GoodIn tvGW (tvWdW y cc n ret hh) := by
  intro w hw
  rcases List.mem_cons.mp hw with rfl | hw
  · exact ⟨h, tvGood h⟩
  · exact ⟨hw, tvGood hw⟩
theorem tvRunW.of {G : tvG} {y : MethodName} {cc : ByteArray} {n : Nat} {ret : Option FieldType} {hh : List (Nat × Nat × Nat × Nat)} {d mc ms ar : Nat} {P P1 : tvPh} {args : List Value} {M M1 : tvM} {o : tvO} {own : String} (hY : tvYw y cc n ret hh ar) (hown : y.cls = own) (L0 : List (Option Value)) (hL : tvEl 0 L0 = lv_args 0 args) (hln : (lg_sl args).length ≤ n)
    (body : ∀ E : tvE, E.G = G → tvC E own cc n ret d mc ms (tableOf hh) → tvNcE E.s → tvEnd E P1 M1 o mc ms → tv_W E P 0 0 M 0 L0 []) : tvRunW G y cc n ret hh d mc ms P P1 args M o M1 := by
  subst hown
  refine vx_ofWH (cc := cc) (maxL := n) (ret := ret) (hh := hh) hY.2.2.2.2 rfl ?_
  intro p e s m args' below meth c s₁ B hml hv
  obtain ⟨rfl, ⟨hP, hK⟩, hN⟩ := hv
  have hts := atoms_spec (ws := tvWdW y cc n ret hh) B.pre
  have hown : s.vm.findClass y.cls = some m.cls := findClass_of_methodNamed B.named
  have htb : c.exceptionTable.toList = tableOf hh := vx_table (x := y) B (hts _ List.mem_cons_self)
  have key := body ((p, e, tvRm d mc ms, s, m, args.toArray, below, meth, c), G, vx_MQ below (tvQc G P1 M1 o) (tvXC G P1 M1 o) args.toArray s mc ms (tvA G)) rfl
    ⟨B.exec, B.bytes, hml, hown, fun w hw => hts w (List.mem_cons_of_mem _ hw), hK, rfl, B.notSynchronized, B.returns, htb⟩ hN rfl
  have hl := lv_entry args (n := n) hln
  rw [lg_entry_eq]
  refine key s.heap [] _ hP va_S.rf ?_
  show lv_has _ c.maxLocals (tvEl 0 L0)
  rw [hL, hml]
  exact hl
section TVLW
variable {E : tvE} {P P1 : tvPh} {k sl d mc ms nL pc pc' : Nat} {M M1 : tvM} {L : List (Option Value)} {st : List Value} {own : String} {cc : ByteArray} {ret : Option FieldType} {tb : List ExceptionTableEntry} {o : tvO}
/-- caught here -/
theorem tv_catch {e : String} (C : tvC E own cc nL ret d mc ms tb) (hN : tvNcE E.s) (pre : List ExceptionTableEntry) (x : ExceptionTableEntry) (suf : List ExceptionTableEntry) (hsplit : tb = pre ++ x :: suf) (hpass : ∀ z ∈ pre, z.catchType ≠ 0 ∧ ∃ nm : String, Cond.classLink own z.catchType nm ∈ tvGW ∧ (e, nm) ∈ tvNcs)
    (hx : covers x pc = true) (h0 : x.catchType ≠ 0) (hlink : Cond.classLink own x.catchType e ∈ tvGW) (hcast : Cond.castable e e ∈ tvNest) (kk : ∀ q : Nat, tv_W E P k sl M x.handlerPc L [.ref q]) : tv_X E P k sl M pc L st e := by
  obtain ⟨hx1, hb1, hml, hown, hts, hK, hRm, hlk, hrt, htb⟩ := C
  obtain ⟨k1, k2, -⟩ := id hK
  intro H locs ls q ce hP hS hl hq hv hc
  exact vx_catch hown pre x suf (htb.trans hsplit) (fun z hz => by obtain ⟨a, nm, b, c⟩ := hpass z hz; exact Or.inr ⟨a, nm, hts _ b, hN _ c⟩) hx h0 (hts _ hlink) (va_Nw.use (tvNest_on hcast) (k2 _ hcast)) hq hv hc (kk q H locs ls hP hS hl)
theorem tv_widen {k' sl' : Nat} (hk : k ≤ k') (hs : sl ≤ sl') (kk : tv_W E P k' sl' M pc L st) : tv_W E P k sl M pc L st := fun H locs ls hP hS hl => W.widen hk hs (kk H locs ls hP hS hl)
/-- a static call of a method with a table of its own -/
theorem tv_callSW {idx n' ar d' mc' ms' : Nat} {y : MethodName} {cc' : ByteArray} {ret' : Option FieldType} {hh' : List (Nat × Nat × Nat × Nat)} {As st0 : List Value} {v : Option Value} (C : tvC E own cc nL ret d mc ms tb) (hN : tvNcE E.s) (hd : tvD cc pc (.invokestatic idx) 3 pc') (hl : Cond.methodLink own idx y ∈ tvGW) (hY : tvYw y cc' n' ret' hh' ar) (hI : Cond.static y ∈ tvGW) (hR : tvRunW E.G y cc' n' ret' hh' d' mc' ms' P P1 As M (.inl v) M1) (hst : st0 = As.reverse ++ st) (hn : As.length = ar) (hcat : (st.map fun v => v.category).sum ≤ 8) (hdd : d' + 1 ≤ d) (hnn : n' ≤ 45) (hkk : k + mc' ≤ mc) (hss : sl + ms' ≤ ms)
    {k' sl' : Nat} (hk' : k + mc' = k') (hs' : sl + ms' = sl') {st1 : List Value} (h1 : v.toList ++ st = st1) (kk : tv_W E P1 k' sl' M1 pc' L st1) : tv_W E P k sl M pc L st0 := by
  subst hk' hs' h1
  obtain ⟨hd, rfl⟩ := hd
  obtain ⟨hx, hb1, hml, hown, hts, hK, hRm, hlk, hrt, htb⟩ := C
  obtain ⟨y1, y2, y3, y4, y5⟩ := hY
  intro H locs ls hP hS hL
  have hcb : vx_CSW E.R E.s E.args own idx y cc' n' ret' hh' (tvWdW y cc' n' ret' hh') (tvRm d' mc' ms') mc' ms' ar := by
    refine ⟨⟨rfl, rfl, ?_, ?_, pay_in hts (tvWdW_good y1), List.mem_cons_self⟩, hts _ y1, hts _ y2, y3, fun sig h => ?_, hts _ hl, hts _ hI⟩
    · rw [hRm]; exact hdd
    · rw [hRm]; show 8 + (n' + 11) + 64 * d' ≤ 64 * d; omega
    · rw [h] at y4
      exact (Option.some.inj y4).symm
  refine tv_after (vx_runSX ⟨hx, hb1, hml, hown, hts⟩ hR hcb ⟨tvPreN_blind, fun U hU hW => ⟨rfl, ⟨by rw [hU]; exact hP, hK.go hS hU hW⟩, hN.go hW⟩⟩ rfl hn (hL.1.trans hml) hst (lv_room hcat) hd ⟨by rw [hRm]; exact hkk, by rw [hRm]; exact hss⟩) hS hL (fun v' h => by cases h; exact kk) (fun e h => by cases h)
/-- the script of the law: L numbers at b -/
def tvScr (E : tvE) (b Ln : Nat) (xs : Nat → Int32) : Prop := va_X b Ln xs E.s E.s.heap ∧ b < E.s.heap.size ∧ ¬ tvA E.G b ∧ Ln ≤ 2048
theorem tv_sld {b Ln j : Nat} {xs : Nat → Int32} {i : Int32} (hj : i.toNatClampNeg = j) (C : tvC E own cc nL ret d mc ms tb) (hX : tvScr E b Ln xs) (hd : tvD cc pc .iaload 1 pc') (hi : vp_in i Ln) (kk : tv_W E P k sl M pc' L (.int (xs j) :: st)) : tv_W E P k sl M pc L (.int i :: .ref b :: st) := by
  obtain ⟨hd, rfl⟩ := hd
  subst hj
  intro H locs ls hP hS hL
  exact va_sld C.1 C.2.1 hX.1 hX.2.1 hX.2.2.1 hS hi hd (kk H locs ls hP hS hL)
theorem tv_slen {b Ln : Nat} {xs : Nat → Int32} (C : tvC E own cc nL ret d mc ms tb) (hX : tvScr E b Ln xs) (hd : tvD cc pc .arraylength 1 pc') (kk : tv_W E P k sl M pc' L (.int (nI Ln) :: st)) : tv_W E P k sl M pc L (.ref b :: st) := by
  obtain ⟨hd, rfl⟩ := hd
  intro H locs ls hP hS hL
  exact va_slen C.1 C.2.1 hX.1 hX.2.1 hX.2.2.1 hS hd (kk H locs ls hP hS hL)
/-- an arm that would answer otherwise, ruled out -/
theorem tv_no {E : tvE} {P : tvPh} {k sl : Nat} {M : tvM} {pc : Nat} {L : List (Option Value)} {st : List Value} (h : False) : tv_W E P k sl M pc L st := h.elim
end TVLW
