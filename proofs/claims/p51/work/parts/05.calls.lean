/-! ===== ends, calls, throws, a body's start ===== -/
def tvEnd (E : tvE) (P1 : tvPh) (M1 : tvM) (o : tvO) (mc ms : Nat) : Prop := E.2.2 = vx_MQ E.below (tvQc E.G P1 M1 o) (tvXC E.G P1 M1 o) E.args E.s mc ms (tvA E.G)
/-- an exception under way -/
def tv_X (E : tvE) (P : tvPh) (k sl : Nat) (M : tvM) (pc : Nat) (L : List (Option Value)) (st : List Value) (e : String) : Prop :=
  ∀ (H : Heap) (locs : List Loc) (ls : Array Slot) (q : Addr) (ce : Cell), tvP E.G P M H → va_S (tvA E.G) E.s.heap H locs → tvLok L E.c.maxLocals ls → H[q]? = some ce → ce.vm = .none → E.s.vm.findClass e = some ce.cls → vx_W E.1.1 E.2.1.1 E.1.2.1 E.R E.s E.m E.args E.below E.meth E.c H locs k sl E.2.2 (F0 E.m pc ls st) q
def tvYk (y : MethodName) (cc : ByteArray) (n : Nat) (ret : Option FieldType) (ar : Nat) : Prop := Cond.code y cc n ret ∈ tvGW ∧ Cond.initialized y.cls ∈ tvGW ∧ (y.cls ≠ "java/lang/invoke/MethodHandle" ∧ y.cls ≠ "java/lang/invoke/VarHandle") ∧ (parseMethodDescriptor y.desc).map (fun d => d.parameters.length) = some ar ∧ plainFor y = true
def tvYi (y : MethodName) : Prop := Cond.instanceMethod y ∈ tvGW ∧ Cond.selects y.cls y y ∈ tvGW
theorem tv_ofW {l : Launch} {y : MethodName} {ws ws' : List Cond} {rm : Room} {Pc : Array Value → State → Prop} {Qc : Array Value → State → Outcome → State → Prop} {XC : String → State → State → Prop} {mc ms : Nat} {free : Addr → Prop} {cc : ByteArray} {maxL : Nat} {ret : Option FieldType}
    (hy : plainFor y = true) (hw : ws = Cond.code y cc maxL ret :: ws')
    (body : ∀ p e s m args below meth c s₁, BodyLoose p l y (headSpec ws rm) cc maxL ret e s m args below meth c s₁ → c.maxLocals = maxL → (∀ x ∈ c.exceptionTable.toList, False) → Pc args s →
      W p l e (headSpec ws rm).room s m args below meth c s.heap [] 0 0 (vx_MQ below Qc XC args s mc ms free) (entryFrame m args maxL)) : vx_Met l y ws rm Pc Qc XC mc ms free := by
  refine MetFree.of_bodySF (code := cc) (maxLocals := maxL) (ret := ret) hy ?_ ?_
  · intro args s m h hn
    obtain ⟨meth, c, h1, h2, h3, h4, h5, h6, -, -⟩ := Cond.code_spec hn (atoms_spec (ws := ws) h _ (by rw [hw]; exact List.mem_cons_self))
    exact ⟨meth, c, h1, h2, h3, h4, h5, h6⟩
  · intro p e s m args below meth c s₁ B hml hP _
    have hh0 : s₁.heap = s.heap := by rw [B.state]; rfl
    have ht : ∀ x ∈ c.exceptionTable.toList, False := by
      obtain ⟨meth9, c9, h1, h2, -, -, -, -, h7, -⟩ := Cond.code_spec B.named (atoms_spec (ws := ws) B.pre _ (by rw [hw]; exact List.mem_cons_self))
      cases Option.some.inj (h1.symm.trans B.method)
      cases Option.some.inj (h2.symm.trans (Stand.of_body B).code)
      intro x hx
      rw [Array.isEmpty_iff.mp h7] at hx
      cases hx
    obtain ⟨t, a1, o, b1, b2, b3⟩ := body p e s m args below meth c s₁ B hml ht hP s₁ hh0 (Stand.of_body B)
    exact ⟨t, o, a1, b1, b2, b3⟩
theorem tvWd_good {y : MethodName} {cc : ByteArray} {n : Nat} {ret : Option FieldType} (h : Cond.code y cc n ret ∈ tvGW) : GoodIn tvGW (tvWd y cc n ret) := by
  intro w hw
  rcases List.mem_cons.mp hw with rfl | hw
  · exact ⟨h, tvGood h⟩
  · exact ⟨hw, tvGood hw⟩
theorem tvRun.of {G : tvG} {y : MethodName} {cc : ByteArray} {n : Nat} {ret : Option FieldType} {d mc ms ar : Nat} {P P1 : tvPh} {args : List Value} {M M1 : tvM} {o : tvO} {own : String} (hY : tvYk y cc n ret ar) (hown : y.cls = own) (L0 : List (Option Value)) (hL : tvEl 0 L0 = lv_args 0 args) (hln : (lg_sl args).length ≤ n)
    (body : ∀ E : tvE, E.G = G → tvC E own cc n ret d mc ms [] → tvEnd E P1 M1 o mc ms → tv_W E P 0 0 M 0 L0 []) : tvRun G y cc n ret d mc ms P P1 args M o M1 := by
  subst hown
  refine tv_ofW (cc := cc) (maxL := n) (ret := ret) hY.2.2.2.2 rfl ?_
  intro p e s m args' below meth c s₁ B hml htb hv
  obtain ⟨rfl, hP, hK⟩ := hv
  have hts := atoms_spec (ws := tvWd y cc n ret) B.pre
  have hown : s.vm.findClass y.cls = some m.cls := findClass_of_methodNamed B.named
  have htb' : c.exceptionTable.toList = [] := by
    cases h : c.exceptionTable.toList with
    | nil => rfl
    | cons x r => exact (htb x (by rw [h]; exact List.mem_cons_self)).elim
  have key := body ((p, e, tvRm d mc ms, s, m, args.toArray, below, meth, c), G, vx_MQ below (tvQc G P1 M1 o) (tvXC G P1 M1 o) args.toArray s mc ms (tvA G)) rfl
    ⟨B.exec, B.bytes, hml, hown, fun w hw => hts w (List.mem_cons_of_mem _ hw), hK, rfl, B.notSynchronized, B.returns, htb'⟩ rfl
  have hl := lv_entry args (n := n) hln
  rw [lg_entry_eq]
  refine key s.heap [] _ hP va_S.rf ?_
  show lv_has _ c.maxLocals (tvEl 0 L0)
  rw [hL, hml]
  exact hl
section TVX
variable {E : tvE} {P P1 : tvPh} {k sl d mc ms nL pc pc' : Nat} {M M1 : tvM} {L : List (Option Value)} {st : List Value} {own : String} {cc : ByteArray} {ret : Option FieldType} {tb : List ExceptionTableEntry} {o : tvO}
theorem tv_iret {v : Int32} {ty : FieldType} (C : tvC E own cc nL (some ty) d mc ms tb) (hQ : tvEnd E P M1 o mc ms) (hd : tvD cc pc .ireturn 1 pc') (hn : narrow ty (.int v) = .int v) (ho : o = .inl (some (.int v))) (hM : M1 = M) (hk : k ≤ mc := by exact Nat.le_of_ble_eq_true rfl) (hs : sl ≤ ms := by exact Nat.le_of_ble_eq_true rfl) : tv_W E P k sl M pc L [.int v] := by
  subst hM
  intro H locs ls hP hS hl
  show W _ _ _ _ _ _ _ _ _ _ _ _ _ _ E.2.2 _
  rw [show E.2.2 = _ from hQ]
  exact W.widen hk hs (vx_ret (W.zret C.1 C.2.1 C.2.2.2.2.2.2.2.2.1 hn (fun t ht hW => ⟨_, ho, rfl, by rw [ht]; exact hP, hS.F ht⟩) hS.2.2 hd.1 C.2.2.2.2.2.2.2.1))
theorem tv_lret {v : Int64} (C : tvC E own cc nL (some .long) d mc ms tb) (hQ : tvEnd E P M1 o mc ms) (hd : tvD cc pc .lreturn 1 pc') (ho : o = .inl (some (.long v))) (hM : M1 = M) (hk : k ≤ mc := by exact Nat.le_of_ble_eq_true rfl) (hs : sl ≤ ms := by exact Nat.le_of_ble_eq_true rfl) : tv_W E P k sl M pc L [.long v] := by
  subst hM
  intro H locs ls hP hS hl
  show W _ _ _ _ _ _ _ _ _ _ _ _ _ _ E.2.2 _
  rw [show E.2.2 = _ from hQ]
  exact W.widen hk hs (vx_ret (W.lret C.1 C.2.1 C.2.2.2.2.2.2.2.2.1 (fun t ht hW => ⟨_, ho, rfl, by rw [ht]; exact hP, hS.F ht⟩) hS.2.2 hd.1 C.2.2.2.2.2.2.2.1))
theorem tv_fret {v : UInt32} (C : tvC E own cc nL (some .float) d mc ms tb) (hQ : tvEnd E P M1 o mc ms) (hd : tvD cc pc .freturn 1 pc') (ho : o = .inl (some (.float v))) (hM : M1 = M) (hk : k ≤ mc := by exact Nat.le_of_ble_eq_true rfl) (hs : sl ≤ ms := by exact Nat.le_of_ble_eq_true rfl) : tv_W E P k sl M pc L [.float v] := by
  subst hM
  intro H locs ls hP hS hl
  show W _ _ _ _ _ _ _ _ _ _ _ _ _ _ E.2.2 _
  rw [show E.2.2 = _ from hQ]
  exact W.widen hk hs (vx_ret (W.fret C.1 C.2.1 C.2.2.2.2.2.2.2.2.1 (fun t ht hW => ⟨_, ho, rfl, by rw [ht]; exact hP, hS.F ht⟩) hS.2.2 hd.1 C.2.2.2.2.2.2.2.1))
theorem tv_dret {v : UInt64} (C : tvC E own cc nL (some .double) d mc ms tb) (hQ : tvEnd E P M1 o mc ms) (hd : tvD cc pc .dreturn 1 pc') (ho : o = .inl (some (.double v))) (hM : M1 = M) (hk : k ≤ mc := by exact Nat.le_of_ble_eq_true rfl) (hs : sl ≤ ms := by exact Nat.le_of_ble_eq_true rfl) : tv_W E P k sl M pc L [.double v] := by
  subst hM
  intro H locs ls hP hS hl
  show W _ _ _ _ _ _ _ _ _ _ _ _ _ _ E.2.2 _
  rw [show E.2.2 = _ from hQ]
  exact W.widen hk hs (vx_ret (W.dret C.1 C.2.1 C.2.2.2.2.2.2.2.2.1 (fun t ht hW => ⟨_, ho, rfl, by rw [ht]; exact hP, hS.F ht⟩) hS.2.2 hd.1 C.2.2.2.2.2.2.2.1))
theorem tv_vret (C : tvC E own cc nL none d mc ms tb) (hQ : tvEnd E P M1 o mc ms) (hd : tvD cc pc .return_ 1 pc') (ho : o = .inl none) (hM : M1 = M) (hk : k ≤ mc := by exact Nat.le_of_ble_eq_true rfl) (hs : sl ≤ ms := by exact Nat.le_of_ble_eq_true rfl) : tv_W E P k sl M pc L [] := by
  subst hM
  intro H locs ls hP hS hl
  show W _ _ _ _ _ _ _ _ _ _ _ _ _ _ E.2.2 _
  rw [show E.2.2 = _ from hQ]
  exact W.widen hk hs (vx_ret (W.vret C.1 C.2.1 C.2.2.2.2.2.2.2.2.1 (fun t ht hW => ⟨_, ho, rfl, by rw [ht]; exact hP, hS.F ht⟩) hS.2.2 hd.1 C.2.2.2.2.2.2.2.1))
theorem tv_aret {v : Nat} {C0 : String} (C : tvC E own cc nL (some (.object C0)) d mc ms tb) (hQ : tvEnd E P M1 o mc ms) (hd : tvD cc pc .areturn 1 pc') (ho : o = .inl (some (.ref v))) (hM : M1 = M) (hk : k ≤ mc := by exact Nat.le_of_ble_eq_true rfl) (hs : sl ≤ ms := by exact Nat.le_of_ble_eq_true rfl) : tv_W E P k sl M pc L [.ref v] := by
  subst hM
  intro H locs ls hP hS hl
  show W _ _ _ _ _ _ _ _ _ _ _ _ _ _ E.2.2 _
  rw [show E.2.2 = _ from hQ]
  exact W.widen hk hs (vx_ret (W.aret C.1 C.2.1 C.2.2.2.2.2.2.2.2.1 (Or.inl ⟨_, rfl⟩) (Or.inr ⟨_, rfl⟩) (fun t ht hW => ⟨_, ho, rfl, by rw [ht]; exact hP, hS.F ht⟩) hS.2.2 hd.1 C.2.2.2.2.2.2.2.1))
/-- an exception that no handler here catches -/
theorem tv_out {e : String} (C : tvC E own cc nL ret d mc ms []) (hQ : tvEnd E P M1 o mc ms) (ho : o = .inr e) (hM : M1 = M) (hk : k ≤ mc := by exact Nat.le_of_ble_eq_true rfl) (hs : sl ≤ ms := by exact Nat.le_of_ble_eq_true rfl) : tv_X E P k sl M pc L st e := by
  subst hM
  intro H locs ls q ce hP hS hl hq hv hc
  rw [show E.2.2 = _ from hQ]
  refine vx_out (fun x hx => ?_) C.2.2.2.2.2.2.2.1 hq hv hc (fun t ht hW => ⟨ho, by rw [ht]; exact hP, hS.F ht⟩) hS.2.2 hk hs
  rw [C.2.2.2.2.2.2.2.2.2] at hx
  cases hx
theorem tv_after {a : Array Value} {st0 : List Value} {mc' ms' : Nat} {H : Heap} {locs : List Loc} {ls : Array Slot} (hr : vx_Run E.1.1 E.2.1.1 E.1.2.1 E.R E.s E.m E.args E.below E.meth E.c H locs k sl mc' ms' (F0 E.m pc ls st0) st (tvQc E.G P1 M1 o a) (tvXC E.G P1 M1 o) (tvA E.G)) (hS : va_S (tvA E.G) E.s.heap H locs) (hl : tvLok L E.c.maxLocals ls)
    (kk : ∀ v : Option Value, o = .inl v → tv_W E P1 (k + mc') (sl + ms') M1 (pc + 3) L (v.toList ++ st)) (kx : ∀ e : String, o = .inr e → tv_X E P1 (k + mc') (sl + ms') M1 pc L st e) : tvw E H locs k sl (F0 E.m pc ls st0) := by
  intro T hT X
  rcases hr T hT X with ⟨v, st₀, t, T', L1, h0, X', hL, e1, e2, ⟨v', ho, hv, hP1, hF⟩, hst⟩ | ⟨q, st₀, t, T', L1, e, ce, h0, X', hL, e1, e2, ⟨ho, hP1, hF⟩, hce, hcv, hcl, hst⟩
  · have hvv : v = v' := by cases hv; rfl
    subst hvv
    obtain ⟨k1, k2, k3⟩ := vx_keep h0 e1 hS (fun _ _ h => h) (fun _ h => h) hL hF
    obtain ⟨t2, a1, b1⟩ := kk v ho T'.heap (locs ++ L1) ls (by rw [e1]; exact hP1) k3 hl T' rfl X'
    exact ⟨t2, hst t2 a1, b1⟩
  · obtain ⟨k1, k2, k3⟩ := vx_keep h0 e1 hS (fun _ _ h => h) (fun _ h => h) hL hF
    obtain ⟨t2, a1, b1⟩ := kx e ho T'.heap (locs ++ L1) ls q ce (by rw [e1]; exact hP1) k3 hl (by rw [e1]; exact hce) hcv hcl T' rfl X'
    exact ⟨t2, hst.trans a1, b1⟩
theorem tv_callV {b ci idx n' ar d' mc' ms' N : Nat} {y : MethodName} {cc' : ByteArray} {ret' : Option FieldType} {As st0 : List Value} {T : u_T} (C : tvC E own cc nL ret d mc ms tb) (hd : tvD cc pc (.invokevirtual idx) 3 pc') (hl : Cond.methodLink own idx y ∈ tvGW) (hY : tvYk y cc' n' ret' ar) (hI : tvYi y) (hR : tvRun E.G y cc' n' ret' d' mc' ms' P P1 (.ref (E.G.2.1 + b) :: As) M o M1) (hb : b < P.1) (hs : tvSh b = (0, ci)) (hc : tvCl[ci]? = some (y.cls, T, N)) (hst : st0 = As.reverse ++ .ref (E.G.2.1 + b) :: st) (hn : As.length = ar) (hcat : (st.map fun v => v.category).sum ≤ 8) (hdd : d' + 1 ≤ d) (hnn : n' ≤ 45) (hkk : k + mc' ≤ mc) (hss : sl + ms' ≤ ms)
    (kk : ∀ v : Option Value, o = .inl v → tv_W E P1 (k + mc') (sl + ms') M1 pc' L (v.toList ++ st)) (kx : ∀ e : String, o = .inr e → tv_X E P1 (k + mc') (sl + ms') M1 pc L st e) : tv_W E P k sl M pc L st0 := by
  obtain ⟨hd, rfl⟩ := hd
  obtain ⟨hx, hb1, hml, hown, hts, hK, hRm, hlk, hrt, htb⟩ := C
  obtain ⟨y1, y2, y3, y4, y5⟩ := hY
  intro H locs ls hP hS hL
  have he := tvWs_get E.G P M hb
  rw [hs] at he
  have hcb : CallW E.R E.s E.args own y.cls idx y cc' n' ret' (tvWd y cc' n' ret') (tvRm d' mc' ms') mc' ms' ar := by
    refine ⟨callB_of ar hts (tvWd_good y1) rfl rfl rfl (hts _ y2) (hts _ hl) ⟨y3.1, y3.2, y4⟩ ⟨?_, ?_⟩, hts _ hI.1, hts _ hI.2⟩
    · rw [hRm]; exact hdd
    · rw [hRm]; show 8 + (n' + 11) + 64 * d' ≤ 64 * d; omega
  refine tv_after (vx_runV ⟨hx, hb1, hml, hown, hts⟩ hR hcb ⟨tvPre_blind, va_recv hK.1 hP.1 hc he, fun U hU hW => ⟨rfl, by rw [hU]; exact hP, hK.go hS hU hW⟩⟩ rfl hn (hL.1.trans hml) hst (lv_room hcat) hd ⟨by rw [hRm]; exact hkk, by rw [hRm]; exact hss⟩) hS hL kk kx
theorem tv_callS {idx n' ar d' mc' ms' : Nat} {y : MethodName} {cc' : ByteArray} {ret' : Option FieldType} {As st0 : List Value} (C : tvC E own cc nL ret d mc ms tb) (hd : tvD cc pc (.invokestatic idx) 3 pc') (hl : Cond.methodLink own idx y ∈ tvGW) (hY : tvYk y cc' n' ret' ar) (hI : Cond.static y ∈ tvGW) (hR : tvRun E.G y cc' n' ret' d' mc' ms' P P1 As M o M1) (hst : st0 = As.reverse ++ st) (hn : As.length = ar) (hcat : (st.map fun v => v.category).sum ≤ 8) (hdd : d' + 1 ≤ d) (hnn : n' ≤ 45) (hkk : k + mc' ≤ mc) (hss : sl + ms' ≤ ms)
    (kk : ∀ v : Option Value, o = .inl v → tv_W E P1 (k + mc') (sl + ms') M1 pc' L (v.toList ++ st)) (kx : ∀ e : String, o = .inr e → tv_X E P1 (k + mc') (sl + ms') M1 pc L st e) : tv_W E P k sl M pc L st0 := by
  obtain ⟨hd, rfl⟩ := hd
  obtain ⟨hx, hb1, hml, hown, hts, hK, hRm, hlk, hrt, htb⟩ := C
  obtain ⟨y1, y2, y3, y4, y5⟩ := hY
  intro H locs ls hP hS hL
  have hcb : CallB E.R E.s E.args own idx y cc' n' ret' (tvWd y cc' n' ret') (tvRm d' mc' ms') mc' ms' ar := by
    refine callB_of ar hts (tvWd_good y1) rfl rfl rfl (hts _ y2) (hts _ hl) ⟨y3.1, y3.2, y4⟩ ⟨?_, ?_⟩
    · rw [hRm]; exact hdd
    · rw [hRm]; show 8 + (n' + 11) + 64 * d' ≤ 64 * d; omega
  refine tv_after (vx_runS ⟨hx, hb1, hml, hown, hts⟩ hR ⟨hcb, hts _ hI⟩ ⟨tvPre_blind, fun U hU hW => ⟨rfl, by rw [hU]; exact hP, hK.go hS hU hW⟩⟩ rfl hn (hL.1.trans hml) hst (lv_room hcat) hd ⟨by rw [hRm]; exact hkk, by rw [hRm]; exact hss⟩) hS hL kk kx
/-- a call that always returns -/
theorem tv_callVr {b ci idx n' ar d' mc' ms' N : Nat} {y : MethodName} {cc' : ByteArray} {ret' : Option FieldType} {As st0 : List Value} {T : u_T} {v : Option Value} (C : tvC E own cc nL ret d mc ms tb) (hd : tvD cc pc (.invokevirtual idx) 3 pc') (hl : Cond.methodLink own idx y ∈ tvGW) (hY : tvYk y cc' n' ret' ar) (hI : tvYi y) (hR : tvRun E.G y cc' n' ret' d' mc' ms' P P1 (.ref (E.G.2.1 + b) :: As) M (.inl v) M1) (hb : b < P.1) (hs : tvSh b = (0, ci)) (hc : tvCl[ci]? = some (y.cls, T, N)) (hst : st0 = As.reverse ++ .ref (E.G.2.1 + b) :: st) (hn : As.length = ar) (hcat : (st.map fun v => v.category).sum ≤ 8) (hdd : d' + 1 ≤ d) (hnn : n' ≤ 45) (hkk : k + mc' ≤ mc) (hss : sl + ms' ≤ ms)
    (kk : tv_W E P1 (k + mc') (sl + ms') M1 pc' L (v.toList ++ st)) : tv_W E P k sl M pc L st0 :=
  tv_callV C hd hl hY hI hR hb hs hc hst hn hcat hdd hnn hkk hss (fun v' h => by cases h; exact kk) (fun e h => by cases h)
theorem tv_callSr {idx n' ar d' mc' ms' : Nat} {y : MethodName} {cc' : ByteArray} {ret' : Option FieldType} {As st0 : List Value} {v : Option Value} (C : tvC E own cc nL ret d mc ms tb) (hd : tvD cc pc (.invokestatic idx) 3 pc') (hl : Cond.methodLink own idx y ∈ tvGW) (hY : tvYk y cc' n' ret' ar) (hI : Cond.static y ∈ tvGW) (hR : tvRun E.G y cc' n' ret' d' mc' ms' P P1 As M (.inl v) M1) (hst : st0 = As.reverse ++ st) (hn : As.length = ar) (hcat : (st.map fun v => v.category).sum ≤ 8) (hdd : d' + 1 ≤ d) (hnn : n' ≤ 45) (hkk : k + mc' ≤ mc) (hss : sl + ms' ≤ ms)
    (kk : tv_W E P1 (k + mc') (sl + ms') M1 pc' L (v.toList ++ st)) : tv_W E P k sl M pc L st0 :=
  tv_callS C hd hl hY hI hR hst hn hcat hdd hnn hkk hss (fun v' h => by cases h; exact kk) (fun e h => by cases h)
end TVX
