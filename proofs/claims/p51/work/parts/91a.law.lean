def R_law : String := "TideVaultLaw"
def lw_P (b : Addr) (xs : List Int32) (args : Array Value) (s : State) : Prop := args = #[.ref b] ∧ s.IntsAt b xs ∧ xs.length ≤ 260 ∧ (Jvm.Cond.and given_1 narrow_1).before args s = true
def lw_Q (_ : Array Value) (s : State) (o : Outcome) (t : State) : Prop := o = .returned (some (.int 1)) ∧ Framed s o t [] room_1.cells room_1.slots
def lw_Z (below : List Frame) (a : Array Value) (s : State) : State → Prop := fun t => ∃ o, t.status = .running ∧ Ended t below o ∧ lw_Q a s o t
/-- the law's own end, with 1 on the stack, nothing written that was there before, its room as the claim has it -/
theorem lw_retR {p : Program} {l : Launch} {e : Env} {R : Room} {s : State} {m : MethodId} {below : List Frame} {meth : Method} {c : Code} {b : Nat} (hx : p.tables.exec = Jvm.exec) (hb : c.code = code) (hr : meth.sig.returnType = ret) (hlocks : meth.locks = false) {pc : Nat} {H : Heap} {ls : Array Slot} (hdg : decode code pc = .ok (.ireturn, 1)) : W p l e R s m #[Value.ref b] below meth c H [] room_1.cells room_1.slots (lw_Z below #[Value.ref b] s) (F0 m pc ls [.int 1]) := by
  intro T hT X
  obtain ⟨fs, hret, hrun, hended, hW, hframe⟩ := X.leave (v := some (.int 1)) (hlocks := hlocks) (fun h => by rw [hr] at h; cases h)
  have hmeth' : T.vm.method? m = some meth := X.method'
  refine ⟨T.setFrames fs, ?_, .returned (some (.int 1)), hrun, hended, rfl, ⟨_, rfl⟩, hW, hframe⟩
  jvm_step X.here [X.here.top, hx, hb, hdg, hmeth', hr, ret, narrow_b1]
  (try refine ⟨rfl, ?_⟩); (try refine ⟨rfl, ?_⟩)
  first | (intro acts; rw [hret _ acts rfl rfl rfl]) | rw [hret _ _ rfl rfl rfl]
  exact Steps.refl _
/-- what holds at the law's entry: the machine, the code, the tables' words (any of lw_tbl by 'hts w (by decide +kernel)'), the script of L ints xs at the cell b, what the Statement gives of the start (any of its parts by flat_of_before) -/
def lw_At (p : Program) (s : State) (m : MethodId) (meth : Method) (c : Code) (b L : Nat) (xs : Nat → Int32) : Prop :=
  p.tables.exec = Jvm.exec ∧ c.code = code ∧ meth.sig.returnType = ret ∧ c.maxLocals = 6 ∧ s.vm.findClass R_law = some m.cls ∧ (∀ w ∈ lw_tbl, w.before #[Value.ref b] s = true) ∧ va_X b L xs s s.heap ∧ b < s.heap.size ∧ meth.locks = false ∧ (Jvm.Cond.and given_1 narrow_1).before #[Value.ref b] s = true ∧ c.exceptionTable.toList = []
theorem dk_L_law_end : decode cL_law 311 = .ok (.ireturn, 1) := by decide +kernel
theorem whole_start {p : Program} {e : Env} {s : State} {m : MethodId} {below : List Frame} {meth : Method} {c : Code} (l : Launch) (hflags : l.flags = flags0) {b L : Nat} {xs : Nat → Int32} (hL : L ≤ 260) (C0 : lw_At p s m meth c b L xs) : W p l e room_1 s m #[Value.ref b] below meth c s.heap [] 0 0 (lw_Z below #[Value.ref b] s) (entryFrame m ([Value.ref b] : List Value).toArray 6) := by
  obtain ⟨hx, hb, hr, hml, hown, hts, hX, hbl, hlocks, hgv, htb⟩ := id C0
  have hf : ∀ w ∈ tvFC, w.before #[Value.ref b] s = true := flat_of_before _ hgv
  have hst : l.stackTraces = false := by
    unfold Launch.stackTraces
    rw [hflags]
    decide
  obtain ⟨G, g1, g2, g3, g4, hK⟩ := tvK_start l hst hts hf hX hbl hL
  subst g1
  subst g4
  refine tv_roomy (R' := tvRm 1000 150000 1500000) (Nat.le_of_ble_eq_true rfl) (Nat.le_of_ble_eq_true rfl) (Nat.le_of_ble_eq_true rfl) (Nat.le_of_ble_eq_true rfl) ?_
  obtain ⟨E, hE⟩ : ∃ E : tvE, E = ((p, e, tvRm 1000 150000 1500000, s, m, #[Value.ref G.sb], below, meth, c), G, lw_Z below #[Value.ref G.sb] s) := ⟨_, rfl⟩
  have C : tvC E RL cL_law 6 (some .boolean) 1000 150000 1500000 [] := by
    rw [hE]
    exact ⟨hx, hb, hml, hown, tvGW_of hts, hK, rfl, hlocks, hr, htb⟩
  have hend : ∀ (k sl : Nat) (M : tvM) (X : va_W) (L : List (Option Value)), k ≤ 150000 → sl ≤ 1500000 → tv_W E (tvPX X) k sl M 311 L [.int 1] := by
    rw [hE]
    intro k sl M X L hk hs H locs ls hP hS hLs
    refine va_forget (fun q hq => ?_) ?_
    · have h1 : G.2.1 ≤ q.base := (hS.2.2 q hq).1
      rw [g2] at h1
      exact h1
    · refine W.widen (Nat.le_trans hk (show (150000 : Nat) ≤ room_1.cells from Nat.le_of_ble_eq_true rfl)) (Nat.le_trans hs (show (1500000 : Nat) ≤ room_1.slots from Nat.le_of_ble_eq_true rfl)) ?_
      exact lw_retR hx hb hr hlocks dk_L_law_end
  have key := w_law C hend
  rw [hE] at key
  have hl := lv_entry ([.ref G.sb]) (n := 6) (Nat.le_of_ble_eq_true rfl)
  rw [lg_entry_eq]
  refine key s.heap [] _ ⟨fun k q h => absurd h (by simp [tvWs]), fun _ => ?_, Nat.zero_le _, tvXc_nil _ _⟩ va_S.rf ?_
  · show s.heap.size = G.2.1 + 0
    omega
  · show lv_has _ c.maxLocals (tvEl 0 [some (.ref G.sb), none, none, none, none, none])
    rw [show tvEl 0 [some (.ref G.sb), none, none, none, none, none] = lv_args 0 [.ref G.sb] from rfl, hml]
    exact hl
