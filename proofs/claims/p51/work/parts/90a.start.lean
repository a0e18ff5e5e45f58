theorem tv_hr {s : State} {pl : Platform} {r r' : Room} (hf : r.frames ≤ r'.frames) (hl : r.locals ≤ r'.locals) (hc : r.cells ≤ r'.cells) (hs : r.slots ≤ r'.slots) (h : s.hasRoom pl r' = true) : s.hasRoom pl r = true := by
  simp only [State.hasRoom, Bool.and_eq_true, decide_eq_true_eq] at h ⊢
  obtain ⟨⟨⟨⟨y, a, b, c, d, e⟩, f⟩, g⟩, i⟩ := h
  exact ⟨⟨⟨⟨by omega, by omega, by omega, by omega, by omega, e⟩, by omega⟩, by omega⟩, i⟩
/-- with less room -/
theorem tv_roomy {p : Program} {l : Launch} {e : Env} {R R' : Room} {s : State} {m : MethodId} {args : Array Value} {below : List Frame} {meth : Method} {c : Code} {H : Heap} {locs : List Loc} {cells slots : Nat} {Q : State → Prop} {g : JFrame} (hf : R'.frames ≤ R.frames) (hl : R'.locals ≤ R.locals) (hc : R'.cells ≤ R.cells) (hs : R'.slots ≤ R.slots) (kk : W p l e R' s m args below meth c H locs cells slots Q g) : W p l e R s m args below meth c H locs cells slots Q g := fun T hT X => kk T hT { X with room := tv_hr hf hl hc hs X.room }
theorem tvArr {s : State} {A : Array Value} {ty : FieldType} (h : (Cond.arrayClass ty).before A s = true) : ∃ c : ClassId, ArrOfT s c ty ∧ s.vm.findClass ("[" ++ ty.toString) = some c := by
  obtain ⟨c, k, comp, h1, h2, h3⟩ := Cond.arrayClass_spec h
  exact ⟨c, fun n z => ⟨(fun k h => by cases h), k, h2, comp, h3⟩, h1⟩
theorem tvArrO {s : State} {A : Array Value} {C : String} (h : (Cond.arrayOver (.object C)).before A s = true) : ∃ c : ClassId, ArrOfT s c (.object C) ∧ va_RA s c (.object C) := by
  obtain ⟨comp, c, k, h1, h2, h3, h4, h5⟩ := Cond.arrayOver_spec h
  exact ⟨c, fun n z => ⟨(fun k h => by cases h), k, h3, comp, h4⟩, k, comp, h3, h4, h1, h5⟩
theorem tvGW_of {s : State} {A : Array Value} (hts : ∀ w ∈ lw_tbl, w.before A s = true) : ∀ w ∈ tvGW, w.before A s = true := fun w hw => hts w (List.mem_filter.mp hw).1
theorem tvEqR {s : State} {A : Array Value} {t1 t2 : Term} {a b : Nat} (h : (Cond.eq t1 t2).before A s = true) (h1 : t1.eval A s none [] s = some (.ref a)) (h2 : t2.eval A s none [] s = some (.ref b)) : a = b := by
  simp only [Cond.before, Cond.holds, Cond.value, h1, h2] at h
  simpa using h
theorem tvStart_cl {s : State} {A : Array Value} (hg : ∀ w ∈ tvGW, w.before A s = true) : ∃ (dC : Nat → ClassId) (dI : Nat → Nat → Nat), ∀ (c : Nat) (q : vw_C), tvCl[c]? = some q → u_Kn s q.1 q.2.1 q.2.2 (dC c) (dI c) := by
  have h0 : ∀ c : Nat, ∃ x : ClassId × (Nat → Nat), ∀ q : vw_C, tvCl[c]? = some q → u_Kn s q.1 q.2.1 q.2.2 x.1 x.2 := by
    intro c
    match c with
    | 0 =>
      obtain ⟨x, y, h⟩ := u_known (C := RX0) (T := TX0) (N := 10) (n := 10) hg tvIn_0 (hg _ (tvgc (tvc_2 (List.mem_of_getElem? (i := 224) (by decide +kernel))) rfl))
      exact ⟨(x, y), fun q hq => by cases hq; exact h⟩
    | 1 =>
      obtain ⟨x, y, h⟩ := u_known (C := RX1) (T := TX1) (N := 3) (n := 3) hg tvIn_1 (hg _ (tvgc (tvc_3 (List.mem_of_getElem? (i := 164) (by decide +kernel))) rfl))
      exact ⟨(x, y), fun q hq => by cases hq; exact h⟩
    | 2 =>
      obtain ⟨x, y, h⟩ := u_known (C := RX2) (T := TX2) (N := 4) (n := 4) hg tvIn_2 (hg _ (tvgc (tvc_3 (List.mem_of_getElem? (i := 46) (by decide +kernel))) rfl))
      exact ⟨(x, y), fun q hq => by cases hq; exact h⟩
    | 3 =>
      obtain ⟨x, y, h⟩ := u_known (C := RX3) (T := TX3) (N := 2) (n := 2) hg tvIn_3 (hg _ (tvgc (tvc_3 (List.mem_of_getElem? (i := 210) (by decide +kernel))) rfl))
      exact ⟨(x, y), fun q hq => by cases hq; exact h⟩
    | 4 =>
      obtain ⟨x, y, h⟩ := u_known (C := RX4) (T := TX4) (N := 5) (n := 5) hg tvIn_4 (hg _ (tvgc (tvc_2 (List.mem_of_getElem? (i := 5) (by decide +kernel))) rfl))
      exact ⟨(x, y), fun q hq => by cases hq; exact h⟩
    | 5 =>
      obtain ⟨x, y, h⟩ := u_known (C := RX5) (T := TX5) (N := 6) (n := 6) hg tvIn_5 (hg _ (tvgc (tvc_3 (List.mem_of_getElem? (i := 184) (by decide +kernel))) rfl))
      exact ⟨(x, y), fun q hq => by cases hq; exact h⟩
    | 6 =>
      obtain ⟨x, y, h⟩ := u_known (C := RX6) (T := TX6) (N := 9) (n := 9) hg tvIn_6 (hg _ (tvgc (tvc_2 (List.mem_of_getElem? (i := 56) (by decide +kernel))) rfl))
      exact ⟨(x, y), fun q hq => by cases hq; exact h⟩
    | 7 =>
      obtain ⟨x, y, h⟩ := u_known (C := RX7) (T := TX7) (N := 2) (n := 2) hg tvIn_7 (hg _ (tvgc (tvc_1 (List.mem_of_getElem? (i := 187) (by decide +kernel))) rfl))
      exact ⟨(x, y), fun q hq => by cases hq; exact h⟩
    | 8 =>
      obtain ⟨x, y, h⟩ := u_known (C := RX8) (T := TX8) (N := 10) (n := 10) hg tvIn_8 (hg _ (tvgc (tvc_1 (List.mem_of_getElem? (i := 38) (by decide +kernel))) rfl))
      exact ⟨(x, y), fun q hq => by cases hq; exact h⟩
    | 9 =>
      obtain ⟨x, y, h⟩ := u_known (C := RJ4) (T := TJ4) (N := 4) (n := 4) hg xi_9 (hg _ (tvgc (tvc_4 (List.mem_of_getElem? (i := 203) (by decide +kernel))) rfl))
      exact ⟨(x, y), fun q hq => by cases hq; exact h⟩
    | 10 =>
      obtain ⟨x, y, h⟩ := u_known (C := RJ0) (T := TJ0) (N := 4) (n := 4) hg xi_10 (hg _ (tvgc (tvc_2 (List.mem_of_getElem? (i := 115) (by decide +kernel))) rfl))
      exact ⟨(x, y), fun q hq => by cases hq; exact h⟩
    | c + 11 => exact ⟨(0, fun _ => 0), fun q hq => by simp [tvCl] at hq⟩
  obtain ⟨f, hf⟩ := Classical.axiomOfChoice h0
  exact ⟨fun c => (f c).1, fun c => (f c).2, hf⟩
/-- the array classes -/
theorem tvStart_ar {s : State} {A : Array Value} (hg : ∀ w ∈ lw_tbl, w.before A s = true) : ∃ cA : Nat → ClassId, ∀ (k : Nat) (q : ClassId × FieldType), [(cA 0, FieldType.int), (cA 1, .char), (cA 2, .byte), (cA 3, .byte), (cA 4, .object RX6)][k]? = some q → ArrOfT s q.1 q.2 ∧ va_RA s q.1 q.2 := by
  obtain ⟨c0, a0, b0⟩ := tvArr (ty := .int) (hg _ (tvc_3 (List.mem_of_getElem? (i := 66) (by decide +kernel))))
  obtain ⟨c1, a1, b1⟩ := tvArr (ty := .char) (hg _ (tvc_3 (List.mem_of_getElem? (i := 105) (by decide +kernel))))
  obtain ⟨c2, a2, b2⟩ := tvArr (ty := .byte) (hg _ (tvc_1 (List.mem_of_getElem? (i := 115) (by decide +kernel))))
  obtain ⟨c4, a4, b4⟩ := tvArrO (C := RX6) (hg _ (tvc_3 (List.mem_of_getElem? (i := 170) (by decide +kernel))))
  refine ⟨fun k => [c0, c1, c2, c2, c4].getD k 0, fun k q hq => ?_⟩
  match k, hq with
  | 0, hq => cases hq; exact ⟨a0, b0⟩
  | 1, hq => cases hq; exact ⟨a1, b1⟩
  | 2, hq => cases hq; exact ⟨a2, b2⟩
  | 3, hq => cases hq; exact ⟨a2, b2⟩
  | 4, hq => cases hq; exact ⟨a4, b4⟩
  | k + 5, hq => simp at hq
