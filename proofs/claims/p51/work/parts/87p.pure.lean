/-! ===== the memory behind the constructor ===== -/
def tvZ : tvM := (fun _ _ => 0, fun _ _ => 0, fun _ _ => 0)
theorem tvMz_Z (n : Nat) : tvMz tvZ n = tvZ := by
  refine Prod.ext (funext fun x => ?_) (Prod.ext (funext fun x => ?_) (funext fun x => ?_))
  · show (if x = n then (fun _ => (0 : Int32)) else fun _ => 0) = fun _ => 0
    split <;> rfl
  · show (if x = n then (fun _ => (0 : Int64)) else fun _ => 0) = fun _ => 0
    split <;> rfl
  · show (if x = n then (fun _ => (0 : UInt64)) else fun _ => 0) = fun _ => 0
    split <;> rfl
theorem tvMz_t (M : tvM) {a n : Nat} (k : Nat) (v : Int32) (h : a ≠ n) : tvMz (tpi M a k v) n = tpi (tvMz M n) a k v := by
  refine Prod.ext (funext fun x => funext fun j => ?_) rfl
  show (if x = n then (fun _ => (0 : Int32)) else fun j => if x = a ∧ j = k then v else M.1 x j) j = (if x = a ∧ j = k then v else (if x = n then (fun _ => (0 : Int32)) else M.1 x) j)
  by_cases q : x = n
  · rw [if_pos q, if_neg (fun z => h (z.1.symm.trans q)), if_pos q]
  · rw [if_neg q, if_neg q]
def tvM1 : tvM := i_X8_init_m (tvMz tvZ 0)
def tvR1 : tvR := i_X8_init_r (tvRz (fun _ _ => none) 0)
set_option maxRecDepth 50000 in
set_option maxHeartbeats 4000000 in
theorem tvM1_eq : tvM1 = (tpi (tpi (tpi (tpi (tpi (tpi (tpi (tpi (tpi (tpi (tpi (tpi (tpi (tpi (tpi (tpi (tpi (tpi (tpi (tpi (tpi (tpi (tpi (tpi (tpi (tpi tvZ (1 + 1) 0 240) (1 + 1) 1 60) (21 + 1) 0 240) (21 + 1) 1 60) (41 + 1) 0 240) (41 + 1) 1 60) (63 + 1) 0 240) (63 + 1) 1 60) (83 + 1) 0 240) (83 + 1) 1 60) (103 + 1) 0 240) (103 + 1) 1 60) (123 + 1) 0 240) (123 + 1) 1 60) (143 + 1) 0 240) (143 + 1) 1 60) (163 + 1) 0 240) (163 + 1) 1 60) (183 + 1) 0 240) (183 + 1) 1 60) (203 + 1) 0 240) (203 + 1) 1 60) (223 + 1) 0 240) (223 + 1) 1 60) 0 7 (-1)) 0 8 (-1)) := by
  unfold tvM1
  simp (disch := decide) only [i_X8_init_m, i_X1_init_m, i_X6_init_m, i_X7_init_m, i_X0_init_m, i_X2_init_m, i_X3_init_m, i_X4_init_m, i_X5_init_m, tvMz_t, tvMz_Z]
theorem tvM1_0 {a : Nat} (h0 : a ≠ 0) (h3 : a ≠ 1 + 1 ∧ a ≠ 21 + 1 ∧ a ≠ 41 + 1 ∧ a ≠ 63 + 1 ∧ a ≠ 83 + 1 ∧ a ≠ 103 + 1 ∧ a ≠ 123 + 1 ∧ a ≠ 143 + 1 ∧ a ≠ 163 + 1 ∧ a ≠ 183 + 1 ∧ a ≠ 203 + 1 ∧ a ≠ 223 + 1) (j : Nat) : tvM1.1 a j = 0 := by
  rw [tvM1_eq, tpi_o _ _ _ (by omega), tpi_o _ _ _ (by omega), tpi_o _ _ _ (by omega), tpi_o _ _ _ (by omega), tpi_o _ _ _ (by omega), tpi_o _ _ _ (by omega), tpi_o _ _ _ (by omega), tpi_o _ _ _ (by omega), tpi_o _ _ _ (by omega), tpi_o _ _ _ (by omega), tpi_o _ _ _ (by omega), tpi_o _ _ _ (by omega), tpi_o _ _ _ (by omega), tpi_o _ _ _ (by omega), tpi_o _ _ _ (by omega), tpi_o _ _ _ (by omega), tpi_o _ _ _ (by omega), tpi_o _ _ _ (by omega), tpi_o _ _ _ (by omega), tpi_o _ _ _ (by omega), tpi_o _ _ _ (by omega), tpi_o _ _ _ (by omega), tpi_o _ _ _ (by omega), tpi_o _ _ _ (by omega), tpi_o _ _ _ (by omega), tpi_o _ _ _ (by omega)]
  rfl
theorem tvM1_b (k : Nat) : tvM1.1 2 k = if k = 1 then 60 else if k = 0 then 240 else 0 := by
  rw [tvM1_eq, tpi_o _ _ _ (by decide), tpi_o _ _ _ (by decide), tpi_o _ _ _ (by decide), tpi_o _ _ _ (by decide), tpi_o _ _ _ (by decide), tpi_o _ _ _ (by decide), tpi_o _ _ _ (by decide), tpi_o _ _ _ (by decide), tpi_o _ _ _ (by decide), tpi_o _ _ _ (by decide), tpi_o _ _ _ (by decide), tpi_o _ _ _ (by decide), tpi_o _ _ _ (by decide), tpi_o _ _ _ (by decide), tpi_o _ _ _ (by decide), tpi_o _ _ _ (by decide), tpi_o _ _ _ (by decide), tpi_o _ _ _ (by decide), tpi_o _ _ _ (by decide), tpi_o _ _ _ (by decide), tpi_o _ _ _ (by decide), tpi_o _ _ _ (by decide), tpi_o _ _ _ (by decide), tpi_o _ _ _ (by decide)]
  by_cases q : k = 1
  · rw [q]; rfl
  · rw [if_neg q, tpi_k _ _ _ q]
    by_cases q0 : k = 0
    · rw [q0]; rfl
    · rw [if_neg q0, tpi_k _ _ _ q0]; rfl
theorem tvM1_v {k : Nat} (h : k ≠ 7) (h2 : k ≠ 8) : tvM1.1 0 k = 0 := by
  rw [tvM1_eq, tpi_k _ _ _ h2, tpi_k _ _ _ h, tpi_o _ _ _ (by decide), tpi_o _ _ _ (by decide), tpi_o _ _ _ (by decide), tpi_o _ _ _ (by decide), tpi_o _ _ _ (by decide), tpi_o _ _ _ (by decide), tpi_o _ _ _ (by decide), tpi_o _ _ _ (by decide), tpi_o _ _ _ (by decide), tpi_o _ _ _ (by decide), tpi_o _ _ _ (by decide), tpi_o _ _ _ (by decide), tpi_o _ _ _ (by decide), tpi_o _ _ _ (by decide), tpi_o _ _ _ (by decide), tpi_o _ _ _ (by decide), tpi_o _ _ _ (by decide), tpi_o _ _ _ (by decide), tpi_o _ _ _ (by decide), tpi_o _ _ _ (by decide), tpi_o _ _ _ (by decide), tpi_o _ _ _ (by decide), tpi_o _ _ _ (by decide), tpi_o _ _ _ (by decide)]
  rfl
def tvS0 (k : Nat) : Nat := if k = 1 then 240 else if k = 2 then 60 else 0
theorem tvS0_0 {k : Nat} (h : k ≠ 1) (h2 : k ≠ 2) : tvS0 k = 0 := by unfold tvS0; rw [if_neg h, if_neg h2]
theorem pOk_0 : pOk 0 (pV tvM1 1) (pL tvM1 1) tvS0 := by
  have r0 : ∀ p k, p < 20 → p ≠ 1 → pV tvM1 1 p k = 0 := fun p k h1 h2 => tvM1_0 (by omega) (by omega) k
  have rl : pL tvM1 1 = 0 := by
    show tvM1.2.1 1 8 = 0
    rw [tvM1_eq]
    rfl
  refine ⟨⟨fun k => ?_, by unfold pRs; decide, fun h hh => ?_, fun i hi => ?_, fun e he => ?_, rfl⟩, ⟨?_, fun h hh => absurd hh (Nat.not_lt_zero h), fun i hi => absurd hi (Nat.not_lt_zero i), 0, by omega, r0 16 0 (by omega) (by omega), r0 16 1 (by omega) (by omega), fun e he => absurd he (Nat.not_lt_zero e)⟩⟩
  · unfold tvS0
    split
    · omega
    · split <;> omega
  · unfold pRh
    rw [tvS0_0 (k := 12 + 3 * h + 1) (by omega) (by omega), tvS0_0 (k := 12 + 3 * h + 2) (by omega) (by omega)]
    exact ⟨by omega, by omega, fun _ => ⟨rfl, rfl⟩⟩
  · unfold pRx
    rw [tvS0_0 (k := 36 + 13 * i + 2) (by omega) (by omega), tvS0_0 (k := 36 + 13 * i + 3) (by omega) (by omega), tvS0_0 (k := 36 + 13 * i + 5) (by omega) (by omega), tvS0_0 (k := 36 + 13 * i + 6) (by omega) (by omega), tvS0_0 (k := 36 + 13 * i + 7) (by omega) (by omega)]
    exact ⟨by omega, by omega, by omega, by omega, by omega, fun j hj => by rw [tvS0_0 (by omega) (by omega)]; omega, fun _ => ⟨rfl, rfl⟩⟩
  · unfold pRe
    rw [tvS0_0 (by omega) (by omega), tvS0_0 (by omega) (by omega)]
    omega
  · rw [rl]
    exact ⟨r0 0 4 (by omega) (by omega), r0 0 5 (by omega) (by omega), r0 0 6 (by omega) (by omega), r0 0 7 (by omega) (by omega), rfl, tvM1_b 0, tvM1_b 1, r0 2 0 (by omega) (by omega), r0 6 0 (by omega) (by omega)⟩
theorem pG_0 : pG 0 tvM1 tvS0 0 0 (fun _ => tvS0) := by
  refine ⟨⟨pOk_0, ⟨fun h _ hh => absurd hh (Nat.not_lt_zero h), fun i _ hi => absurd hi (Nat.not_lt_zero i), fun e _ he => absurd he (Nat.not_lt_zero e), Nat.zero_le _, Nat.zero_le _⟩⟩, ⟨by omega, by omega, tvM1_0 (by omega) (by omega) _, tvM1_0 (by omega) (by omega) _⟩, fun i hi => absurd hi (Nat.not_lt_zero i)⟩
theorem zE_0 : zE tvM1 := tvM1_0 (by omega) (by omega) _
def tvLo (ρ : tvR) : Prop := ∀ a k, 20 ≤ k → ρ a k = none
theorem tvLo_n : tvLo (fun _ _ => none) := fun _ _ _ => rfl
theorem tvLo_z {ρ : tvR} {n : Nat} (h : tvLo ρ) : tvLo (tvRz ρ n) := fun a k hk => by
  show (if a = n then (fun _ => none) else ρ a) k = none
  split
  · rfl
  · exact h a k hk
theorem tvLo_p {ρ : tvR} {a j r : Nat} (hj : j < 20) (h : tvLo ρ) : tvLo (tvRp ρ a j r) := fun x k hk => by
  show (if x = a ∧ k = j then some r else ρ x k) = none
  rw [if_neg (by omega)]
  exact h x k hk
theorem tvLo_2 {ρ : tvR} {b : Nat} (h : tvLo ρ) : tvLo (i_X2_init_r b ρ) := by
  unfold i_X2_init_r
  repeat (first | exact h | refine tvLo_p (by decide) ?_ | refine tvLo_z ?_)
theorem tvLo_0 {ρ : tvR} {b : Nat} (h : tvLo ρ) : tvLo (i_X0_init_r b ρ) := by
  unfold i_X0_init_r
  repeat (first | exact h | refine tvLo_p (by decide) ?_ | refine tvLo_z ?_)
theorem tvLo_4 {ρ : tvR} {b : Nat} (h : tvLo ρ) : tvLo (i_X4_init_r b ρ) := by
  unfold i_X4_init_r
  repeat (first | exact h | refine tvLo_p (by decide) ?_ | refine tvLo_z ?_)
theorem tvLo_6 {ρ : tvR} {b : Nat} (h : tvLo ρ) : tvLo (i_X6_init_r b ρ) := by
  unfold i_X6_init_r
  repeat (first | exact h | refine tvLo_p (by decide) ?_ | refine tvLo_z ?_ | refine tvLo_4 ?_ | refine tvLo_0 ?_ | refine tvLo_2 ?_)
theorem tvLo_R1 : tvLo tvR1 := by
  unfold tvR1 i_X8_init_r i_X3_init_r i_X5_init_r i_X1_init_r
  repeat (first | exact tvLo_n | refine tvLo_p (by decide) ?_ | refine tvLo_z ?_ | refine tvLo_6 ?_)
theorem tvRefs_lo : ∀ q ∈ tvRefs, q.2.1 < 20 := by decide +kernel
theorem tvLo_Rho : tvLo tvRho := fun a k hk => by
  unfold tvRho
  rw [List.find?_eq_none.mpr]
  · rfl
  · intro q hq hz
    have h1 := tvRefs_lo q hq
    rw [Bool.and_eq_true, beq_iff_eq, beq_iff_eq] at hz
    omega
theorem tvR1_20 : ∀ a, a < 249 → (tvSh a).1 = 0 ∨ (tvSh a).1 = 5 → ∀ k, k < 20 → tvR1 a k = tvRho a k := by decide +kernel
theorem tvSh_5 : ∀ a, a < 249 → (tvSh a).1 ≤ 5 := by decide +kernel
theorem tvR1_row {a : Nat} (h : a < 249) (hk : (tvSh a).1 = 0 ∨ (tvSh a).1 = 5) : tvR1 a = tvRho a := funext fun k => by
  by_cases q : k < 20
  · exact tvR1_20 a h hk k q
  · rw [tvLo_R1 a k (by omega), tvLo_Rho a k (by omega)]
theorem tvEnt_r {z : Nat} {cA : Nat → ClassId} {s : Nat × Nat} {fi : Nat → Int32} {fl : Nat → Int64} {fd : Nat → UInt64} {fr fr' : Nat → Option Nat} (h : s.1 = 1 ∨ s.1 = 2 ∨ s.1 = 3 ∨ s.1 = 4) : tvEnt z cA s fi fl fd fr = tvEnt z cA s fi fl fd fr' := by
  obtain ⟨x, y⟩ := s
  rcases h with h | h | h | h <;> (have h' : x = _ := h; subst h'; rfl)
theorem tvWs_go (G : tvG) (M : tvM) : tvWs G (249, tvR1, True, []) M = tvWs G tvP0 M := by
  unfold tvWs
  refine List.map_congr_left fun a ha => ?_
  have h : a < 249 := List.mem_range.mp ha
  have h5 := tvSh_5 a h
  have e : tvEnt G.2.1 G.2.2.2.1 (tvSh a) (M.1 a) (M.2.1 a) (M.2.2 a) (tvR1 a) = tvEnt G.2.1 G.2.2.2.1 (tvSh a) (M.1 a) (M.2.1 a) (M.2.2 a) (tvRho a) := by
    by_cases q : (tvSh a).1 = 0 ∨ (tvSh a).1 = 5
    · rw [tvR1_row h q]
    · exact tvEnt_r (by omega)
  exact congrArg (fun x => (G.2.1 + a, x)) e
theorem tvP_go {G : tvG} {M : tvM} {H : Heap} (h : tvP G (249, tvR1, True, []) M H) : tvP G tvP0 M H := by
  refine ⟨?_, fun z => z.elim, Nat.le_refl _, tvXc_nil _ _⟩
  rw [← tvWs_go G M]
  exact h.1
/-! ===== a contract from another phase ===== -/
def tvRunB (G : tvG) (y : MethodName) (ws : List Cond) (d mc ms : Nat) (P : tvPh) (args : List Value) (M : tvM) (post : tvO → va_W → tvM → Prop) : Prop :=
  ∃ (Qc : Array Value → State → Outcome → State → Prop) (XC : String → State → State → Prop), vx_Met G.1 y ws (tvRm d mc ms) (va_Pc args (tvPre G P M)) Qc XC mc ms (tvA G) ∧
    (∀ a st v t, Qc a st (.returned v) t → ∃ (X1 : va_W) (M1 : tvM), post (.inl v) X1 M1 ∧ tvP G (tvPX X1) M1 t.heap ∧ va_F (tvA G) st t) ∧
    (∀ e st t, XC e st t → ∃ (X1 : va_W) (M1 : tvM), post (.inr e) X1 M1 ∧ tvP G (tvPX X1) M1 t.heap ∧ va_F (tvA G) st t)
theorem tvRunB.of {G : tvG} {y : MethodName} {cc : ByteArray} {n : Nat} {ret : Option FieldType} {d mc ms ar : Nat} {P : tvPh} {args : List Value} {M : tvM} {post : tvO → va_W → tvM → Prop} {own : String} (hY : tvYk y cc n ret ar) (hown : y.cls = own) (L0 : List (Option Value)) (hL : tvEl 0 L0 = lv_args 0 args) (hln : (lg_sl args).length ≤ n)
    (body : ∀ E : tvE, E.G = G → tvC E own cc n ret d mc ms [] → E.meth.name = y.name → tvEndX E post mc ms → tv_W E P 0 0 M 0 L0 []) : tvRunB G y (tvWd y cc n ret) d mc ms P args M post := by
  subst hown
  refine ⟨fun _ st oc t => ∃ (v : Option Value) (X1 : va_W) (M1 : tvM), post (.inl v) X1 M1 ∧ oc = .returned v ∧ tvP G (tvPX X1) M1 t.heap ∧ va_F (tvA G) st t, fun e st t => ∃ (X1 : va_W) (M1 : tvM), post (.inr e) X1 M1 ∧ tvP G (tvPX X1) M1 t.heap ∧ va_F (tvA G) st t, ?_, fun a st v t ⟨v', X1, M1, h1, h2, h3⟩ => ⟨X1, M1, by cases h2; exact h1, h3⟩, fun e st t h => h⟩
  refine tv_ofW (cc := cc) (maxL := n) (ret := ret) hY.2.2.2.2 rfl ?_
  intro p e s m args' below meth c s₁ B hml htb hv
  obtain ⟨rfl, hP, hK⟩ := hv
  have hts := atoms_spec (ws := tvWd y cc n ret) B.pre
  have hown : s.vm.findClass y.cls = some m.cls := findClass_of_methodNamed B.named
  have htb' : c.exceptionTable.toList = [] := by
    cases h : c.exceptionTable.toList with
    | nil => rfl
    | cons x r => exact (htb x (by rw [h]; exact List.mem_cons_self)).elim
  have key := body ((p, e, tvRm d mc ms, s, m, args.toArray, below, meth, c), G, vx_MQ below (fun _ st oc t => ∃ (v : Option Value) (X1 : va_W) (M1 : tvM), post (.inl v) X1 M1 ∧ oc = .returned v ∧ tvP G (tvPX X1) M1 t.heap ∧ va_F (tvA G) st t) (fun e st t => ∃ (X1 : va_W) (M1 : tvM), post (.inr e) X1 M1 ∧ tvP G (tvPX X1) M1 t.heap ∧ va_F (tvA G) st t) args.toArray s mc ms (tvA G)) rfl
    ⟨B.exec, B.bytes, hml, hown, fun w hw => hts w (List.mem_cons_of_mem _ hw), hK, rfl, B.notSynchronized, B.returns, htb'⟩ (name_of_methodNamed B.named B.method).1 rfl
  have hl := lv_entry args (n := n) hln
  rw [lg_entry_eq]
  refine key s.heap [] _ hP va_S.rf ?_
  show lv_has _ c.maxLocals (tvEl 0 L0)
  rw [hL, hml]
  exact hl
theorem tvRunB.met {G : tvG} {y : MethodName} {ws : List Cond} {d mc ms : Nat} {P : tvPh} {args : List Value} {M : tvM} {post : tvO → va_W → tvM → Prop} (h : tvRunB G y ws d mc ms P args M post) (hno : ∀ e X1 M1, ¬ post (.inr e) X1 M1) :
    ∃ Qc : Array Value → State → Outcome → State → Prop, Met G.1 y ws (tvRm d mc ms) (va_Pc args (tvPre G P M)) Qc mc ms (tvA G) ∧ (∀ a st v t, Qc a st (.returned v) t → ∃ (X1 : va_W) (M1 : tvM), post (.inl v) X1 M1 ∧ tvP G (tvPX X1) M1 t.heap ∧ va_F (tvA G) st t) := by
  obtain ⟨Qc, XC, hM, hq, hx⟩ := h
  refine ⟨Qc, MetFree.mono hM (fun _ _ h => h) (fun _ _ _ _ _ h => h) (fun a s o s' _ h => ?_), hq⟩
  rcases h with h | ⟨q, -, E', ce, L, h9⟩
  · exact h
  · obtain ⟨X1, M1, h1, -⟩ := hx _ _ _ h9.1
    exact absurd h1 (hno _ _ _)
section TXB
variable {E : tvE} {X : va_W} {k sl d mc ms nL pc pc' : Nat} {M : tvM} {L : List (Option Value)} {st : List Value} {own : String} {cc : ByteArray} {ret : Option FieldType} {tb : List ExceptionTableEntry} {post : tvO → va_W → tvM → Prop}
theorem tx_bS {P : tvPh} {idx n' ar d' mc' ms' : Nat} {y : MethodName} {cc' : ByteArray} {ret' : Option FieldType} {As st0 : List Value} (C : tvC E own cc nL ret d mc ms tb) (hd : tvD cc pc (.invokestatic idx) 3 pc') (hl : Cond.methodLink own idx y ∈ tvGW) (hY : tvYk y cc' n' ret' ar) (hI : Cond.static y ∈ tvGW) (hR : tvRunB E.G y (tvWd y cc' n' ret') d' mc' ms' P As M post) (hno : ∀ e X1 M1, ¬ post (.inr e) X1 M1) (hst : st0 = As.reverse ++ st) (hn : As.length = ar) (hcat : (st.map fun v => v.category).sum ≤ 8) (hdd : d' + 1 ≤ d) (hnn : n' ≤ 45) (hkk : k + mc' ≤ mc) (hss : sl + ms' ≤ ms)
    (kk : ∀ (v : Option Value) (X1 : va_W) (M1 : tvM), post (.inl v) X1 M1 → tv_W E (tvPX X1) (k + mc') (sl + ms') M1 pc' L (v.toList ++ st)) : tv_W E P k sl M pc L st0 := by
  obtain ⟨hd, rfl⟩ := hd
  obtain ⟨hx, hb1, hml, hown, hts, hK, hRm, hlk, hrt, htb⟩ := C
  obtain ⟨y1, y2, y3, y4, y5⟩ := hY
  intro H locs ls hP hS hL
  obtain ⟨Qc, hM, hq⟩ := hR.met hno
  have hcb : CallB E.R E.s E.args own idx y cc' n' ret' (tvWd y cc' n' ret') (tvRm d' mc' ms') mc' ms' ar := by
    refine callB_of ar hts (tvWd_good y1) rfl rfl rfl (hts _ y2) (hts _ hl) ⟨y3.1, y3.2, y4⟩ ⟨?_, ?_⟩
    · rw [hRm]; exact hdd
    · rw [hRm]; show 8 + (n' + 11) + 64 * d' ≤ 64 * d; omega
  exact tx_afterP (va_runS ⟨hx, hb1, hml, hown, hts⟩ hM ⟨hcb, hts _ hI⟩ ⟨tvPre_blind, fun U hU hW => ⟨rfl, by rw [hU]; exact hP, hK.go hS hU hW⟩⟩ rfl hn (hL.1.trans hml) hst (lv_room hcat) hd ⟨by rw [hRm]; exact hkk, by rw [hRm]; exact hss⟩) hS hL hq kk
end TXB
/-! ===== holders and boxes that are not refused ===== -/
/-- a vault that the law goes on with -/
def zInv (B : Nat) (M : tvM) : Prop := ∃ (s : Nat → Nat) (x n : Nat) (S : Nat → Nat → Nat), pG B M s x n S ∧ 4 ≤ s 9 ∧ 1 ≤ s 10 ∧ zE M
def zI (x : Int32) (m : Nat) : Prop := -(900009 * (m : Int)) ≤ x.toInt ∧ x.toInt ≤ 65536 * (m : Int)
theorem zI_n {v : Nat} (h : v < 65536) : zI (nI v) 1 := by
  unfold zI
  rw [nI_toInt (by omega)]
  omega
theorem zI_add {x y : Int32} {a b : Nat} (h1 : zI x a) (h2 : zI y b) (h : a + b ≤ 1000) : zI (x + y) (a + b) := by
  unfold zI at *
  have e : (x + y).toInt = x.toInt + y.toInt := by
    rw [Int32.toInt_add]
    apply Int.bmod_eq_of_le_mul_two <;> omega
  rw [e]
  push_cast
  omega
theorem zI_e : zI (-900001) 1 ∧ zI (-900002) 1 ∧ zI (-900003) 1 ∧ zI (-900004) 1 := by unfold zI; decide
theorem kOut_I {B : Nat} {M M1 : tvM} {s : Nat → Nat} {lo : Nat} {e : Prop} {y : Int32} (h : kOut B M s lo e y M1) : zI y 1 := by
  rcases h with ⟨v, s', x', n', S', -, h2, h3, -⟩ | ⟨h1, -⟩ | ⟨-, h1, -⟩
  · rw [h3]
    exact zI_n h2
  · rcases h1 with rfl | rfl | rfl
    · exact zI_e.1
    · exact zI_e.2.1
    · exact zI_e.2.2.1
  · rw [h1]
    exact zI_e.2.2.2
theorem kOut_inv {B B0 B1 : Nat} {M M1 : tvM} {s : Nat → Nat} {x n : Nat} {S : Nat → Nat → Nat} {lo : Nat} {e : Prop} {y : Int32} (hG : pG B0 M s x n S) (h9 : 4 ≤ s 9) (h10 : 1 ≤ s 10) (h0 : zE M) (hB0 : B0 ≤ B) (hB1 : B1 ≤ B) (hB : B ≤ 10000000) (h : kOut B1 M s lo e y M1) : zInv B M1 := by
  rcases h with ⟨v, s', x', n', S', -, h2, h3, h4, h5, h6, -, h8⟩ | ⟨h1, h2⟩ | ⟨-, h1, s', x', n', S', h2, h3, h4, h5, h6, h7⟩
  · exact ⟨s', x', n', S', h6.up hB1 hB, by omega, by omega, (congrFun (h8.1 243 (by omega)) 1).trans h0⟩
  · rw [h2]
    exact ⟨s, x, n, S, hG.up hB0 hB, h9, h10, h0⟩
  · exact ⟨s', x', n', S', h5.up hB1 hB, by omega, by omega, (congrFun (h7.1 243 (by omega)) 1).trans h0⟩
section
variable {B : Nat} {M : tvM} {s : Nat → Nat} {x n : Nat} {S : Nat → Nat → Nat}
theorem z_keep (hG : pG B M s x n S) {a : Nat} (h1 : a ≠ 61) (h2 : a < 63) : (f_X1_keep M).1 a = M.1 a := by
  obtain ⟨-, ⟨hx, hn, h5, h6⟩, -⟩ := hG
  obtain ⟨⟨k1, -⟩, -⟩ := pKeep h5 h6 hx hn
  exact k1 a h1 (by omega)
theorem z_addHolder (hB : B + 240 ≤ 10000000) (hG : pG B M s x n S) (h4 : s 9 < 4) : ∃ (v : Nat) (M1 : tvM) (s' : Nat → Nat) (x' n' : Nat) (S' : Nat → Nat → Nat), f_X8_addHolder M (nI (7 * s 9)) = (none, nI v, M1) ∧ v < 65536 ∧ s' 9 = s 9 + 1 ∧ s' 10 = s 10 ∧ pG (B + 240) M1 s' x' n' S' ∧ pFr M M1 := by
  have hR := hG.1.1
  have c20 : tgi M 3 0 = nI (s 9) := hR.2.1.2.2.2.2.2.2.2.1
  have c60 : tgi M 7 0 = nI (s 10) := hR.2.1.2.2.2.2.2.2.2.2
  have s10 := hR.1.2.1.2.2.2.2.2.2.2.2.1
  have k3 : tgi (f_X1_keep M) 3 0 = nI (s 9) := (congrFun (z_keep hG (a := 3) (by omega) (by omega)) 0).trans c20
  have k7 : tgi (f_X1_keep M) 7 0 = nI (s 10) := (congrFun (z_keep hG (a := 7) (by omega) (by omega)) 0).trans c60
  have r0 : f_X6_refusalOfHolder M 1 (nI (7 * s 9)) = 0 := by
    unfold f_X6_refusalOfHolder
    rw [pc_code1 M 1 (by omega), if_neg p10, show tgi M (1 + 2) 0 = nI (s 9) from c20, if_pos (show nI (s 9) < 8 from (pn_lt (a := s 9) (b := 8) (by omega) (by omega)).2 (by omega))]
  have e0 : f_X8_addHolder M (nI (7 * s 9)) = (none, (f_X2_add (f_X1_keep M) 1 (nI (7 * s 9))).1, (f_X2_add (f_X1_keep M) 1 (nI (7 * s 9))).2) := by
    unfold f_X8_addHolder
    rw [r0, pRef_0, if_pos rfl]
  have e1 : (f_X2_add (f_X1_keep M) 1 (nI (7 * s 9))).2.1 3 0 = nI (s 9 + 1) ∧ (f_X2_add (f_X1_keep M) 1 (nI (7 * s 9))).2.1 7 0 = nI (s 10) := by
    unfold f_X2_add
    rw [show tgi (f_X1_keep M) (1 + 2) 0 = nI (s 9) from k3, if_neg (pn_neg (by omega)), if_pos (show nI (s 9) < 8 from (pn_lt (a := s 9) (b := 8) (by omega) (by omega)).2 (by omega))]
    refine ⟨(tpi_s _ _ _ _).trans ?_, ?_⟩
    · rw [show tgi (tpi (tpi (tpi (f_X1_keep M) (1 + 3) (nI (s 9)).toNatClampNeg (nI (7 * s 9))) (1 + 4) (nI (s 9)).toNatClampNeg 0) (1 + 5) (nI (s 9)).toNatClampNeg 0) (1 + 2) 0 = nI (s 9) from (tpi_o _ _ _ (by omega)).trans ((tpi_o _ _ _ (by omega)).trans ((tpi_o _ _ _ (by omega)).trans k3)), nI_1]
    · exact (tpi_o _ _ _ (by omega)).trans ((tpi_o _ _ _ (by omega)).trans ((tpi_o _ _ _ (by omega)).trans ((tpi_o _ _ _ (by omega)).trans k7)))
  obtain ⟨v0, hv0⟩ : ∃ z, z = (f_X2_add (f_X1_keep M) 1 (nI (7 * s 9))).1 := ⟨_, rfl⟩
  obtain ⟨N, hN⟩ : ∃ z, z = (f_X2_add (f_X1_keep M) 1 (nI (7 * s 9))).2 := ⟨_, rfl⟩
  rw [← hv0, ← hN] at e0
  rw [← hN] at e1
  rcases o_addHolder hB hG (nI (7 * s 9)) (fun _ => rfl) with ⟨v, M1, s', -, h4, h5, h6, h7⟩ | ⟨e, -, h⟩
  · rw [e0] at h5
    obtain rfl : v0 = nI v := congrArg (fun q => q.2.1) h5
    obtain rfl : N = M1 := congrArg (fun q => q.2.2) h5
    have q1 : nI (s' 9) = nI (s 9 + 1) := (show _ = nI (s' 9) from h6.1.1.2.1.2.2.2.2.2.2.2.1).symm.trans e1.1
    have q2 : nI (s' 10) = nI (s 10) := (show _ = nI (s' 10) from h6.1.1.2.1.2.2.2.2.2.2.2.2).symm.trans e1.2
    exact ⟨v, _, s', _, _, _, e0, h4, (pn_eq (h6.1.1.1.1 _) (by omega)).1 q1, (pn_eq (h6.1.1.1.1 _) (by omega)).1 q2, h6, h7⟩
  · rw [e0] at h
    exact absurd (congrArg (fun q => q.1) h) (fun q => nomatch q)
theorem z_addBox (hB : B + 240 ≤ 10000000) (hG : pG B M s x n S) {a b c : Nat} (ha : a < s 9) (hb : b < s 9) (hab : a ≠ b) (hc : c ≤ 60) (h10 : s 10 < 10) : ∃ (v : Nat) (M1 : tvM) (s' : Nat → Nat) (x' n' : Nat) (S' : Nat → Nat → Nat), f_X8_addBox M (nI a) (nI b) (nI c) = (none, nI v, M1) ∧ v < 65536 ∧ s' 9 = s 9 ∧ s' 10 = s 10 + 1 ∧ pG (B + 240) M1 s' x' n' S' ∧ pFr M M1 := by
  have hR := hG.1.1
  have e00 : puC M 1 (pV M 1) (pL M 1) = M := puC_self M 1
  have d20 := hR.2.1.2.2.2.2.2.2.2.1
  have c20 : tgi M 3 0 = nI (s 9) := d20
  have c60 : tgi M 7 0 = nI (s 10) := hR.2.1.2.2.2.2.2.2.2.2
  have s9 := hR.1.2.1.2.2.2.2.2.2.2.1
  have k3 : tgi (f_X1_keep M) 3 0 = nI (s 9) := (congrFun (z_keep hG (a := 3) (by omega) (by omega)) 0).trans c20
  have k7 : tgi (f_X1_keep M) 7 0 = nI (s 10) := (congrFun (z_keep hG (a := 7) (by omega) (by omega)) 0).trans c60
  have t1 := pc_hh1 M 1 (pL M 1) d20 s9 ha
  have t2 := pc_hh1 M 1 (pL M 1) d20 s9 hb
  rw [e00] at t1 t2
  have r0 : f_X6_refusalOfBox M 1 (nI a) (nI b) (nI c) = 0 := by
    unfold f_X6_refusalOfBox
    rw [t1, if_neg p10, t2, if_neg p10, if_neg (fun e => hab ((pn_eq (by omega) (by omega)).1 e)), if_neg (pn_neg (by omega)), if_pos (show nI c ≤ 60 from (pn_le (a := c) (b := 60) (by omega) (by omega)).2 hc), show tgi M (1 + 6) 0 = nI (s 10) from c60, if_pos (show nI (s 10) < 10 from (pn_lt (a := s 10) (b := 10) (by omega) (by omega)).2 h10)]
  have e0 : f_X8_addBox M (nI a) (nI b) (nI c) = (none, (f_X0_add (f_X1_keep M) 1 (nI a) (nI b) (nI c)).1, (f_X0_add (f_X1_keep M) 1 (nI a) (nI b) (nI c)).2) := by
    unfold f_X8_addBox
    rw [r0, pRef_0, if_pos rfl]
  have e1 : (f_X0_add (f_X1_keep M) 1 (nI a) (nI b) (nI c)).2.1 7 0 = nI (s 10 + 1) ∧ (f_X0_add (f_X1_keep M) 1 (nI a) (nI b) (nI c)).2.1 3 0 = nI (s 9) := by
    unfold f_X0_add
    rw [show tgi (f_X1_keep M) (1 + 6) 0 = nI (s 10) from k7, if_neg (pn_neg (by omega)), if_pos (show nI (s 10) < 10 from (pn_lt (a := s 10) (b := 10) (by omega) (by omega)).2 h10)]
    have up : ∀ N : tvM, N.1 7 0 = nI (s 10) → ∀ z, z ≠ 7 → ∀ k v, (tpi N z k v).1 7 0 = nI (s 10) := fun N h z hz k v => (tpi_o _ _ _ (fun e => hz e.symm)).trans h
    refine ⟨(tpi_s _ _ _ _).trans ?_, ?_⟩
    · refine (congrArg (· + 1) (?_ : _ = nI (s 10))).trans (nI_1 _)
      exact up _ (up _ (up _ (up _ (up _ (up _ (up _ (up _ k7 _ (by omega) _ _) _ (by omega) _ _) _ (by omega) _ _) _ (by omega) _ _) _ (by omega) _ _) _ (by omega) _ _) _ (by omega) _ _) _ (by omega) _ _
    · refine (tpi_o _ _ _ (by omega)).trans ?_
      iterate 8 refine (tpi_o _ _ _ (by omega)).trans ?_
      exact k3
  obtain ⟨v0, hv0⟩ : ∃ z, z = (f_X0_add (f_X1_keep M) 1 (nI a) (nI b) (nI c)).1 := ⟨_, rfl⟩
  obtain ⟨N, hN⟩ : ∃ z, z = (f_X0_add (f_X1_keep M) 1 (nI a) (nI b) (nI c)).2 := ⟨_, rfl⟩
  rw [← hv0, ← hN] at e0
  rw [← hN] at e1
  rcases o_addBox hB hG (nI a) (nI b) (nI c) with ⟨v, M1, s', -, h4, h5, h6, h7⟩ | ⟨e, -, h⟩
  · rw [e0] at h5
    obtain rfl : v0 = nI v := congrArg (fun q => q.2.1) h5
    obtain rfl : N = M1 := congrArg (fun q => q.2.2) h5
    have q1 : nI (s' 10) = nI (s 10 + 1) := (show _ = nI (s' 10) from h6.1.1.2.1.2.2.2.2.2.2.2.2).symm.trans e1.1
    have q2 : nI (s' 9) = nI (s 9) := (show _ = nI (s' 9) from h6.1.1.2.1.2.2.2.2.2.2.2.1).symm.trans e1.2
    exact ⟨v, _, s', _, _, _, e0, h4, (pn_eq (h6.1.1.1.1 _) (by omega)).1 q2, (pn_eq (h6.1.1.1.1 _) (by omega)).1 q1, h6, h7⟩
  · rw [e0] at h
    exact absurd (congrArg (fun q => q.1) h) (fun q => nomatch q)
end
