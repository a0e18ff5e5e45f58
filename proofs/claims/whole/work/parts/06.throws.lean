/-! ===== throws; the JDK's own ===== -/
abbrev tvXn : List String := ["java/lang/RuntimeException", "java/lang/Exception"]
def tvTh (own : String) (ik is ic i : Nat) (cls text : String) : Prop := Cond.classLink own ik cls ∈ tvGW ∧ Cond.initialized cls ∈ tvGW ∧ Bundle.fit cls = true ∧ (own, is, text, i) ∈ tvStr ∧ (∀ w ∈ vx_atS own ic cls tvXn, (w ∈ tvGW ∨ w ∈ tvNest) ∧ vx_ot w = true)
/-- NoSuchElementException: its constructor calls its superclass's by another entry than the kit's chain has -/
def tvThN (own : String) (ik is ic i : Nat) (cls text : String) : Prop := cls = "java/util/NoSuchElementException" ∧ Cond.classLink own ik cls ∈ tvGW ∧ Cond.initialized cls ∈ tvGW ∧ (own, is, text, i) ∈ tvStr ∧ Cond.methodLink own ic (Bundle.initS cls) ∈ tvGW
section TVT
variable {E : tvE} {P P1 : tvPh} {k sl d mc ms nL pc pc' : Nat} {M M1 : tvM} {L : List (Option Value)} {st : List Value} {own : String} {cc : ByteArray} {ret : Option FieldType} {tb : List ExceptionTableEntry} {o : tvO}
theorem tvNest_on {w : Cond} (h : w ∈ tvNest) : w.onTables = true := by
  have h1 : tvIsN w = true := (List.mem_filter.mp h).2
  cases w <;> first | (cases h1; done) | rfl
theorem tv_throw {ik is ic i : Nat} {cls text : String} (C : tvC E own cc nL ret d mc ms []) (hex : ¬ P.2.2) (hQ : tvEnd E P M1 o mc ms) (hT : tvTh own ik is ic i cls text) (d0 : tvD cc pc (.new ik) 3 (pc + 3)) (d3 : tvD cc (pc + 3) .dup 1 (pc + 4)) (d4 : tvD cc (pc + 4) (.ldc is) 2 (pc + 6)) (d6 : tvD cc (pc + 6) (.invokespecial ic) 3 (pc + 9)) (d9 : tvD cc (pc + 9) .athrow 1 (pc + 10)) (hd : 6 ≤ d) (hr : (st.map fun v => v.category).sum ≤ 8) (ho : o = .inr cls) (hM : M1 = M) (hk : k + 1 ≤ mc := by exact Nat.le_of_ble_eq_true rfl) (hs : sl + 6 ≤ ms := by exact Nat.le_of_ble_eq_true rfl) : tv_W E P k sl M pc L st := by
  subst hM
  obtain ⟨hx, hb1, hml, hown, hts, hK, hRm, hlk, hrt, htb⟩ := C
  obtain ⟨t1, t2, t3, t4, t5⟩ := hT
  intro H locs ls hP hS hL
  show W _ _ _ _ _ _ _ _ _ _ _ _ _ _ E.2.2 _
  rw [show E.2.2 = _ from hQ]
  obtain ⟨k1, k2, k3, k4, k5, k6, k7, k8, -⟩ := id hK
  refine vx_throwS (text := text) (names := tvXn) hx hb1 k8 hown t3 (by decide +kernel) (hts _ t1) (hts _ t2) (k3 _ t4) (fun w hw => ?_) (fun w hw => ?_) k5 k6 hS hL.1 d0.1 d3.1 d4.1 d6.1 d9.1 (fun x hx => by rw [htb] at hx; cases hx) (by rw [hRm]; show 2 + 3 < d; omega) (by rw [hRm]; show _ + (13 * (2 + 1) + 43) ≤ 64 * d; omega) (by rw [hRm]; exact hk) (by rw [hRm]; exact hs) hlk (fun t hA hz hq => ⟨ho, ⟨fun j q hj => ?_, fun h => absurd h hex⟩, ?_⟩) hS.2.2 hk hs
  · rcases (t5 w hw).1 with h | h
    · exact hts _ h
    · exact va_Nw.use (tvNest_on h) (k2 _ h)
  · rcases List.mem_cons.mp hw with rfl | hw
    · rfl
    · rcases List.mem_cons.mp hw with rfl | hw
      · rfl
      · exact (t5 w hw).2
  · exact (hP.1 j q hj).kept (hq _ (hP.1 j q hj).lt)
  · exact ⟨Nat.le_trans hS.1 hz, fun q h1 h2 => by rw [hq q (Nat.lt_of_lt_of_le h1 hS.1)]; exact hS.2.1 q h1 h2⟩
theorem tv_throwW {ik is ic i : Nat} {cls text : String} (C : tvC E own cc nL ret d mc ms []) (hex : ¬ P.2.2) (hQ : tvEnd E P M1 o mc ms) (hT : tvTh own ik is ic i cls text) (d0 : tvD cc pc (.new ik) 3 (pc + 3)) (d3 : tvD cc (pc + 3) .dup 1 (pc + 4)) (d4 : tvD cc (pc + 4) (.ldc_w is) 3 (pc + 7)) (d6 : tvD cc (pc + 7) (.invokespecial ic) 3 (pc + 10)) (d9 : tvD cc (pc + 10) .athrow 1 (pc + 11)) (hd : 6 ≤ d) (hr : (st.map fun v => v.category).sum ≤ 8) (ho : o = .inr cls) (hM : M1 = M) (hk : k + 1 ≤ mc := by exact Nat.le_of_ble_eq_true rfl) (hs : sl + 6 ≤ ms := by exact Nat.le_of_ble_eq_true rfl) : tv_W E P k sl M pc L st := by
  subst hM
  obtain ⟨hx, hb1, hml, hown, hts, hK, hRm, hlk, hrt, htb⟩ := C
  obtain ⟨t1, t2, t3, t4, t5⟩ := hT
  intro H locs ls hP hS hL
  show W _ _ _ _ _ _ _ _ _ _ _ _ _ _ E.2.2 _
  rw [show E.2.2 = _ from hQ]
  obtain ⟨k1, k2, k3, k4, k5, k6, k7, k8, -⟩ := id hK
  refine vx_throwSW (text := text) (names := tvXn) hx hb1 k8 hown t3 (by decide +kernel) (hts _ t1) (hts _ t2) (k3 _ t4) (fun w hw => ?_) (fun w hw => ?_) k5 k6 hS hL.1 d0.1 d3.1 d4.1 d6.1 d9.1 (fun x hx => by rw [htb] at hx; cases hx) (by rw [hRm]; show 2 + 3 < d; omega) (by rw [hRm]; show _ + (13 * (2 + 1) + 43) ≤ 64 * d; omega) (by rw [hRm]; exact hk) (by rw [hRm]; exact hs) hlk (fun t hA hz hq => ⟨ho, ⟨fun j q hj => ?_, fun h => absurd h hex⟩, ?_⟩) hS.2.2 hk hs
  · rcases (t5 w hw).1 with h | h
    · exact hts _ h
    · exact va_Nw.use (tvNest_on h) (k2 _ h)
  · rcases List.mem_cons.mp hw with rfl | hw
    · rfl
    · rcases List.mem_cons.mp hw with rfl | hw
      · rfl
      · exact (t5 w hw).2
  · exact (hP.1 j q hj).kept (hq _ (hP.1 j q hj).lt)
  · exact ⟨Nat.le_trans hS.1 hz, fun q h1 h2 => by rw [hq q (Nat.lt_of_lt_of_le h1 hS.1)]; exact hS.2.1 q h1 h2⟩
theorem tv_throwN {ik is ic i : Nat} {cls text : String} (C : tvC E own cc nL ret d mc ms []) (hex : ¬ P.2.2) (hQ : tvEnd E P M1 o mc ms) (hT : tvThN own ik is ic i cls text) (d0 : tvD cc pc (.new ik) 3 (pc + 3)) (d3 : tvD cc (pc + 3) .dup 1 (pc + 4)) (d4 : tvD cc (pc + 4) (.ldc is) 2 (pc + 6)) (d6 : tvD cc (pc + 6) (.invokespecial ic) 3 (pc + 9)) (d9 : tvD cc (pc + 9) .athrow 1 (pc + 10)) (hd : 6 ≤ d) (hr : (st.map fun v => v.category).sum ≤ 8) (ho : o = .inr cls) (hM : M1 = M) (hk : k + 1 ≤ mc := by exact Nat.le_of_ble_eq_true rfl) (hs : sl + 6 ≤ ms := by exact Nat.le_of_ble_eq_true rfl) : tv_W E P k sl M pc L st := by
  sorry
theorem tv_throwNW {ik is ic i : Nat} {cls text : String} (C : tvC E own cc nL ret d mc ms []) (hex : ¬ P.2.2) (hQ : tvEnd E P M1 o mc ms) (hT : tvThN own ik is ic i cls text) (d0 : tvD cc pc (.new ik) 3 (pc + 3)) (d3 : tvD cc (pc + 3) .dup 1 (pc + 4)) (d4 : tvD cc (pc + 4) (.ldc_w is) 3 (pc + 7)) (d6 : tvD cc (pc + 7) (.invokespecial ic) 3 (pc + 10)) (d9 : tvD cc (pc + 10) .athrow 1 (pc + 11)) (hd : 6 ≤ d) (hr : (st.map fun v => v.category).sum ≤ 8) (ho : o = .inr cls) (hM : M1 = M) (hk : k + 1 ≤ mc := by exact Nat.le_of_ble_eq_true rfl) (hs : sl + 6 ≤ ms := by exact Nat.le_of_ble_eq_true rfl) : tv_W E P k sl M pc L st := by
  sorry
end TVT
