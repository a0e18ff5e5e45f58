theorem tvNcE_of {s : State} {A : Array Value} (hf : ∀ w ∈ tvFC, w.before A s = true) : tvNcE s := by
  intro q hq
  obtain ⟨i, hi, e⟩ := List.mem_iff_getElem.mp hq
  have h30 : i < 20 := hi
  have h1 := hf _ (tvFC_mem (tvS_nc i h30))
  have e2 : tvNcs.getD i ("", "") = q := by rw [List.getD_eq_getElem?_getD, List.getElem?_eq_getElem hi, e]; rfl
  rw [e2] at h1
  exact va_Nc.of h1
/-- texts with differing letters lie at differing places -/
theorem tvStart_S {s : State} {A' : Nat → Prop} {N : Nat} {len : List Nat} {byt : List (List Int32)} (ad : Nat → Nat × Nat) (h1 : ∀ i, i < N → va_O "java/lang/String" (ad i).1 A' s s.heap) (h2 : ∀ i, i < N → va_OF "java/lang/String" "coder" "B" (.int 0) (ad i).1 A' s s.heap ∧ va_OF "java/lang/String" "value" "[B" (.ref (ad i).2) (ad i).1 A' s s.heap ∧ va_T .byte (ad i).2 (len.getD i 0) (fun j => .int ((byt.getD i []).getD j 0)) A' s s.heap) (hl : ∀ i, i < N → len.getD i 0 < 100) (hne : ∀ i, i < N → ∀ j, j < N → i ≠ j → ¬ (len.getD i 0 = len.getD j 0 ∧ ∀ k, k < len.getD i 0 → (byt.getD i []).getD k 0 = (byt.getD j []).getD k 0)) : vk_S N len byt (fun i => (ad i).1) (fun i => (ad i).2) A' s s.heap := by
  refine ⟨fun i hi => ⟨h1 i hi, (h2 i hi).1, (h2 i hi).2.1, (h2 i hi).2.2⟩, fun i j hi hj e => ?_⟩
  refine Classical.byContradiction fun hij => ?_
  obtain ⟨cf, k, fi, f, cell, a1, a2, a3, a4, a5, a6⟩ := (h2 i hi).2.1
  obtain ⟨cf', k', fi', f', cell', b1, b2, b3, b4, b5, b6⟩ := (h2 j hj).2.1
  have ef : (cf, k, fi, f) = (cf', k', fi', f') := Option.some.inj (a1.symm.trans b1)
  have ef2 : f = f' := congrArg (fun x => x.2.2.2) ef
  have e9 : (ad i).1 = (ad j).1 := e
  rw [e9] at a3
  have ec : cell = cell' := Option.some.inj (a3.symm.trans b3)
  subst ef2 ec
  have ev : (ad i).2 = (ad j).2 := Value.ref.inj (Option.some.inj (a5.symm.trans b5))
  obtain ⟨ce, c1, c2, c3, c4, c5, c6, c7⟩ := (h2 i hi).2.2
  obtain ⟨ce', d1, d2, d3, d4, d5, d6, d7⟩ := (h2 j hj).2.2
  rw [ev] at c1
  have ee : ce = ce' := Option.some.inj (c1.symm.trans d1)
  subst ee
  have l1 := hl i hi
  have l2 := hl j hj
  have el : len.getD i 0 = len.getD j 0 := (pn_eq (by omega) (by omega)).1 (show nI (len.getD i 0) = nI (len.getD j 0) from c5.symm.trans d5)
  refine hne i hi j hj hij ⟨el, fun k hk => ?_⟩
  have h1 := c6 k hk
  have h2 := d6 k (by omega)
  exact Value.int.inj (Option.some.inj (h1.symm.trans h2))
/-- the text constants' places -/
theorem tvStart_st {s : State} {A : Array Value} {A' : Nat → Prop} (hA : ∀ a : Nat, a < s.heap.size → ¬ A' a) (hg : ∀ w ∈ lw_tbl, w.before A s = true) (hf : ∀ w ∈ tvFC, w.before A s = true) : ∃ adK adV : Nat → Nat, (∀ q ∈ tvStr, vk_R q.1 q.2.1 q.2.2.1 (adK q.2.2.2) s) ∧ vk_S tvNS tvLen tvByt adK adV A' s s.heap ∧ vk_S 6 tvLenL tvBytL (fun j => adK (27 + j)) (fun j => adV (27 + j)) A' s s.heap := by
  have h0 : ∀ i : Nat, ∃ q : Nat × Nat, (i < 47 → (tvTm i).eval A s none [] s = some (.ref q.1) ∧ va_O "java/lang/String" q.1 A' s s.heap) ∧ (i < 33 → (i < 18 ∨ 27 ≤ i) → va_OF "java/lang/String" "coder" "B" (.int 0) q.1 A' s s.heap ∧ va_OF "java/lang/String" "value" "[B" (.ref q.2) q.1 A' s s.heap ∧ va_T .byte q.2 (tvLenA.getD i 0) (fun j => .int ((tvBytA.getD i []).getD j 0)) A' s s.heap) := by
    intro i
    by_cases hi : i < 47
    · obtain ⟨a, c, cA, kA, q1, q2, q3, q4, q5, q6, -⟩ := Cond.exactly_spec (args := A) (first := s) (o := none) (s := s) (idx := []) (t := tvTm i) (cls := "java/lang/String") (hf _ (tvFC_mem (tvS_ex i hi)))
      have hO : va_O "java/lang/String" a A' s s.heap := ⟨cA, q3, q5, by rw [q6]; exact q2, hA a (Array.getElem?_eq_some_iff.mp q3).1⟩
      by_cases h27 : i < 33 ∧ (i < 18 ∨ 27 ≤ i)
      · obtain ⟨h27, hg2⟩ := h27
        have hl := tvS_len i h27
        obtain ⟨t, ht, hT⟩ := va_Tof (f := fun j => .int ((tvBytA.getD i []).getD j 0)) (A := A') (show tvLenA.getD i 0 < 2 ^ 31 by omega) (hf _ (tvFC_mem (tvS_ar i h27 hg2))) (va_eqt (hf _ (tvFC_mem (tvS_le i h27 hg2)))) (fun j hj => va_eqt (hf _ (tvFC_mem (tvS_el i h27 hg2 j hj)))) hA
        exact ⟨(a, t), fun _ => ⟨q1, hO⟩, fun _ _ => ⟨vk_OFof q1 (va_eqt (hf _ (tvFC_mem (tvS_co i h27 hg2)))) hA, vk_OFof q1 ht hA, hT⟩⟩
      · exact ⟨(a, 0), fun _ => ⟨q1, hO⟩, fun h h2 => absurd ⟨h, h2⟩ h27⟩
    · exact ⟨(0, 0), fun h => absurd h hi, fun h _ => absurd h (by omega)⟩
  obtain ⟨ad, had⟩ := Classical.axiomOfChoice h0
  refine ⟨fun i => (ad i).1, fun i => (ad i).2, fun q hq => ?_, ?_, ?_⟩
  · obtain ⟨i, hi, e⟩ := List.mem_iff_getElem.mp hq
    have h44 : i < 39 := hi
    have e2 : tvStr.getD i ("", 0, "", 0) = q := by rw [List.getD_eq_getElem?_getD, List.getElem?_eq_getElem hi, e]; rfl
    have e3 := (show ∀ i, i < 39 → (tvStr.getD i ("", 0, "", 0)).2.2.2 < 47 by decide +kernel) i h44
    have h1 := hg _ (tvS_rf i h44)
    rw [e2] at h1 e3
    by_cases hd : i = 38
    · subst hd
      have e4 : q = ("TideVaultLaw", 141, "turn ", 3) := e2.symm
      subst e4
      have h2 := ((had 3).1 (by omega)).1
      have h5 : ∃ b : Nat, (Term.string "TideVaultLaw" 141).eval A s none [] s = some (.ref b) := by
        have h6 := hf _ (tvFC_mem tvS_eq)
        cases hv : (Term.string "TideVaultLaw" 141).eval A s none [] s with
        | none => simp [Cond.before, Cond.holds, Cond.value, hv] at h6
        | some w =>
          simp only [Cond.before, Cond.holds, Cond.value, hv, h2] at h6
          cases w <;> simp_all
      obtain ⟨b, hb⟩ := h5
      have h7 := tvEqR (hf _ (tvFC_mem tvS_eq)) hb h2
      show vk_R "TideVaultLaw" 141 "turn " (ad 3).1 s
      exact vk_R.of h1 (by rw [← h7]; exact hb)
    · have h2 := ((had q.2.2.2).1 e3).1
      have e5 := (show ∀ i, i < 39 → i ≠ 38 → tvRep.getD (tvStr.getD i ("", 0, "", 0)).2.2.2 ("", 0) = ((tvStr.getD i ("", 0, "", 0)).1, (tvStr.getD i ("", 0, "", 0)).2.1) by decide +kernel) i h44 hd
      rw [e2] at e5
      unfold tvTm at h2
      rw [e5] at h2
      exact vk_R.of h1 h2
  · refine tvStart_S ad (fun i hi => ((had i).1 (Nat.lt_of_lt_of_le hi (by decide))).2) (fun i hi => ?_) (fun i hi => ?_) tvS_ne
    · have h := (had i).2 (Nat.lt_of_lt_of_le hi (by decide)) (Or.inl hi)
      rw [(tvS_nA i hi).1, (tvS_nA i hi).2] at h
      exact h
    · rw [← (tvS_nA i hi).1]
      exact tvS_len i (Nat.lt_of_lt_of_le hi (by decide))
  · refine tvStart_S (fun j => ad (27 + j)) (fun i hi => ((had (27 + i)).1 (by omega)).2) (fun i hi => ?_) (fun i hi => ?_) tvS_neL
    · have h := (had (27 + i)).2 (by omega) (Or.inr (by omega))
      rw [(tvS_nL i hi).1, (tvS_nL i hi).2] at h
      exact h
    · rw [← (tvS_nL i hi).1]
      exact tvS_len (27 + i) (by omega)

theorem tvStart_dg {s : State} {A : Array Value} {A' : Nat → Prop} (hA : ∀ a : Nat, a < s.heap.size → ¬ A' a) (hts : ∀ w ∈ lw_tbl, w.before A s = true) (hf : ∀ w ∈ tvFC, w.before A s = true) : tvDg "DigitOnes" (fun j => nI (48 + j % 10)) A' s s.heap ∧ tvDg "DigitTens" (fun j => nI (48 + j / 10)) A' s s.heap := by
  obtain ⟨t1, u1, v1⟩ := va_Tof (f := fun j => .int (nI (48 + j % 10))) (N := 100) (A := A') (by decide) (hf _ (tvFC_mem tvD_ar1)) (va_eqt (hf _ (tvFC_mem tvD_le1))) (fun j hj => va_eqt (hf _ (tvFC_mem (tvD_el1 j hj)))) hA
  obtain ⟨t2, u2, v2⟩ := va_Tof (f := fun j => .int (nI (48 + j / 10))) (N := 100) (A := A') (by decide) (hf _ (tvFC_mem tvD_ar2)) (va_eqt (hf _ (tvFC_mem tvD_le2))) (fun j hj => va_eqt (hf _ (tvFC_mem (tvD_el2 j hj)))) hA
  exact ⟨⟨t1, va_Zref (hts _ (tvc_5 (List.mem_of_getElem? (i := 122) (by decide +kernel)))) (hts _ (tvc_1 (List.mem_of_getElem? (i := 30) (by decide +kernel)))) u1 hA, v1⟩, ⟨t2, va_Zref (hts _ (tvc_5 (List.mem_of_getElem? (i := 124) (by decide +kernel)))) (hts _ (tvc_1 (List.mem_of_getElem? (i := 30) (by decide +kernel)))) u2 hA, v2⟩⟩
theorem tvK_start {s : State} {A : Array Value} (l : Launch) (hl : l.stackTraces = false) (hts : ∀ w ∈ lw_tbl, w.before A s = true) (hf : ∀ w ∈ tvFC, w.before A s = true) {b L : Nat} {xs : Nat → Int32} (hX : va_X b L xs s s.heap) (hb : b < s.heap.size) (hL : L ≤ 260) : ∃ G : tvG, G.1 = l ∧ G.2.1 = s.heap.size ∧ G.w = s.heap.size ∧ G.sb = b ∧ tvK G s s.heap := by
  obtain ⟨dC, dI, k1⟩ := tvStart_cl (tvGW_of hts)
  obtain ⟨cA, k2⟩ := tvStart_ar hts
  have hA : ∀ (adK adV : Nat → Nat) (a : Nat), a < s.heap.size → ¬ tvA (l, s.heap.size, (dC, dI), cA, adK, adV, s.heap.size, b, L, xs) a := fun _ _ a h q => absurd (show s.heap.size ≤ a from q.1) (by omega)
  have hA0 : ∀ a : Nat, a < s.heap.size → ¬ tvA (l, s.heap.size, (dC, dI), cA, (fun _ => 0), (fun _ => 0), s.heap.size, b, L, xs) a := hA _ _
  obtain ⟨adK, adV, k3, k4, k5⟩ := tvStart_st hA0 hts hf
  refine ⟨(l, s.heap.size, (dC, dI), cA, adK, adV, s.heap.size, b, L, xs), rfl, rfl, rfl, rfl, ⟨k1, k2⟩, fun w hw => va_Nw.of (tvNest_on hw) (hts w (List.mem_filter.mp hw).1), k3, k4, vx_Zqof (hts _ (tvc_1 (List.mem_of_getElem? (i := 72) (by decide +kernel)))) (hts _ (tvc_1 (List.mem_of_getElem? (i := 10) (by decide +kernel)))) (hf _ (tvFC_mem (k := 4) (by decide +kernel))) (hA _ _), vx_Zqof (hts _ (tvc_1 (List.mem_of_getElem? (i := 74) (by decide +kernel)))) (hts _ (tvc_1 (List.mem_of_getElem? (i := 10) (by decide +kernel)))) (hf _ (tvFC_mem (k := 5) (by decide +kernel))) (hA _ _), ⟨Nat.le_refl _, Nat.le_refl _⟩, hl, va_Zof (hts _ (tvc_4 (List.mem_of_getElem? (i := 212) (by decide +kernel)))) (hts _ (tvc_1 (List.mem_of_getElem? (i := 21) (by decide +kernel)))) (va_eqi (hf _ (tvFC_mem (k := 6) (by decide +kernel)))) (hA _ _), va_Zqof (hts _ (tvc_5 (List.mem_of_getElem? (i := 52) (by decide +kernel)))) (hts _ (tvc_1 (List.mem_of_getElem? (i := 27) (by decide +kernel)))) (hf _ (tvFC_mem (k := 7) (by decide +kernel))) (hA _ _), va_AO.of (hts _ (tvc_3 (List.mem_of_getElem? (i := 170) (by decide +kernel)))), ⟨hX, hb, hA _ _ b hb, hL⟩, tvStart_dg (hA _ _) hts hf, k5, tvNcE_of hf⟩
