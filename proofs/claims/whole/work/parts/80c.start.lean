theorem tvNcE_of {s : State} {A : Array Value} (hf : ∀ w ∈ tvFC, w.before A s = true) : tvNcE s := by
  intro q hq
  obtain ⟨i, hi, e⟩ := List.mem_iff_getElem.mp hq
  have h30 : i < 30 := hi
  have h1 := hf _ (tvFC_mem (tvS_nc i h30))
  have e2 : tvNcs.getD i ("", "") = q := by rw [List.getD_eq_getElem?_getD, List.getElem?_eq_getElem hi, e]; rfl
  rw [e2] at h1
  exact va_Nc.of h1
/-- the text constants' places -/
theorem tvStart_st {s : State} {A : Array Value} {z : Nat} (hz : s.heap.size ≤ z) (hg : ∀ w ∈ lw_tbl, w.before A s = true) (hf : ∀ w ∈ tvFC, w.before A s = true) : ∃ adK adV : Nat → Nat, (∀ q ∈ tvStr, vk_R q.1 q.2.1 q.2.2.1 (adK q.2.2.2) s) ∧ vk_S tvNS tvLen tvByt adK adV (fun q => z ≤ q) s s.heap := by
  have hA : ∀ a : Nat, a < s.heap.size → ¬ (fun q => z ≤ q) a := fun a h q => absurd (show z ≤ a from q) (by omega)
  have h0 : ∀ i : Nat, ∃ q : Nat × Nat, (i < 44 → (tvTm i).eval A s none [] s = some (.ref q.1) ∧ va_O "java/lang/String" q.1 (fun q => z ≤ q) s s.heap) ∧ (i < 27 → va_OF "java/lang/String" "coder" "B" (.int 0) q.1 (fun q => z ≤ q) s s.heap ∧ va_OF "java/lang/String" "value" "[B" (.ref q.2) q.1 (fun q => z ≤ q) s s.heap ∧ va_T .byte q.2 (tvLen.getD i 0) (fun j => .int ((tvByt.getD i []).getD j 0)) (fun q => z ≤ q) s s.heap) := by
    intro i
    by_cases hi : i < 44
    · obtain ⟨a, c, cA, kA, q1, q2, q3, q4, q5, q6, -⟩ := Cond.exactly_spec (args := A) (first := s) (o := none) (s := s) (idx := []) (t := tvTm i) (cls := "java/lang/String") (hf _ (tvFC_mem (tvS_ex i hi)))
      have hO : va_O "java/lang/String" a (fun q => z ≤ q) s s.heap := ⟨cA, q3, q5, by rw [q6]; exact q2, hA a (Array.getElem?_eq_some_iff.mp q3).1⟩
      by_cases h27 : i < 27
      · have hl := tvS_len i h27
        obtain ⟨t, ht, hT⟩ := va_Tof (f := fun j => .int ((tvByt.getD i []).getD j 0)) (A := fun q => z ≤ q) (show tvLen.getD i 0 < 2 ^ 31 by omega) (hf _ (tvFC_mem (tvS_ar i h27))) (va_eqt (hf _ (tvFC_mem (tvS_le i h27)))) (fun j hj => va_eqt (hf _ (tvFC_mem (tvS_el i h27 j hj)))) hA
        exact ⟨(a, t), fun _ => ⟨q1, hO⟩, fun _ => ⟨vk_OFof q1 (va_eqt (hf _ (tvFC_mem (tvS_co i h27)))) hA, vk_OFof q1 ht hA, hT⟩⟩
      · exact ⟨(a, 0), fun _ => ⟨q1, hO⟩, fun h => absurd h h27⟩
    · exact ⟨(0, 0), fun h => absurd h hi, fun h => absurd h (by omega)⟩
  obtain ⟨ad, had⟩ := Classical.axiomOfChoice h0
  refine ⟨fun i => (ad i).1, fun i => (ad i).2, fun q hq => ?_, fun i hi => ⟨((had i).1 (Nat.lt_of_lt_of_le hi (by decide))).2, ((had i).2 hi).1, ((had i).2 hi).2.1, ((had i).2 hi).2.2⟩, fun i j hi hj e => ?_⟩
  · obtain ⟨i, hi, e⟩ := List.mem_iff_getElem.mp hq
    have h44 : i < 44 := hi
    have e2 : tvStr.getD i ("", 0, "", 0) = q := by rw [List.getD_eq_getElem?_getD, List.getElem?_eq_getElem hi, e]; rfl
    have e3 : q.2.2.2 = i := by
      rw [← e2]
      exact (show ∀ i, i < 44 → (tvStr.getD i ("", 0, "", 0)).2.2.2 = i by decide) i h44
    have h1 := hg _ (tvS_rf i h44)
    have h2 := ((had i).1 h44).1
    unfold tvTm at h2
    rw [e2] at h1 h2
    show vk_R q.1 q.2.1 q.2.2.1 (ad q.2.2.2).1 s
    rw [e3]
    exact vk_R.of h1 h2
  · refine Classical.byContradiction fun hij => ?_
    obtain ⟨cf, k, fi, f, cell, a1, a2, a3, a4, a5, a6⟩ := ((had i).2 hi).2.1
    obtain ⟨cf', k', fi', f', cell', b1, b2, b3, b4, b5, b6⟩ := ((had j).2 hj).2.1
    have ef : (cf, k, fi, f) = (cf', k', fi', f') := Option.some.inj (a1.symm.trans b1)
    have ef2 : f = f' := congrArg (fun x => x.2.2.2) ef
    have e9 : (ad i).1 = (ad j).1 := e
    rw [e9] at a3
    have ec : cell = cell' := Option.some.inj (a3.symm.trans b3)
    subst ef2 ec
    have ev : (ad i).2 = (ad j).2 := Value.ref.inj (Option.some.inj (a5.symm.trans b5))
    obtain ⟨ce, c1, c2, c3, c4, c5, c6, c7⟩ := ((had i).2 hi).2.2
    obtain ⟨ce', d1, d2, d3, d4, d5, d6, d7⟩ := ((had j).2 hj).2.2
    rw [ev] at c1
    have ee : ce = ce' := Option.some.inj (c1.symm.trans d1)
    subst ee
    have l1 := tvS_len i hi
    have l2 := tvS_len j hj
    have el : tvLen.getD i 0 = tvLen.getD j 0 := (pn_eq (by omega) (by omega)).1 (show nI (tvLen.getD i 0) = nI (tvLen.getD j 0) from c5.symm.trans d5)
    refine tvS_ne i hi j hj hij ⟨el, fun k hk => ?_⟩
    have h1 := c6 k hk
    have h2 := d6 k (by omega)
    exact Value.int.inj (Option.some.inj (h1.symm.trans h2))

theorem tvK_start {s : State} {A : Array Value} (l : Launch) (hl : l.stackTraces = false) (hts : ∀ w ∈ lw_tbl, w.before A s = true) (hf : ∀ w ∈ tvFC, w.before A s = true) : ∃ G : tvG, G.1 = l ∧ G.2.1 = s.heap.size ∧ tvK G s s.heap := by
  have hA : ∀ a : Nat, a < s.heap.size → ¬ (fun q => s.heap.size ≤ q) a := fun a h q => absurd (show s.heap.size ≤ a from q) (by omega)
  obtain ⟨dC, dI, k1⟩ := tvStart_cl (tvGW_of hts)
  obtain ⟨cA, k2⟩ := tvStart_ar hts
  obtain ⟨adK, adV, k3, k4⟩ := tvStart_st (Nat.le_refl _) hts hf
  refine ⟨(l, s.heap.size, (dC, dI), cA, adK, adV), rfl, rfl, ⟨k1, k2⟩, fun w hw => va_Nw.of (tvNest_on hw) (hts w (List.mem_filter.mp hw).1), k3, k4, vx_Zqof (hts _ (tvc_3 (List.mem_of_getElem? (i := 36) (by decide +kernel)))) (hts _ (tvc_1 (List.mem_of_getElem? (i := 11) (by decide +kernel)))) (hf _ (tvFC_mem (k := 4) (by decide +kernel))) hA, vx_Zqof (hts _ (tvc_3 (List.mem_of_getElem? (i := 38) (by decide +kernel)))) (hts _ (tvc_1 (List.mem_of_getElem? (i := 11) (by decide +kernel)))) (hf _ (tvFC_mem (k := 5) (by decide +kernel))) hA, Nat.le_refl _, hl, va_Zof (hts _ (tvc_5 (List.mem_of_getElem? (i := 217) (by decide +kernel)))) (hts _ (tvc_1 (List.mem_of_getElem? (i := 22) (by decide +kernel)))) (va_eqi (hf _ (tvFC_mem (k := 6) (by decide +kernel)))) hA, va_Zqof (hts _ (tvc_5 (List.mem_of_getElem? (i := 237) (by decide +kernel)))) (hts _ (tvc_1 (List.mem_of_getElem? (i := 24) (by decide +kernel)))) (hf _ (tvFC_mem (k := 7) (by decide +kernel))) hA, va_AO.of (hts _ (tvc_1 (List.mem_of_getElem? (i := 183) (by decide +kernel))))⟩
