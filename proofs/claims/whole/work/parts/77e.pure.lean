theorem pRun_ok {B : Nat} {M : tvM} {s : Nat → Nat} {x n : Nat} (hB : B + 14400 ≤ 10000000) (hJ : pJs B M M s x n) (hr : pJr B M M) {len : Nat} {T : Nat → Nat} (hT : pTx len T M M) {M' Na : tvM} {m : Nat} (hp : f_X5_parse M = (-1, M')) (hf : pRd len M M M' Na len m m 9 0) (a1 a2 a3 : Int32) : lq_41 M a1 a2 a3 ∧ pJ (B + 14400) (lm_41 M a1 a2 a3) (lm_41 M a1 a2 a3) := by
  have hJ0 := hJ
  obtain ⟨h1, h2, ⟨hx, hn, h5, h6, h7⟩, h8⟩ := hJ
  have hm : m ≤ 30 := hf.1.2.2.2.2.2
  have p3 : M'.1 243 3 = nI m := hf.1.2.2.2.1
  obtain ⟨g1, g2⟩ := hf.2.1
  obtain ⟨U, hU, e8⟩ := f_X8_run_1 hp
  obtain ⟨Me, hMe⟩ : ∃ z, z = tpi M' 243 1 0 := ⟨_, rfl⟩
  have oe : ∀ a, a ≠ 243 → a ≠ 245 → a ≠ 246 → Me.1 a = M.1 a := fun a q1 q2 q3 => funext fun j => by
    rw [hMe, tpi_o _ _ j q1]
    exact g1 a j q2 q3 (by omega)
  have oep : ∀ a, a ≠ 243 → Me.1 a = M'.1 a := fun a q => funext fun j => by rw [hMe, tpi_o _ _ j q]
  have oe1 : Me.1 243 1 = 0 := by rw [hMe]; exact tpi_s _ _ _ _
  have oe3 : Me.1 243 3 = nI m := by
    rw [hMe, tpi_k _ _ _ (by omega)]
    exact p3
  have oel : Me.2 = M.2 := by rw [hMe]; exact g2
  rw [← hMe] at e8
  clear hMe
  obtain ⟨kb, kb1⟩ := pBegin (M := Me) (x := x) (by rw [oe 61 (by omega) (by omega) (by omega)]; exact h5) hx
  obtain ⟨Mb, hMb⟩ : ∃ z, z = f_X1_begin Me := ⟨_, rfl⟩
  rw [← hMb] at kb kb1 e8
  clear hMb
  rw [← show puC Mb 1 (pV Mb 1) (pL Mb 1) = Mb from puC_self Mb 1] at e8
  have kb0 := kb
  obtain ⟨k1, k2, k3, k4, k5⟩ := kb
  have hR0 : pOk B (pV Mb 1) (pL Mb 1) s := by
    have e : pL Mb 1 = pL M 1 := by
      show Mb.2.1 1 8 = M.2.1 1 8
      rw [k2 1 (by omega), oel]
    rw [e]
    refine pOk_cc h2 fun p k hp => ?_
    have hp20 : p < 20 := by unfold pRel at hp; omega
    show Mb.1 (1 + p) k = M.1 (1 + p) k
    rw [k1 (1 + p) (by omega) (by omega), oe (1 + p) (by omega) (by omega) (by omega)]
  have b3 : Mb.1 243 3 = nI m := by rw [k1 243 (by omega) (by omega)]; exact oe3
  have b61 : Mb.1 61 1 = nI x := by rw [kb1, oe 61 (by omega) (by omega) (by omega)]; exact h5
  have b62 : Mb.1 61 2 = nI n := by rw [kb1, oe 61 (by omega) (by omega) (by omega)]; exact h6
  have bm : ∀ a, 249 ≤ a → Mb.1 a = M.1 a := fun a q => by rw [k1 a (by omega) (by omega), oe a (by omega) (by omega) (by omega)]
  have hCm : ∀ N : tvM, (∀ i, i < m → pCm M' N i) → ∀ i, i < m → pCm Mb N i := fun N h i hi => by
    obtain ⟨v, v1, v2, v3, v4⟩ := h i hi
    refine ⟨v, v1, ?_, v3, fun j hj => ?_⟩
    · rw [k1 245 (by omega) (by omega), oep 245 (by omega)]; exact v2
    · rw [k1 246 (by omega) (by omega), oep 246 (by omega)]; exact v4 j hj
  have gE : ∀ (c : Nat → Nat → Int32) (l : Int64) (v w : Int32) a, 21 ≤ a → a ≠ 61 → (puC (tpi (tpi Mb 61 1 v) 61 2 w) 1 c l).1 a = Mb.1 a := fun c l v w a q1 q2 => funext fun j => by
    refine (puC_o _ 1 _ _ (by omega) j).trans ?_
    show (tpi (tpi Mb 61 1 v) 61 2 w).1 a j = Mb.1 a j
    rw [tpi_o _ _ j q2, tpi_o _ _ j q2]
  have gX : ∀ (c : Nat → Nat → Int32) (l : Int64) (v w : Int32) a, 21 ≤ a → (tpi (tpi (puC Mb 1 c l) 0 8 v) 0 9 w).1 a = Mb.1 a := fun c l v w a q1 => funext fun j => by
    rw [tpi_o _ _ j (by omega), tpi_o _ _ j (by omega)]
    exact puC_o _ 1 _ _ (by omega) j
  have hK : pMr M (f_L_run M).2 := by
    obtain ⟨N0, _, _, _, _, _, _, _, n0, c0⟩ := pRun_e1 hT hp hf h1 (pMr.refl M)
    rcases pRun_lp hm b3 m 0 B (pV Mb 1) (pL Mb 1) s N0 U (by omega) (by omega) hR0 (by omega) n0 (hCm N0 c0) with ⟨c', l', s', N', q1, _⟩ | ⟨i0, k, c', l', s', N', _, q1, _⟩
    · rw [(f_L_run_2 (e8.trans (q1.trans (tvRuE_K b61 b62 hx hn b3)))).1]
      exact fun a q2 q3 => (gE c' l' _ _ a (by omega) (by omega)).trans (bm a q2)
    · obtain ⟨c2, w1, w2⟩ := tvRuX_K (c := c') (l := l') (i := i0) b61 hx
      rw [(f_L_run_1 (e8.trans (q1.trans w1))).1]
      exact fun a q2 q3 => (gX c2 _ _ _ a (by omega)).trans (bm a q2)
  obtain ⟨N, eN, qN, n2, n1, n4, n5, n6, n7, n8⟩ := pRun_e1 hT hp hf h1 hK
  have n3 : ∀ a, 252 ≤ a ∧ a ≤ 255 → N.1 a = M.1 a := fun a q => (n1 a (Or.inr q)).trans (hK a (by omega) (by omega))
  have n5' : ∀ j, j ≤ 14 → j ≠ 5 → N.1 249 j = M.1 249 j := fun j q1 q2 => (n5 j q1 q2).trans (congrFun (hK 249 (by omega) (by omega)) j)
  rcases pRun_lp hm b3 m 0 B (pV Mb 1) (pL Mb 1) s N U (by omega) (by omega) hR0 (by omega) n7 (hCm N n8) with ⟨c', l', s', N', q1, q2, q3, q4⟩ | ⟨i0, k, c', l', s', N', q0, q1, q2, q3, q4, q5, q6, q7⟩
  · have hL := f_L_run_2 (e8.trans (q1.trans (tvRuE_K b61 b62 hx hn b3)))
    obtain ⟨K, hKe⟩ : ∃ z, z = tpl (puC (tpi (tpi Mb 61 1 (nI ((x + 1) % 9))) 61 2 (nI (min (n + 1) 8))) 1 c' l') 257 0 (nI m).toInt64 := ⟨_, rfl⟩
    rw [← hKe] at hL
    have hL2 : (f_L_run M).2 = K := by rw [hL.1]
    rw [hL2] at eN qN n2 n1
    obtain ⟨r1, M4, r2, r3, r4, r5, r6, r7, r8⟩ := pRemember (M := puN N' s' (nI 0)) (n := n) (by
      refine (puN_o _ _ _ (by omega) (by omega)).trans ((q3.1 249 4 (by omega)).trans ?_)
      rw [n5' 4 (by omega) (by omega)]
      exact h7) hn
    obtain ⟨st1, st2⟩ := pRs_end (y := 1) ((q3.1 249 17 (by omega)).trans n7) r1 r2
    have lp : pEnd s_X9_run qs_X9_run 5000 (e_X9_run K) (nI m, M4) := by
      rw [eN]
      exact pEnd_to (q4 1 _ (pEnd_1 (F := 0) st1 st2 (pEnd_r 0 _))) (by omega)
    obtain ⟨l1, l2⟩ := lq_41_of a1 a2 a3 hL (f_X9_run_r lp) (q_X9_run_r lp qN) ((r5 5 (by omega)).trans (puN_t _ _ _)) (fun _ => by
      rw [r3]
      show N'.2.1 257 0 = _
      rw [q3.2, n2, hKe]
      exact tpl_s _ _ _ _)
    rw [l2]
    exact ⟨l1, (pRun_yes (by omega) hJ0 hr oe oe1 oel kb0 hKe q2 (fun a q => n1 a (Or.inl q)) n2 n3 n4 n5' n6 q3 r3 r4 r5 r6 r7 r8).up (by omega) hB⟩
  · obtain ⟨c2, w1, w2⟩ := tvRuX_K (c := c') (l := l') (i := i0) b61 hx
    have hL := f_L_run_1 (e8.trans (q1.trans w1))
    have ek : (if tvRuR (puC Mb 1 c' l') (nI i0) = 4 then (1 : Int32) else 0) = if k = 4 then 1 else 0 := by
      by_cases q : k = 4
      · rw [if_pos (q2.2 q), if_pos q]
      · rw [if_neg (fun z => q (q2.1 z)), if_neg q]
    rw [ek] at hL
    obtain ⟨K, hKe⟩ : ∃ z, z = tpi (tpi (puC Mb 1 c2 (pL Mb (63 + 20 * x))) 0 8 (nI i0)) 0 9 (if k = 4 then 1 else 0) := ⟨_, rfl⟩
    rw [← hKe] at hL
    have hL2 : (f_L_run M).2 = K := by rw [hL.1]
    rw [hL2] at eN qN n2 n1
    have lp : pEnd s_X9_run qs_X9_run 5000 (e_X9_run K) (0, pRuX N' s' k i0) := by
      rw [eN]
      exact pEnd_to q7 (by omega)
    have kr : ∀ a, 21 ≤ a → K.1 a = Mb.1 a := fun a q => by
      rw [hKe]
      exact gX c2 _ _ _ a q
    have kl : ∀ a, a ≠ 1 → K.2.1 a = Mb.2.1 a := fun a q => by
      rw [hKe]
      exact tvU_ne _ _ _ q
    have cR : ∀ p j, pRel p j → K.1 (1 + p) j = M.1 (1 + p) j := fun p j hp => by
      have hp20 : p < 20 := by unfold pRel at hp; omega
      rw [hKe, tpi_o _ _ j (by omega), tpi_o _ _ j (by omega)]
      refine (puC_g _ 1 _ _ hp20 j).trans ((w2 p j hp).trans ((k4 p j hp).trans ?_))
      rw [oe (1 + p) (by omega) (by omega) (by omega)]
    have cL : K.2.1 1 8 = M.2.1 1 8 := by
      rw [hKe]
      refine (puC_l Mb 1 c2 _).trans (k5.trans ?_)
      show Me.2.1 1 8 = _
      rw [oel]
    have c0 : ∀ a, 21 ≤ a → a < 63 ∨ 243 < a → a ≠ 245 → a ≠ 246 → a < 249 → K.1 a = M.1 a := fun a z1 z2 z3 z4 z5 => by
      rw [kr a z1]
      by_cases q : a = 61
      · subst q
        rw [kb1, oe 61 (by omega) (by omega) (by omega)]
      · rw [k1 a q (by omega), oe a (by omega) z3 z4]
    have ch : pHist B K M x n := fun i hi => by
      obtain ⟨si, ha, hb⟩ := h8 i hi
      have l9 : (x + 9 - n + i) % 9 < 9 := Nat.mod_lt _ (by omega)
      have ne : (x + 9 - n + i) % 9 ≠ x := by omega
      refine ⟨si, ha, ?_⟩
      generalize (x + 9 - n + i) % 9 = z at l9 ne hb ⊢
      have e2 : pL K (63 + 20 * z) = pL M (63 + 20 * z) := by
        show K.2.1 (63 + 20 * z) 8 = M.2.1 (63 + 20 * z) 8
        rw [kl _ (by omega), k2 _ (by omega), oel]
      rw [e2]
      refine pOk_cc hb fun p j hp => ?_
      have hp20 : p < 20 := by unfold pRel at hp; omega
      show K.1 (63 + 20 * z + p) j = M.1 (63 + 20 * z + p) j
      rw [kr _ (by omega), k1 _ (by omega) (by omega), oe _ (by omega) (by omega) (by omega)]
    have cl : K.2.1 41 8 = M.2.1 41 8 := by rw [kl 41 (by omega), k2 41 (by omega), oel]
    have c1 : K.1 243 1 = 0 := by
      rw [kr 243 (by omega), k1 243 (by omega) (by omega)]
      exact oe1
    have c7 : ∀ j, j ≤ 7 → K.1 0 j = M.1 0 j := fun j hj => by
      rw [hKe, tpi_k _ _ _ (by omega), tpi_k _ _ _ (by omega)]
      refine (puC_o _ 1 _ _ (by omega) j).trans ?_
      show Mb.1 0 j = _
      rw [k1 0 (by omega) (by omega), oe 0 (by omega) (by omega) (by omega)]
    have c8 : K.1 0 8 = nI i0 := by
      rw [hKe, tpi_k _ _ _ (by omega)]
      exact tpi_s _ _ _ _
    have c9 : K.1 0 9 = if k = 4 then 1 else 0 := by
      rw [hKe]
      exact tpi_s _ _ _ _
    obtain ⟨R5, hj⟩ := pRun_no (show B ≤ 10000000 by omega) hJ0 hr (show i0 ≤ 60 by omega) q4 cR cL c0 ch cl c1 c7 c8 c9 (fun a q => n1 a (Or.inl q)) n2 n3 n4 n5' n6 q5 q6 rfl
    obtain ⟨l1, l2⟩ := lq_41_of a1 a2 a3 hL (f_X9_run_r lp) (q_X9_run_r lp qN) R5 (fun q => absurd q (by decide))
    rw [l2]
    exact ⟨l1, hj.up (by omega) hB⟩
theorem pc_41 {B : Nat} {M : tvM} (h : pJ B M M) (hB : B + 14400 ≤ 10000000) (a1 a2 a3 : Int32) : lq_41 M a1 a2 a3 ∧ pJ (B + 14400) (lm_41 M a1 a2 a3) (lm_41 M a1 a2 a3) := by
  obtain ⟨s, x, n, hJ, hr⟩ := h
  obtain ⟨len, T, hT⟩ := pTx_of hr.2.2.1
  obtain ⟨_, M', Na, z⟩ := rd_parse hT
  rcases z with ⟨z1, _, m, z3⟩ | ⟨p', z1, _, z3⟩
  · exact pRun_ok hB hJ hr hT z1 z3 a1 a2 a3
  · obtain ⟨l1, l2⟩ := pRun_fail hJ hr hT z1 z3 a1 a2 a3
    exact ⟨l1, l2.up (by omega) hB⟩

