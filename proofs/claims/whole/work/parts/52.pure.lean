theorem px_thr (M : tvM) : (f_X9_isThrown M 0 1).2 = tpi M 249 5 0 := by unfold f_X9_isThrown; rw [if_pos rfl]
theorem px_thrn (M : tvM) : (f_X9_isThrown M 1 1).2 = tpi M 249 5 1 := by unfold f_X9_isThrown; rw [if_neg (by decide)]
theorem tpl_1 (M : tvM) (a k : Nat) (v : Int64) : (tpl M a k v).1 = M.1 := rfl
/-- an older state, with the places behind the 202nd as they are -/
def pOld (si s : Nat → Nat) : Nat → Nat := fun k => if k < 202 then si k else s k
theorem pOld_ok {B : Nat} {c : Nat → Nat → Int32} {l : Int64} {si s : Nat → Nat} (h : pOk B c l si) (hb : ∀ k, s k < 2147483648) : pOk B c l (pOld si s) := pOk_ss h (fun k hk => if_pos hk) (fun k => by
  unfold pOld
  split
  · exact h.1.1 k
  · exact hb k)
theorem pOld_1 (si s : Nat → Nat) {k : Nat} (h : k < 202) : pOld si s k = si k := if_pos h
theorem pOld_2 (si s : Nat → Nat) {k : Nat} (h : ¬ k < 202) : pOld si s k = s k := if_neg h
theorem pHist_cc {B : Nat} {M M' M1 M2 : tvM} {x n : Nat} (h : pHist B M M' x n) (e : ∀ a, 63 ≤ a → a < 249 → M1.1 a = M.1 a) (e2 : ∀ a, 63 ≤ a → a < 249 → M1.2.1 a = M.2.1 a) (e3 : M2.1 253 = M'.1 253) : pHist B M1 M2 x n := fun i hi => by
  obtain ⟨si, a, b⟩ := h i hi
  have l9 : (x + 9 - n + i) % 9 < 9 := Nat.mod_lt _ (by omega)
  refine ⟨si, fun k hk => by rw [e3]; exact a k hk, ?_⟩
  generalize (x + 9 - n + i) % 9 = z at l9 b ⊢
  have e4 : pL M1 (63 + 20 * z) = pL M (63 + 20 * z) := congrFun (e2 _ (by omega) (by omega)) 8
  rw [e4]
  exact pOk_cc b fun p k hr => congrFun (e _ (by omega) (by unfold pRel at hr; omega)) k
theorem pc_45 {B : Nat} {M : tvM} (h : pJ B M M) (hB : B ≤ 10000000) (a1 a2 a3 : Int32) : lq_45 M a1 a2 a3 ∧ pJ B (lm_45 M a1 a2 a3) (lm_45 M a1 a2 a3) := by
  obtain ⟨s, x, n, ⟨h1, h2, ⟨hx, hn, h5, h6, h7⟩, h8⟩, hr⟩ := h
  by_cases q : n = 0
  · subst q
    have e8 : f_X8_undo M = (some "java/lang/IllegalStateException", 0, M) := by
      unfold f_X8_undo
      rw [if_pos (show tgi M 61 2 = 0 from h6)]
    have eL : f_L_undo M = (1, M) := by
      unfold f_L_undo
      rw [e8]
      simp
    have e9 : f_X9_undo M = (0, tpi M 249 5 1) := by
      unfold f_X9_undo
      rw [if_pos (show tgi M 249 4 = 0 from h7), px_thrn]
    have o : ∀ a k, ¬ (a = 249 ∧ k = 5) → (tpi M 249 5 1).1 a k = M.1 a k := fun a k hk => by
      by_cases q : a = 249
      · subst q
        exact tpi_k M 249 1 (by omega)
      · exact tpi_o M 1 k q
    unfold lq_45 lm_45
    rw [eL]
    dsimp only
    rw [e9]
    refine ⟨⟨⟨fun e he => ?_, trivial⟩, ⟨fun _ => trivial, fun hh => absurd h7 hh⟩, tpi_s _ _ _ _, fun n0 => absurd n0 (by decide), trivial⟩, s, x, 0, ⟨fun k => by rw [o _ _ (by omega)]; exact h1 k, pV_c ⟨fun a ha => funext fun k => o a k (by omega), fun a ha => rfl⟩ (by omega) h2, ⟨hx, hn, by rw [o _ _ (by omega)]; exact h5, by rw [o _ _ (by omega)]; exact h6, by rw [o _ _ (by omega)]; exact h7⟩, pHist_cc h8 (fun a _ _ => funext fun k => o a k (by omega)) (fun _ _ _ => rfl) (funext fun k => o _ k (by omega))⟩, pJr_c hr (Nat.le_refl _) hB (fun k _ _ => o _ _ (by omega)) (fun a _ _ => funext fun k => o _ _ (by omega)) rfl (fun a _ _ => funext fun k => o _ _ (by omega)) (fun k _ _ => o _ _ (by omega)) (fun a ha => funext fun k => o _ _ (by omega))⟩
    rw [e8] at he
    have he' := Option.some.inj he
    exact he'.symm
  · obtain ⟨si, ha, hbk⟩ := h8 (n - 1) (by omega)
    have ey : (x + 9 - n + (n - 1)) % 9 = (x + 8) % 9 := by omega
    rw [ey] at hbk
    have l9 : (x + 8) % 9 < 9 := Nat.mod_lt _ (by omega)
    have hs2 := pOld_ok hbk h2.1.1
    generalize hy : (x + 8) % 9 = y at hbk l9 hs2
    have en : ∀ N : tvM, N.1 61 1 = nI y → 63 + 20 * (f_J9_floorMod_7cf53 N (tgi N 61 1) 9).toNatClampNeg = 63 + 20 * y := fun N h => by
      rw [show tgi N 61 1 = nI y from h, pn_fm N (by omega), pn_c (by omega), Nat.mod_eq_of_lt l9]
    have e1 : f_J9_floorMod_7cf53 M (tgi M 61 1 - 1) 9 = nI y := by
      rw [show tgi M 61 1 = nI x from h5, pn_fm1 M hx, hy]
    obtain ⟨c', g, r⟩ := pc_copy (tpi M 61 1 (nI y)) (b := 1) (b2 := 63 + 20 * y) (by omega)
    have ec : f_X1_cancel (tpi M 61 1 (nI y)) = puC (tpi M 61 1 (nI y)) 1 c' (pL M (63 + 20 * y)) := by
      unfold f_X1_cancel
      rw [en _ (tpi_s _ _ _ _), g]
      rfl
    have e62 : tgi (puC (tpi M 61 1 (nI y)) 1 c' (pL M (63 + 20 * y))) 61 2 = nI n := (puC_o _ 1 _ _ (by omega) 2).trans ((tpi_k M 61 _ (by omega)).trans h6)
    obtain ⟨M1, hM1⟩ : ∃ z, z = tpi (puC (tpi M 61 1 (nI y)) 1 c' (pL M (63 + 20 * y))) 61 2 (nI (n - 1)) := ⟨_, rfl⟩
    have es : f_X1_stepBack M = (nI (n - 1), M1) := by
      unfold f_X1_stepBack
      rw [e1, ec, e62, pl_1, pn_sub (by omega), ← hM1]
      exact Prod.ext (show tgi M1 61 2 = nI (n - 1) from by rw [hM1]; exact tpi_s _ _ _ _) rfl
    have e8 : f_X8_undo M = (none, nI (n - 1), M1) := by
      unfold f_X8_undo
      rw [if_neg (show ¬ tgi M 61 2 = 0 from by rw [show tgi M 61 2 = nI n from h6, pl_0, pn_eq (by omega) (by omega)]; exact q), es]
    have eL : f_L_undo M = (0, tpl M1 257 0 (nI (n - 1)).toInt64) := by
      unfold f_L_undo
      rw [e8]
      rfl
    -- class memory
    have o1 : ∀ a, 21 ≤ a → a ≠ 61 → M1.1 a = M.1 a := fun a q1 q2 => by
      rw [hM1]
      funext k
      exact (tpi_o _ _ k q2).trans ((puC_o _ 1 _ _ (by omega) k).trans (tpi_o _ _ k q2))
    have o0 : ∀ k, M1.1 0 k = M.1 0 k := fun k => by
      rw [hM1]
      exact (tpi_o _ _ k (by omega)).trans ((puC_o _ 1 _ _ (by omega) k).trans (tpi_o _ _ k (by omega)))
    have o61 : M1.1 61 1 = nI y := by
      rw [hM1]
      exact (tpi_k _ _ _ (by omega)).trans ((puC_o _ 1 _ _ (by omega) 1).trans (tpi_s _ _ _ _))
    have o62 : M1.1 61 2 = nI (n - 1) := by
      rw [hM1]
      exact tpi_s _ _ _ _
    have ol : ∀ a, a ≠ 1 → M1.2.1 a = M.2.1 a := fun a q1 => by
      rw [hM1]
      exact tvU_ne _ _ _ q1
    have oR : pOk B (pV M1 1) (pL M1 1) (pOld si s) := by
      have e : pL M1 1 = pL M (63 + 20 * y) := by rw [hM1]; exact puC_l (tpi M 61 1 (nI y)) 1 c' _
      rw [e]
      refine pOk_cc hs2 fun p k hr => ?_
      have hp : p < 20 := by unfold pRel at hr; omega
      rw [hM1]
      exact (tpi_o _ _ k (by omega)).trans ((puC_g _ 1 _ _ hp k).trans ((r p k hr).trans (tpi_o _ _ k (by omega))))
    -- the model
    obtain ⟨M', hM'⟩ : ∃ z, z = tpl M1 257 0 (nI (n - 1)).toInt64 := ⟨_, rfl⟩
    have m1 : M'.1 = M1.1 := by rw [hM']; rfl
    have m4 : tgi M' 249 4 = nI n := by
      show M'.1 249 4 = _
      rw [m1, o1 249 (by omega) (by omega)]; exact h7
    obtain ⟨N, hN⟩ : ∃ z, z = tpi (tpi M' 249 5 0) 249 4 (nI (n - 1)) := ⟨_, rfl⟩
    have n4 : tgi N 249 4 = nI (n - 1) := by rw [hN]; exact tpi_s _ _ _ _
    have e9 : f_X9_undo M' = (nI (n - 1), pCp N 253 (202 * (n - 1)) 250 0 202) := by
      unfold f_X9_undo
      rw [if_neg (show ¬ tgi M' 249 4 = 0 from by rw [m4, pl_0, pn_eq (by omega) (by omega)]; exact q), px_thr, show tgi (tpi M' 249 5 0) 249 4 = nI n from (tpi_k _ _ _ (by omega)).trans m4, pl_1, pn_sub (by omega), ← hN, n4, show (202 : Int32) = nI 202 from rfl, pn_mul, show f_X9_copies N 253 (nI (202 * (n - 1))) 250 0 = pCp N 253 (202 * (n - 1)) 250 0 202 from px_copies N (j := 0) (by omega) (by omega) (by omega)]
      exact Prod.ext (show tgi (pCp N 253 (202 * (n - 1)) 250 0 202) 249 4 = nI (n - 1) from (pCp_o _ (by omega)).trans n4) rfl
    have q9 : q_X9_undo M' := by
      refine ⟨fun _ => trivial, fun _ => ⟨⟨202 * (n - 1), 0, ?_, rfl, by omega, by omega, by omega, by omega⟩, trivial⟩⟩
      rw [px_thr, show tgi (tpi M' 249 5 0) 249 4 = nI n from (tpi_k _ _ _ (by omega)).trans m4, pl_1, pn_sub (by omega), ← hN, n4, show (202 : Int32) = nI 202 from rfl, pn_mul]
    have on : ∀ a, a ≠ 249 → N.1 a = M'.1 a := fun a q1 => by
      rw [hN]
      funext k
      exact (tpi_o _ _ k q1).trans (tpi_o _ _ k q1)
    have on9 : ∀ k, k ≠ 4 → k ≠ 5 → N.1 249 k = M'.1 249 k := fun k q1 q2 => by
      rw [hN]
      exact (tpi_k _ _ _ q1).trans (tpi_k _ _ _ q2)
    obtain ⟨M2, hM2⟩ : ∃ z, z = pCp N 253 (202 * (n - 1)) 250 0 202 := ⟨_, rfl⟩
    have p2 : M2.2 = M'.2 := by rw [hM2, hN]; rfl
    have pa : ∀ a, a ≠ 249 → a ≠ 250 → M2.1 a = M'.1 a := fun a q1 q2 => by
      rw [hM2]
      funext k
      rw [pCp_o _ (by omega), on a q1]
    have p9 : ∀ k, k ≠ 4 → k ≠ 5 → M2.1 249 k = M'.1 249 k := fun k q1 q2 => by
      rw [hM2, pCp_o _ (by omega), on9 k q1 q2]
    have p94 : M2.1 249 4 = nI (n - 1) := by rw [hM2, pCp_o _ (by omega)]; exact n4
    have p95 : M2.1 249 5 = 0 := by
      rw [hM2, pCp_o _ (by omega), hN]
      exact (tpi_k _ _ _ (by omega)).trans (tpi_s _ _ _ _)
    have p0 : ∀ k, M2.1 250 k = nI (pOld si s k) := fun k => by
      rw [hM2]
      by_cases qk : k < 202
      · rw [pCp_i _ (by omega) (by omega), pOld_1 si s qk, on 253 (by omega), m1, o1 253 (by omega) (by omega), Nat.sub_zero]
        exact ha k qk
      · rw [pCp_o _ (by omega), pOld_2 si s qk, on 250 (by omega), m1, o1 250 (by omega) (by omega)]
        exact h1 k
    have hh : pHist B M1 M2 y (n - 1) := by
      have hq : pHist B M M y (n - 1) := fun i hi => by
        obtain ⟨sj, aj, bj⟩ := h8 i (by omega)
        refine ⟨sj, aj, ?_⟩
        rw [show (y + 9 - (n - 1) + i) % 9 = (x + 9 - n + i) % 9 by omega]
        exact bj
      exact pHist_cc hq (fun a q1 q2 => o1 a (by omega) (by omega)) (fun a q1 q2 => ol a (by omega)) (by rw [pa 253 (by omega) (by omega), m1, o1 253 (by omega) (by omega)])
    have hj : pJ B M1 M2 := ⟨pOld si s, y, n - 1, ⟨p0, oR, ⟨l9, by omega, o61, o62, p94⟩, hh⟩, pJr_c hr (Nat.le_refl _) hB (fun k _ _ => o0 k) (fun a _ _ => o1 a (by omega) (by omega)) (by rw [ol 41 (by omega)]) (fun a _ _ => o1 a (by omega) (by omega)) (fun k _ _ => by rw [p9 k (by omega) (by omega), m1, o1 249 (by omega) (by omega)]) (fun a q1 => by rw [pa a (by omega) (by omega), m1, o1 a (by omega) (by omega)])⟩
    unfold lq_45 lm_45
    rw [eL]
    dsimp only
    rw [← hM', e9, ← hM2]
    refine ⟨⟨⟨fun e he => ?_, trivial⟩, q9, p95, fun _ => ?_, trivial⟩, pAft.fin hB (M1 := M1) (M' := M') ⟨p2, fun a q1 => pa a (by omega) (by omega), hj⟩ ⟨fun a _ => by rw [m1], fun a q1 => by rw [hM']; exact tvU_ne _ _ _ (by omega)⟩⟩
    · rw [e8] at he
      exact absurd he (by simp)
    · rw [show tgl M2 257 0 = (nI (n - 1)).toInt64 from by show M2.2.1 257 0 = _; rw [p2, hM']; exact tpl_s _ _ _ _]
      exact lg_self _
theorem pc_46 {B : Nat} {M : tvM} (h : pJ B M M) (hB : B ≤ 10000000) (a1 a2 a3 : Int32) : lq_46 M a1 a2 a3 ∧ pJ B (lm_46 M a1 a2 a3) (lm_46 M a1 a2 a3) := by
  obtain ⟨s, x, n, ⟨h1, h2, ⟨hx, hn, h5, h6, h7⟩, h8⟩, hr⟩ := h
  obtain ⟨c', g, r⟩ := pc_copy M (b := 41) (b2 := 1) (by omega)
  obtain ⟨M1, hM1⟩ : ∃ z, z = tpi (puC M 41 c' (pL M 1)) 0 6 1 := ⟨_, rfl⟩
  have o1 : ∀ a, a ≠ 0 → ¬ (41 ≤ a ∧ a < 61) → M1.1 a = M.1 a := fun a q1 q2 => by
    rw [hM1]
    funext k
    exact (tpi_o _ _ k q1).trans (puC_o _ 41 _ _ (by omega) k)
  have o0 : ∀ k, k ≠ 6 → M1.1 0 k = M.1 0 k := fun k q1 => by
    rw [hM1]
    exact (tpi_k _ _ _ q1).trans (puC_o _ 41 _ _ (by omega) k)
  have o6 : M1.1 0 6 = 1 := by rw [hM1]; exact tpi_s _ _ _ _
  have ol : ∀ a, a ≠ 41 → M1.2.1 a = M.2.1 a := fun a q1 => by
    rw [hM1]
    exact tvU_ne _ _ _ q1
  have oR : pOk B (pV M1 41) (pL M1 41) s := by
    have e : pL M1 41 = pL M 1 := by rw [hM1]; exact puC_l M 41 c' _
    rw [e]
    refine pOk_cc h2 fun p k hr => ?_
    rw [hM1]
    exact (tpi_o _ _ k (by omega)).trans ((puC_g _ 41 _ _ (by unfold pRel at hr; omega) k).trans (r p k hr))
  have oR1 : pOk B (pV M1 1) (pL M1 1) s := by
    have e : pL M1 1 = pL M 1 := congrFun (ol 1 (by omega)) 8
    rw [e]
    exact pOk_cc h2 fun p k hr => congrFun (o1 _ (by omega) (by unfold pRel at hr; omega)) k
  have e8 : f_X8_save M = (nI (s 10), M1) := by
    unfold f_X8_save
    rw [g, ← hM1]
    refine Prod.ext ?_ rfl
    show M1.1 7 0 = nI (s 10)
    rw [o1 7 (by omega) (by omega)]
    exact h2.2.1.2.2.2.2.2.2.2.2
  obtain ⟨M2, hM2⟩ : ∃ z, z = tpi (pCp (tpi M1 249 5 0) 250 0 252 0 202) 249 9 1 := ⟨_, rfl⟩
  have p2 : M2.2 = M1.2 := by rw [hM2]; rfl
  have pa : ∀ a, a ≠ 249 → a ≠ 252 → M2.1 a = M1.1 a := fun a q1 q2 => by
    rw [hM2]
    funext k
    exact (tpi_o _ _ k q1).trans ((pCp_o _ (by omega)).trans (tpi_o _ _ k q1))
  have p9 : ∀ k, k ≠ 5 → k ≠ 9 → M2.1 249 k = M1.1 249 k := fun k q1 q2 => by
    rw [hM2]
    exact (tpi_k _ _ _ q2).trans ((pCp_o _ (by omega)).trans (tpi_k _ _ _ q1))
  have p99 : M2.1 249 9 = 1 := by rw [hM2]; exact tpi_s _ _ _ _
  have p52 : ∀ k, k < 202 → M2.1 252 k = nI (s k) := fun k hk => by
    rw [hM2, tpi_o _ _ k (by omega), pCp_i _ (by omega) (by omega), tpi_o _ _ _ (by omega), o1 250 (by omega) (by omega), show 0 + (k - 0) = k by omega]
    exact h1 k
  have e9 : f_X9_save M1 = (nI (s 10), M2) := by
    unfold f_X9_save
    rw [show f_X9_copies (tpi M1 249 5 0) 250 0 252 0 = pCp (tpi M1 249 5 0) 250 0 252 0 202 from px_copies _ (i := 0) (j := 0) (by omega) (by omega) (by omega), ← hM2]
    refine Prod.ext ?_ rfl
    show M2.1 250 10 = nI (s 10)
    rw [pa 250 (by omega) (by omega), o1 250 (by omega) (by omega)]
    exact h1 10
  unfold lq_46 lm_46
  rw [e8]
  dsimp only
  rw [e9]
  refine ⟨⟨rfl, trivial⟩, pAft.fin hB (M1 := M1) (M' := M1) ⟨p2, fun a q1 => pa a (by omega) (by omega), ?_⟩ ⟨fun _ _ => rfl, fun _ _ => rfl⟩⟩
  refine ⟨s, x, n, ⟨fun k => ?_, oR1, ⟨hx, hn, ?_, ?_, ?_⟩, pHist_cc h8 (fun a q1 q2 => o1 a (by omega) (by omega)) (fun a q1 q2 => ol a (by omega)) ?_⟩, Or.inr ⟨o6, p99, s, p52, oR⟩, ?_⟩
  · rw [pa 250 (by omega) (by omega), o1 250 (by omega) (by omega)]; exact h1 k
  · rw [o1 61 (by omega) (by omega)]; exact h5
  · rw [o1 61 (by omega) (by omega)]; exact h6
  · rw [p9 4 (by omega) (by omega), o1 249 (by omega) (by omega)]; exact h7
  · rw [pa 253 (by omega) (by omega), o1 253 (by omega) (by omega)]
  · obtain ⟨hs, he, ht, hl⟩ := hr
    refine ⟨?_, ?_, ?_⟩
    · unfold pErr at he ⊢
      rw [o0 7 (by omega), o0 8 (by omega), o0 9 (by omega), p9 6 (by omega) (by omega), p9 7 (by omega) (by omega), p9 10 (by omega) (by omega), o1 249 (by omega) (by omega)]
      exact he
    · unfold pTxt at ht ⊢
      rw [o1 243 (by omega) (by omega), o1 244 (by omega) (by omega), p9 15 (by omega) (by omega), o1 249 (by omega) (by omega), pa 255 (by omega) (by omega), o1 255 (by omega) (by omega)]
      exact ht
    · unfold pLin at hl ⊢
      rw [o1 247 (by omega) (by omega), o1 248 (by omega) (by omega), p9 12 (by omega) (by omega), o1 249 (by omega) (by omega), pa 254 (by omega) (by omega), o1 254 (by omega) (by omega)]
      exact hl
theorem pc_47 {B : Nat} {M : tvM} (h : pJ B M M) (hB : B ≤ 10000000) (a1 a2 a3 : Int32) : lq_47 M a1 a2 a3 ∧ pJ B (lm_47 M a1 a2 a3) (lm_47 M a1 a2 a3) := by
  obtain ⟨s, x, n, ⟨h1, h2, ⟨hx, hn, h5, h6, h7⟩, h8⟩, hr⟩ := h
  rcases id hr.1 with ⟨v6, v9⟩ | ⟨v6, v9, sv, hsv, hbk⟩
  · have e8 : f_X8_restore M = (some "java/lang/IllegalStateException", 0, M) := by
      unfold f_X8_restore
      rw [if_pos (show tgi M 0 6 = 0 from v6)]
    have eL : f_L_restore M = (1, M) := by
      unfold f_L_restore
      rw [e8]
      simp
    have e9 : f_X9_restore M = (0, tpi M 249 5 1) := by
      unfold f_X9_restore
      rw [if_pos (show tgi M 249 9 = 0 from v9), px_thrn]
    have o : ∀ a k, ¬ (a = 249 ∧ k = 5) → (tpi M 249 5 1).1 a k = M.1 a k := fun a k hk => by
      by_cases q : a = 249
      · subst q
        exact tpi_k M 249 1 (by omega)
      · exact tpi_o M 1 k q
    unfold lq_47 lm_47
    rw [eL]
    dsimp only
    rw [e9]
    refine ⟨⟨⟨fun e he => ?_, trivial⟩, tpi_s _ _ _ _, fun n0 => absurd n0 (by decide), trivial⟩, s, x, n, ⟨fun k => by rw [o _ _ (by omega)]; exact h1 k, pV_c ⟨fun a ha => funext fun k => o a k (by omega), fun a ha => rfl⟩ (by omega) h2, ⟨hx, hn, by rw [o _ _ (by omega)]; exact h5, by rw [o _ _ (by omega)]; exact h6, by rw [o _ _ (by omega)]; exact h7⟩, pHist_cc h8 (fun a _ _ => funext fun k => o a k (by omega)) (fun _ _ _ => rfl) (funext fun k => o _ k (by omega))⟩, pJr_c hr (Nat.le_refl _) hB (fun k _ _ => o _ _ (by omega)) (fun a _ _ => funext fun k => o _ _ (by omega)) rfl (fun a _ _ => funext fun k => o _ _ (by omega)) (fun k _ _ => o _ _ (by omega)) (fun a ha => funext fun k => o _ _ (by omega))⟩
    rw [e8] at he
    have he' := Option.some.inj he
    exact he'.symm
  · obtain ⟨c', g, r⟩ := pc_copy M (b := 1) (b2 := 41) (by omega)
    have hs2 := pOld_ok hbk h2.1.1
    obtain ⟨M1, hM1⟩ : ∃ z, z = tpi (puC M 1 c' (pL M 41)) 61 2 0 := ⟨_, rfl⟩
    have o1 : ∀ a, a ≠ 61 → ¬ (1 ≤ a ∧ a < 21) → M1.1 a = M.1 a := fun a q1 q2 => by
      rw [hM1]
      funext k
      exact (tpi_o _ _ k q1).trans (puC_o _ 1 _ _ (by omega) k)
    have o61 : M1.1 61 1 = nI x := by
      rw [hM1]
      exact (tpi_k _ _ _ (by omega)).trans ((puC_o _ 1 _ _ (by omega) 1).trans h5)
    have o62 : M1.1 61 2 = nI 0 := by rw [hM1]; exact tpi_s _ _ _ _
    have ol : ∀ a, a ≠ 1 → M1.2.1 a = M.2.1 a := fun a q1 => by
      rw [hM1]
      exact tvU_ne _ _ _ q1
    have oR : pOk B (pV M1 1) (pL M1 1) (pOld sv s) := by
      have e : pL M1 1 = pL M 41 := by rw [hM1]; exact puC_l M 1 c' _
      rw [e]
      refine pOk_cc hs2 fun p k hr => ?_
      rw [hM1]
      exact (tpi_o _ _ k (by unfold pRel at hr; omega)).trans ((puC_g _ 1 _ _ (by unfold pRel at hr; omega) k).trans (r p k hr))
    have e8 : f_X8_restore M = (none, nI (sv 10), M1) := by
      unfold f_X8_restore
      rw [if_neg (show ¬ tgi M 0 6 = 0 from by rw [show tgi M 0 6 = 1 from v6]; decide), g]
      unfold f_X1_forget
      rw [← hM1]
      refine Prod.ext rfl (Prod.ext ?_ rfl)
      exact oR.2.1.2.2.2.2.2.2.2.2
    obtain ⟨M', hM'⟩ : ∃ z, z = tpl M1 257 0 (nI (sv 10)).toInt64 := ⟨_, rfl⟩
    have m1 : M'.1 = M1.1 := by rw [hM']; rfl
    have eL : f_L_restore M = (0, M') := by
      unfold f_L_restore
      rw [e8, hM']
      rfl
    obtain ⟨M2, hM2⟩ : ∃ z, z = tpi (pCp (tpi M' 249 5 0) 252 0 250 0 202) 249 4 0 := ⟨_, rfl⟩
    have p2 : M2.2 = M'.2 := by rw [hM2]; rfl
    have pa : ∀ a, a ≠ 249 → a ≠ 250 → M2.1 a = M'.1 a := fun a q1 q2 => by
      rw [hM2]
      funext k
      exact (tpi_o _ _ k q1).trans ((pCp_o _ (by omega)).trans (tpi_o _ _ k q1))
    have p9 : ∀ k, k ≠ 5 → k ≠ 4 → M2.1 249 k = M'.1 249 k := fun k q1 q2 => by
      rw [hM2]
      exact (tpi_k _ _ _ q2).trans ((pCp_o _ (by omega)).trans (tpi_k _ _ _ q1))
    have p94 : M2.1 249 4 = nI 0 := by rw [hM2]; exact tpi_s _ _ _ _
    have p95 : M2.1 249 5 = 0 := by
      rw [hM2]
      exact (tpi_k _ _ _ (by omega)).trans ((pCp_o _ (by omega)).trans (tpi_s _ _ _ _))
    have p0 : ∀ k, M2.1 250 k = nI (pOld sv s k) := fun k => by
      rw [hM2, tpi_o _ _ k (by omega)]
      by_cases qk : k < 202
      · rw [pCp_i _ (by omega) (by omega), tpi_o _ _ _ (by omega), m1, o1 252 (by omega) (by omega), pOld_1 sv s qk, show 0 + (k - 0) = k by omega]
        exact hsv k qk
      · rw [pCp_o _ (by omega), tpi_o _ _ _ (by omega), pOld_2 sv s qk, m1, o1 250 (by omega) (by omega)]
        exact h1 k
    have e9 : f_X9_restore M' = (nI (sv 10), M2) := by
      unfold f_X9_restore
      rw [if_neg (show ¬ tgi M' 249 9 = 0 from by rw [show tgi M' 249 9 = 1 from by show M'.1 249 9 = 1; rw [m1, o1 249 (by omega) (by omega)]; exact v9]; decide), px_thr, show f_X9_copies (tpi M' 249 5 0) 252 0 250 0 = pCp (tpi M' 249 5 0) 252 0 250 0 202 from px_copies _ (i := 0) (j := 0) (by omega) (by omega) (by omega), ← hM2]
      exact Prod.ext (p0 10) rfl
    unfold lq_47 lm_47
    rw [eL]
    dsimp only
    rw [e9]
    refine ⟨⟨⟨fun e he => ?_, trivial⟩, p95, fun _ => ?_, trivial⟩, pAft.fin hB (M1 := M1) (M' := M') ⟨p2, fun a q1 => pa a (by omega) (by omega), pOld sv s, x, 0, ⟨p0, oR, ⟨hx, by omega, o61, o62, p94⟩, fun i hi => absurd hi (by omega)⟩, pJr_c hr (Nat.le_refl _) hB (fun k _ _ => by rw [o1 0 (by omega) (by omega)]) (fun a q1 q2 => ?_) (by rw [ol 41 (by omega)]) (fun a _ _ => o1 a (by omega) (by omega)) (fun k _ _ => by rw [p9 k (by omega) (by omega), m1, o1 249 (by omega) (by omega)]) (fun a q1 => by rw [pa a (by omega) (by omega), m1, o1 a (by omega) (by omega)])⟩ ⟨fun a _ => by rw [m1], fun a q1 => by rw [hM']; exact tvU_ne _ _ _ (by omega)⟩⟩
    · rw [e8] at he
      exact absurd he (by simp)
    · rw [show tgl M2 257 0 = (nI (sv 10)).toInt64 from by show M2.2.1 257 0 = _; rw [p2, hM']; exact tpl_s _ _ _ _]
      exact lg_self _
    · exact o1 a (by omega) (by omega)

