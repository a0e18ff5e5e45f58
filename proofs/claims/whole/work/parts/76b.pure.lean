def pNx (N N' : tvM) : Prop := (∀ a k, ¬ (a = 249 ∧ k = 8) → N'.1 a k = N.1 a k) ∧ N'.2 = N.2
theorem pNx.refl (N : tvM) : pNx N N := ⟨fun _ _ _ => rfl, rfl⟩
theorem pNx.to {N N' : tvM} {v : Int32} (h : pNx (tpi N 249 8 v) N') : pNx N N' := ⟨fun a k q => (h.1 a k q).trans (by
  by_cases q2 : a = 249
  · subst q2
    exact tpi_k _ _ _ (by omega)
  · exact tpi_o _ _ k q2), h.2⟩
theorem pNx.one (N : tvM) (v : Int32) : pNx N (tpi N 249 8 v) := pNx.to (pNx.refl _)
/-- all commands from i on are done -/
def pLpA (Mb : tvM) (m B d i : Nat) (c : Nat → Nat → Int32) (l : Int64) (s : Nat → Nat) (N : tvM) (u : Nat) : Prop :=
  ∃ (c' : Nat → Nat → Int32) (l' : Int64) (s' : Nat → Nat) (N' : tvM), tvRu u i (puC Mb 1 c l) = tvRuE (puC Mb 1 c' l') ∧ pOk (B + 240 * d) c' l' s' ∧ pNx N N' ∧ ∀ (F : Nat) (r : Int32 × tvM), pEnd s_X9_run qs_X9_run F (.inl (1, nI m, puN N' s' (nI 0))) r → pEnd s_X9_run qs_X9_run (F + d) (.inl (1, nI i, puN N s (nI 0))) r
/-- one is refused -/
def pLpB (Mb : tvM) (m d i : Nat) (c : Nat → Nat → Int32) (l : Int64) (s : Nat → Nat) (N : tvM) (u : Nat) : Prop :=
  ∃ (i0 k : Nat) (c' : Nat → Nat → Int32) (l' : Int64) (s' : Nat → Nat) (N' : tvM), i0 < m ∧ tvRu u i (puC Mb 1 c l) = tvRuX (puC Mb 1 c' l') (nI i0) ∧ (tvRuR (puC Mb 1 c' l') (nI i0) = 4 ↔ k = 4) ∧ 1 ≤ k ∧ k ≤ 4 ∧ pNx N N' ∧ (∀ j, s' j < 2147483648) ∧ pEnd s_X9_run qs_X9_run (d + 1) (.inl (1, nI i, puN N s (nI 0))) (0, pRuX N' s' k i0)
theorem pRun_lp {Mb : tvM} {m : Nat} (hm : m ≤ 30) (h3 : Mb.1 243 3 = nI m) : ∀ (d i B : Nat) (c : Nat → Nat → Int32) (l : Int64) (s : Nat → Nat) (N : tvM) (u : Nat), i + d = m → d ≤ u → pOk B c l s → B + 240 * d ≤ 10000000 → N.1 249 17 = nI m → (∀ j, j < m → pCm Mb N j) → pLpA Mb m B d i c l s N u ∨ pLpB Mb m d i c l s N u := by
  intro d
  induction d with
  | zero =>
    intro i B c l s N u hi hu hR hB hN hC
    have e : i = m := by omega
    subst e
    refine Or.inl ⟨c, l, s, N, ?_, hR, pNx.refl N, fun F r h => h⟩
    cases u with
    | zero => exact tvRu_0 _ _
    | succ u =>
      rw [tvRu_s, if_pos]
      rw [puC_o _ _ _ _ (by omega), show tgi Mb 243 3 = nI i from h3, pn_le (by omega) (by omega)]
      exact Nat.le_refl _
  | succ d ih =>
    intro i B c l s N u hi hu hR hB hN hC
    obtain ⟨u', rfl⟩ : ∃ u', u = u' + 1 := ⟨u - 1, by omega⟩
    have hl : ¬ tgi (puC Mb 1 c l) 243 3 ≤ nI i := by
      rw [puC_o _ _ _ _ (by omega), show tgi Mb 243 3 = nI m from h3, pn_le (by omega) (by omega)]
      omega
    obtain ⟨v, v1, v2, v3, v4⟩ := hC i (by omega)
    have ev : f_X5_verbOf (puC Mb 1 c l) (nI i) = nI v := (pVerb _ (by omega)).trans ((puC_o _ _ _ _ (by omega) _).trans v2)
    have ea : ∀ j, j < pNa v → j < 3 → tgi (puN N s (nI 0)) 256 (4 * i + 1 + j) = f_X5_argumentOf (puC Mb 1 c l) (nI i) (nI j) := fun j q1 q2 => by
      rw [pArg _ (by omega) q2, puN_o _ _ _ (by omega) (by omega)]
      exact ((puC_o _ _ _ _ (by omega) _).trans (v4 j q1)).symm
    have hl2 : tgi (puN N s (nI 0)) 256 (4 * i) = nI (pLt v) := (puN_o _ _ _ (by omega) (by omega)).trans v3
    obtain ⟨a0, ha0⟩ : ∃ z, z = f_X5_argumentOf (puC Mb 1 c l) (nI i) 0 := ⟨_, rfl⟩
    obtain ⟨a1, ha1⟩ : ∃ z, z = f_X5_argumentOf (puC Mb 1 c l) (nI i) 1 := ⟨_, rfl⟩
    obtain ⟨a2, ha2⟩ : ∃ z, z = f_X5_argumentOf (puC Mb 1 c l) (nI i) 2 := ⟨_, rfl⟩
    have eR : tvRuR (puC Mb 1 c l) (nI i) = f_X6_refusalOfCommand (puC Mb 1 c l) 1 (nI v) a0 a1 a2 := by
      unfold tvRuR
      rw [ev, ← ha0, ← ha1, ← ha2]
    have eC : tvRuC (puC Mb 1 c l) (nI i) = f_X6_carryOut (puC Mb 1 c l) 1 (nI v) a0 a1 a2 := by
      unfold tvRuC
      rw [ev, ← ha0, ← ha1, ← ha2]
    rcases pStp_all hR (by omega) v1 (show i ≤ 29 by omega) Mb N (nI 0) a0 a1 a2 hl2 (fun q => (ea 0 q (by omega)).trans ha0.symm) (fun q => (ea 1 q (by omega)).trans ha1.symm) (fun q => (ea 2 q (by omega)).trans ha2.symm) with ⟨r1, c', l', s', w, r2, r3, r4, r5⟩ | ⟨r, k, s', r1, r2, r3, r4, r5, r6, r7, r8⟩
    · obtain ⟨p1, p2⟩ := pRs_done (y := 1) (show i < m by omega) hm hN r3 r4
      have eu : tvRu (u' + 1) i (puC Mb 1 c l) = tvRu u' (i + 1) (puC Mb 1 c' l') := by
        rw [tvRu_s, if_neg hl, eR, if_pos r1, eC, r2]
      rcases ih (i + 1) (B + 240) c' l' s' (tpi N 249 8 (nI w)) u' (by omega) (by omega) r5 (by omega) ((tpi_k _ _ _ (by omega)).trans hN) (fun j hj => by
        obtain ⟨z, z1, z2, z3, z4⟩ := hC j hj
        exact ⟨z, z1, z2, (tpi_o _ _ _ (by omega)).trans z3, fun q hq => (z4 q hq).trans (tpi_o _ _ _ (by omega)).symm⟩) with ⟨c2, l2, s2, N2, b1, b2, b3, b4⟩ | ⟨i0, k, c2, l2, s2, N2, b1, b2, b3, b4, b5, b6, b7, b8⟩
      · refine Or.inl ⟨c2, l2, s2, N2, eu.trans b1, ?_, b3.to, fun F r h => ?_⟩
        · rw [show B + 240 * (d + 1) = B + 240 + 240 * d by omega]
          exact b2
        · exact pEnd_1 (F := F + d) p1 p2 (b4 F r h)
      · exact Or.inr ⟨i0, k, c2, l2, s2, N2, b1, eu.trans b2, b3, b4, b5, b6.to, b7, pEnd_1 (F := d + 1) p1 p2 b8⟩
    · obtain ⟨p1, p2⟩ := pRs_ref (y := 1) (show i < m by omega) hm r4 r5 hN r6 r7
      refine Or.inr ⟨i, k, c, l, s', tpi N 249 8 (nI 0), by omega, ?_, ?_, r4, r5, pNx.one _ _, r8, pEnd_1 (F := d + 1) p1 p2 (pEnd_r _ _)⟩
      · rw [tvRu_s, if_neg hl, if_neg]
        rw [eR, r1]
        exact r2
      · rw [eR, r1]
        exact r3

