/-- the model at the head of its loop -/
theorem pRun_e1 {len : Nat} {T : Nat → Nat} {M M' : tvM} {s : Nat → Nat} {m : Nat} {Na : tvM} (hT : pTx len T M M) (hp : f_X5_parse M = (-1, M')) (hf : pRd len M M M' Na len m m 9 0) (hs : ∀ k, M.1 250 k = nI (s k)) {M1 : tvM} (e : pMr M M1) : ∃ N : tvM, e_X9_run M1 = .inl (1, nI 0, puN N s (nI 0)) ∧ q_X9_isProgram M1 ∧ N.2 = M1.2 ∧ (∀ a, a < 249 ∨ (252 ≤ a ∧ a ≤ 255) → N.1 a = M1.1 a) ∧ (∀ k, k < 202 → N.1 251 k = nI (s k)) ∧ (∀ k, k ≤ 14 → k ≠ 5 → N.1 249 k = M1.1 249 k) ∧ N.1 249 15 = 0 ∧ N.1 249 17 = nI m ∧ ∀ i, i < m → pCm M' N i := by
  obtain ⟨qp, M2, N', z⟩ := rd_parse (pTx_m hT e)
  rcases z with ⟨z1, z2, m', z3⟩ | ⟨p2, z1, _, z3⟩
  · have eM : M2 = M' := congrArg Prod.snd (z1.symm.trans hp)
    subst eM
    obtain ⟨⟨_, _, _, y3, y4, y5⟩, _, ⟨y6, y7⟩, y8, _, _⟩ := z3
    have em : m' = m := by
      have h3 := hf.1.2.2.2.1
      have h5 := hf.1.2.2.2.2.2
      exact (pn_eq (by omega) (by omega)).1 (y3.symm.trans h3)
    subst em
    obtain ⟨X, hX⟩ : ∃ z, z = tpi (tpi N' 249 15 0) 249 5 0 := ⟨_, rfl⟩
    have x1 : ∀ a, a ≠ 249 → X.1 a = N'.1 a := fun a q => funext fun j => by
      rw [hX, tpi_o _ _ j q, tpi_o _ _ j q]
    have x9 : ∀ k, k ≠ 5 → k ≠ 15 → X.1 249 k = N'.1 249 k := fun k q1 q2 => by
      rw [hX, tpi_k _ _ _ q1, tpi_k _ _ _ q2]
    have x15 : X.1 249 15 = 0 := by
      rw [hX, tpi_k _ _ _ (by omega)]
      exact tpi_s _ _ _ _
    have x2 : X.2 = N'.2 := by rw [hX]; rfl
    have xs : ∀ k, X.1 250 k = nI (s k) := fun k => by
      rw [x1 250 (by omega), y6 250 k (by omega) (by omega), e 250 (by omega) (by omega)]
      exact hs k
    have ee := e_X9_run_1 z2
    rw [← hX, pKeeps xs] at ee
    refine ⟨pCp X 250 0 251 0 202, ee, qp, ?_, fun a q => ?_, fun k q => ?_, fun k q1 q2 => ?_, ?_, ?_, fun i hi => ?_⟩
    · show X.2 = _
      rw [x2, y7]
    · refine funext fun j => ?_
      rw [pCp_o _ (by omega), x1 a (by omega)]
      exact y6 a j (by omega) (by omega)
    · rw [pCp_i _ (by omega) (by omega), show 0 + (k - 0) = k by omega]
      exact xs k
    · rw [pCp_o _ (by omega), x9 k q2 (by omega)]
      exact y6 249 k (by omega) (by omega)
    · rw [pCp_o _ (by omega)]
      exact x15
    · rw [pCp_o _ (by omega), x9 17 (by omega) (by omega)]
      exact y4
    · obtain ⟨v, v1, v2, v3, v4⟩ := y8 i hi
      have x6 : ∀ j, (pCp X 250 0 251 0 202).1 256 j = N'.1 256 j := fun j => by rw [pCp_o _ (by omega), x1 256 (by omega)]
      exact ⟨v, v1, v2, (x6 _).trans v3, fun j hj => (v4 j hj).trans (x6 _).symm⟩
  · have hl0 := hT.1
    have y3 := z3.1.2.2
    have e1 : (-1 : Int32) = nI p2 := congrArg Prod.fst (hp.symm.trans z1)
    exact absurd e1 (pn_m1ne (by omega))
theorem tvRuE_K {Mb : tvM} {c : Nat → Nat → Int32} {l : Int64} {x n m : Nat} (h1 : Mb.1 61 1 = nI x) (h2 : Mb.1 61 2 = nI n) (hx : x < 9) (hn : n ≤ 8) (h3 : Mb.1 243 3 = nI m) : tvRuE (puC Mb 1 c l) = (none, nI m, puC (tpi (tpi Mb 61 1 (nI ((x + 1) % 9))) 61 2 (nI (min (n + 1) 8))) 1 c l) := by
  have e : f_X1_commit (puC Mb 1 c l) = puC (tpi (tpi Mb 61 1 (nI ((x + 1) % 9))) 61 2 (nI (min (n + 1) 8))) 1 c l := by
    rw [pCommit (x := x) (n := n) ((puC_o _ _ _ _ (by omega) _).trans h1) ((puC_o _ _ _ _ (by omega) _).trans h2) hx hn, puC_x _ _ _ _ _ (by omega), puC_x _ _ _ _ _ (by omega)]
  have e3 : tgi (puC (tpi (tpi Mb 61 1 (nI ((x + 1) % 9))) 61 2 (nI (min (n + 1) 8))) 1 c l) 243 3 = nI m := by
    rw [puC_o _ _ _ _ (by omega)]
    show (tpi (tpi Mb 61 1 (nI ((x + 1) % 9))) 61 2 (nI (min (n + 1) 8))).1 243 3 = nI m
    rw [tpi_o _ _ _ (by omega), tpi_o _ _ _ (by omega)]
    exact h3
  unfold tvRuE
  rw [e, e3]
theorem tvRuX_K {Mb : tvM} {c : Nat → Nat → Int32} {l : Int64} {x i : Nat} (h1 : Mb.1 61 1 = nI x) (hx : x < 9) : ∃ c2 : Nat → Nat → Int32, tvRuX (puC Mb 1 c l) (nI i) = (some "java/lang/UnsupportedOperationException", 0, tpi (tpi (puC Mb 1 c2 (pL Mb (63 + 20 * x))) 0 8 (nI i)) 0 9 (if tvRuR (puC Mb 1 c l) (nI i) = 4 then 1 else 0)) ∧ ∀ p k, pRel p k → c2 p k = Mb.1 (63 + 20 * x + p) k := by
  obtain ⟨c2, g, r⟩ := pc_copy (puC Mb 1 c l) (b := 1) (b2 := 63 + 20 * x) (by omega)
  have e61 : tgi (puC Mb 1 c l) 61 1 = nI x := (puC_o _ _ _ _ (by omega) _).trans h1
  have ei : (f_J9_floorMod_7cf53 (puC Mb 1 c l) (nI x) 9).toNatClampNeg = x := by
    rw [pn_fm _ (by omega), pn_c (by omega), Nat.mod_eq_of_lt hx]
  have el : pL (puC Mb 1 c l) (63 + 20 * x) = pL Mb (63 + 20 * x) := congrFun (puC_lo Mb c l (by omega)) 8
  have ec : f_X1_cancel (puC Mb 1 c l) = puC Mb 1 c2 (pL Mb (63 + 20 * x)) := by
    unfold f_X1_cancel
    rw [e61, ei, g, puC_puC, el]
  refine ⟨c2, ?_, fun p k hr => (r p k hr).trans (puC_o _ _ _ _ (by omega) _)⟩
  unfold tvRuX
  rw [ec]

