theorem pCp_o (M : tvM) {a0 i a j n x k : Nat} (h : ¬ (x = a ∧ j ≤ k ∧ k < j + n)) : (pCp M a0 i a j n).1 x k = M.1 x k := if_neg h
theorem pCp_i (M : tvM) {a0 i a j n k : Nat} (h1 : j ≤ k) (h2 : k < j + n) : (pCp M a0 i a j n).1 a k = M.1 a0 (i + (k - j)) := if_pos ⟨rfl, h1, h2⟩
theorem tpi_o (M : tvM) {a k x : Nat} (v : Int32) (j : Nat) (h : x ≠ a) : (tpi M a k v).1 x j = M.1 x j := congrFun (tvU_ne _ _ _ h) j
theorem tpi_k (M : tvM) (a : Nat) {k j : Nat} (v : Int32) (h : j ≠ k) : (tpi M a k v).1 a j = M.1 a j := pcu_k _ _ _ h
theorem tpi_s (M : tvM) (a k : Nat) (v : Int32) : (tpi M a k v).1 a k = v := pcu_s _ _ _ _
/-! ===== the relation of two whole memories: the class's places in M, the model's in M' ===== -/
def pHist (B : Nat) (M M' : tvM) (x n : Nat) : Prop := ∀ i, i < n → ∃ si : Nat → Nat, (∀ k, k < 202 → M'.1 253 (202 * i + k) = nI (si k)) ∧ pOk B (pV M (63 + 20 * ((x + 9 - n + i) % 9))) (pL M (63 + 20 * ((x + 9 - n + i) % 9))) si
def pSav (B : Nat) (M M' : tvM) : Prop := (M.1 0 6 = 0 ∧ M'.1 249 9 = 0) ∨ (M.1 0 6 = 1 ∧ M'.1 249 9 = 1 ∧ ∃ sv : Nat → Nat, (∀ k, k < 202 → M'.1 252 k = nI (sv k)) ∧ pOk B (pV M 41) (pL M 41) sv)
def pErr (M M' : tvM) : Prop := (M.1 0 7 = M'.1 249 6 ∧ (M.1 0 7 = -1 ∨ ∃ e : Nat, e ≤ 60 ∧ M.1 0 7 = nI e)) ∧ (M.1 0 8 = M'.1 249 7 ∧ (M.1 0 8 = -1 ∨ ∃ e : Nat, e ≤ 60 ∧ M.1 0 8 = nI e)) ∧ M.1 0 9 = M'.1 249 10 ∧ (M.1 0 9 = 0 ∨ M.1 0 9 = 1)
def pTxt (M M' : tvM) : Prop := ∃ n : Nat, n ≤ 60 ∧ M.1 243 1 = nI n ∧ M'.1 249 15 = nI n ∧ ∀ k, k < n → ∃ ch : Nat, ch < 65536 ∧ M.1 244 k = nI ch ∧ M'.1 255 k = nI ch
def pLin (M M' : tvM) : Prop := ∃ n : Nat, n ≤ 36 ∧ M.1 247 1 = nI n ∧ M'.1 249 12 = nI n ∧ ∀ k, k < n → ∃ ch : Nat, ch < 65536 ∧ M.1 248 k = nI ch ∧ M'.1 254 k = nI ch
def pJs (B : Nat) (M M' : tvM) (s : Nat → Nat) (x n : Nat) : Prop := (∀ k, M'.1 250 k = nI (s k)) ∧ pOk B (pV M 1) (pL M 1) s ∧ (x < 9 ∧ n ≤ 8 ∧ M.1 61 1 = nI x ∧ M.1 61 2 = nI n ∧ M'.1 249 4 = nI n) ∧ pHist B M M' x n
def pJr (B : Nat) (M M' : tvM) : Prop := pSav B M M' ∧ pErr M M' ∧ pTxt M M' ∧ pLin M M'
def pJ (B : Nat) (M M' : tvM) : Prop := ∃ (s : Nat → Nat) (x n : Nat), pJs B M M' s x n ∧ pJr B M M'
theorem pHist.up {B B' : Nat} {M M' : tvM} {x n : Nat} (h : pHist B M M' x n) (hB : B ≤ B') (h1 : B' ≤ 10000000) : pHist B' M M' x n := fun i hi => by
  obtain ⟨si, a, b⟩ := h i hi
  exact ⟨si, a, b.up hB h1⟩
theorem pSav.up {B B' : Nat} {M M' : tvM} (h : pSav B M M') (hB : B ≤ B') (h1 : B' ≤ 10000000) : pSav B' M M' := by
  rcases h with h | ⟨a, b, sv, c, d⟩
  · exact Or.inl h
  · exact Or.inr ⟨a, b, sv, c, d.up hB h1⟩
/-- what the rest of the relation looks at -/
theorem pJr_c {B B' : Nat} {M M' M1 M1' : tvM} (h : pJr B M M') (hB : B ≤ B') (hB1 : B' ≤ 10000000) (h0 : ∀ k, 6 ≤ k → k ≤ 9 → M1.1 0 k = M.1 0 k) (h4 : ∀ a, 41 ≤ a → a < 61 → M1.1 a = M.1 a) (h4l : M1.2.1 41 8 = M.2.1 41 8) (h2 : ∀ a, 243 ≤ a → a < 249 → M1.1 a = M.1 a) (h9 : ∀ k, 6 ≤ k → k ≤ 15 → M1'.1 249 k = M'.1 249 k) (h5 : ∀ a, a = 252 ∨ a = 254 ∨ a = 255 → M1'.1 a = M'.1 a) : pJr B' M1 M1' := by
  obtain ⟨hs, he, ht, hl⟩ := h
  refine ⟨?_, ?_, ?_, ?_⟩
  · have hs := hs.up hB hB1
    unfold pSav at hs ⊢
    rw [h0 6 (by omega) (by omega), h9 9 (by omega) (by omega)]
    rcases hs with hs | ⟨a, b, sv, c, d⟩
    · exact Or.inl hs
    · refine Or.inr ⟨a, b, sv, fun k hk => by rw [h5 252 (by omega)]; exact c k hk, ?_⟩
      have e1 : pL M1 41 = pL M 41 := h4l
      rw [e1]
      exact pOk_cc d fun p k hr => by
        unfold pV
        rw [h4 (41 + p) (by omega) (by unfold pRel at hr; omega)]
  · unfold pErr at he ⊢
    rw [h0 7 (by omega) (by omega), h0 8 (by omega) (by omega), h0 9 (by omega) (by omega), h9 6 (by omega) (by omega), h9 7 (by omega) (by omega), h9 10 (by omega) (by omega)]
    exact he
  · unfold pTxt at ht ⊢
    rw [h2 243 (by omega) (by omega), h2 244 (by omega) (by omega), h9 15 (by omega) (by omega), h5 255 (by omega)]
    exact ht
  · unfold pLin at hl ⊢
    rw [h2 247 (by omega) (by omega), h2 248 (by omega) (by omega), h9 12 (by omega) (by omega), h5 254 (by omega)]
    exact hl
/-! ===== the class keeps a state ===== -/
theorem pn_fm (M : tvM) {x : Nat} (h : x ≤ 9) : f_J9_floorMod_7cf53 M (nI x) 9 = nI (x % 9) := by
  unfold f_J9_floorMod_7cf53
  rcases (show x = 0 ∨ x = 1 ∨ x = 2 ∨ x = 3 ∨ x = 4 ∨ x = 5 ∨ x = 6 ∨ x = 7 ∨ x = 8 ∨ x = 9 by omega) with rfl | rfl | rfl | rfl | rfl | rfl | rfl | rfl | rfl | rfl <;> decide
theorem pn_fm1 (M : tvM) {x : Nat} (h : x < 9) : f_J9_floorMod_7cf53 M (nI x - 1) 9 = nI ((x + 8) % 9) := by
  unfold f_J9_floorMod_7cf53
  rcases (show x = 0 ∨ x = 1 ∨ x = 2 ∨ x = 3 ∨ x = 4 ∨ x = 5 ∨ x = 6 ∨ x = 7 ∨ x = 8 by omega) with rfl | rfl | rfl | rfl | rfl | rfl | rfl | rfl | rfl <;> decide
theorem pn_min8 (M : tvM) {n : Nat} (h : n ≤ 8) : f_J9_min_7cf53 M (nI n + 1) 8 = nI (min (n + 1) 8) := by
  unfold f_J9_min_7cf53
  rcases (show n = 0 ∨ n = 1 ∨ n = 2 ∨ n = 3 ∨ n = 4 ∨ n = 5 ∨ n = 6 ∨ n = 7 ∨ n = 8 by omega) with rfl | rfl | rfl | rfl | rfl | rfl | rfl | rfl | rfl <;> decide
/-- what the class keeps: the state in slot x -/
def pKp (M Mk : tvM) (x : Nat) : Prop := (∀ a, a ≠ 61 → ¬ (63 + 20 * x ≤ a ∧ a < 63 + 20 * x + 20) → Mk.1 a = M.1 a) ∧ (∀ a, a ≠ 63 + 20 * x → Mk.2.1 a = M.2.1 a) ∧ Mk.2.2 = M.2.2 ∧ (∀ p k, pRel p k → Mk.1 (63 + 20 * x + p) k = M.1 (1 + p) k) ∧ pL Mk (63 + 20 * x) = pL M 1
theorem pBegin {M : tvM} {x : Nat} (h : M.1 61 1 = nI x) (hx : x < 9) : pKp M (f_X1_begin M) x ∧ (f_X1_begin M).1 61 = M.1 61 := by
  have e : 63 + 20 * (f_J9_floorMod_7cf53 M (tgi M 61 1) 9).toNatClampNeg = 63 + 20 * x := by
    rw [show tgi M 61 1 = nI x from h, pn_fm M (by omega), pn_c (by omega), Nat.mod_eq_of_lt hx]
  obtain ⟨c', g, r⟩ := pc_copy M (b := 63 + 20 * x) (b2 := 1) (by omega)
  unfold f_X1_begin
  rw [e, g]
  refine ⟨⟨fun a h1 h2 => ?_, fun a h1 => ?_, rfl, fun p k hr => ?_, ?_⟩, ?_⟩
  · funext k
    exact puC_o M _ _ _ h2 k
  · exact tvU_ne _ _ _ h1
  · have hp : p < 20 := by unfold pRel at hr; omega
    rw [← r p k hr]
    exact puC_g M (63 + 20 * x) c' _ hp k
  · exact puC_l M _ _ _
  · funext k
    exact puC_o M _ _ _ (by omega) k
theorem pCommit {M : tvM} {x n : Nat} (h : M.1 61 1 = nI x) (h2 : M.1 61 2 = nI n) (hx : x < 9) (hn : n ≤ 8) : f_X1_commit M = tpi (tpi M 61 1 (nI ((x + 1) % 9))) 61 2 (nI (min (n + 1) 8)) := by
  unfold f_X1_commit
  have e1 : f_J9_floorMod_7cf53 M (tgi M 61 1 + 1) 9 = nI ((x + 1) % 9) := by
    rw [show tgi M 61 1 = nI x from h, nI_1, pn_fm M (by omega)]
  have e2 : ∀ v, tgi (tpi M 61 1 v) 61 2 = nI n := fun v => by
    exact (tpi_k M 61 v (by omega)).trans h2
  rw [e1, e2, pn_min8 _ hn]
theorem pKeep {M : tvM} {x n : Nat} (h : M.1 61 1 = nI x) (h2 : M.1 61 2 = nI n) (hx : x < 9) (hn : n ≤ 8) : pKp M (f_X1_keep M) x ∧ (f_X1_keep M).1 61 1 = nI ((x + 1) % 9) ∧ (f_X1_keep M).1 61 2 = nI (min (n + 1) 8) := by
  obtain ⟨⟨b1, b2, b3, b4, b5⟩, b6⟩ := pBegin h hx
  unfold f_X1_keep
  rw [pCommit (x := x) (n := n) (by rw [b6]; exact h) (by rw [b6]; exact h2) hx hn]
  have e : ∀ (N : tvM) v w a, a ≠ 61 → (tpi (tpi N 61 1 v) 61 2 w).1 a = N.1 a := fun N v w a ha => by
    show tvU (tvU N.1 61 1 v) 61 2 w a = _
    rw [tvU_ne _ _ _ ha, tvU_ne _ _ _ ha]
  refine ⟨⟨fun a h1 h2 => ?_, fun a h1 => b2 a h1, b3, fun p k hr => ?_, b5⟩, ?_, ?_⟩
  · rw [e _ _ _ _ h1]; exact b1 a h1 h2
  · rw [e _ _ _ _ (by omega)]; exact b4 p k hr
  · rw [tpi_k _ _ _ (by omega), tpi_s]
  · rw [tpi_s]
/-! ===== the model keeps and remembers ===== -/
theorem puN_self {M : tvM} {s : Nat → Nat} {t : Int32} (h : ∀ k, M.1 250 k = nI (s k)) (h5 : M.1 249 5 = t) : puN M s t = M := by
  refine Prod.ext ?_ rfl
  funext a k
  show (if a = 250 then nI (s k) else if a = 249 ∧ k = 5 then t else M.1 a k) = M.1 a k
  by_cases e : a = 250
  · rw [if_pos e, e, h]
  · rw [if_neg e]
    by_cases e2 : a = 249 ∧ k = 5
    · rw [if_pos e2, e2.1, e2.2, h5]
    · rw [if_neg e2]
theorem pKeeps {M : tvM} {s : Nat → Nat} (h : ∀ k, M.1 250 k = nI (s k)) : f_X9_keeps M = puN (pCp M 250 0 251 0 202) s (nI 0) := by
  unfold f_X9_keeps
  rw [show f_X9_copies M 250 0 251 0 = pCp M 250 0 251 0 202 from px_copies M (i := 0) (j := 0) (by omega) (by omega) (by omega)]
  have e : puN (pCp M 250 0 251 0 202) s (M.1 249 5) = pCp M 250 0 251 0 202 := puN_self (fun k => by
    rw [pCp_o _ (by omega)]; exact h k) (pCp_o _ (by omega))
  calc tpi (pCp M 250 0 251 0 202) 249 5 0 = tpi (puN (pCp M 250 0 251 0 202) s (M.1 249 5)) 249 5 0 := by rw [e]
    _ = _ := puN_pt _ _ _ _
def pShP (M : tvM) (i : Nat) : tvM := (fun a k => if a = 253 ∧ k < 202 * i then M.1 253 (k + 202) else M.1 a k, M.2)
theorem pShP_o (M : tvM) {i a k : Nat} (h : ¬ (a = 253 ∧ k < 202 * i)) : (pShP M i).1 a k = M.1 a k := if_neg h
theorem pShP_i (M : tvM) {i k : Nat} (h : k < 202 * i) : (pShP M i).1 253 k = M.1 253 (k + 202) := if_pos ⟨rfl, h⟩
theorem pShP_s (M : tvM) (i : Nat) : pCp (pShP M i) 253 (202 * (1 + i)) 253 (202 * i) 202 = pShP M (i + 1) := by
  refine Prod.ext ?_ rfl
  funext a k
  show (if a = 253 ∧ 202 * i ≤ k ∧ k < 202 * i + 202 then (if (253 : Nat) = 253 ∧ 202 * (1 + i) + (k - 202 * i) < 202 * i then M.1 253 (202 * (1 + i) + (k - 202 * i) + 202) else M.1 253 (202 * (1 + i) + (k - 202 * i))) else (if a = 253 ∧ k < 202 * i then M.1 253 (k + 202) else M.1 a k)) = (if a = 253 ∧ k < 202 * (i + 1) then M.1 253 (k + 202) else M.1 a k)
  by_cases h1 : a = 253 ∧ 202 * i ≤ k ∧ k < 202 * i + 202
  · rw [if_pos h1, if_neg (by omega), if_pos (by omega), show 202 * (1 + i) + (k - 202 * i) = k + 202 by omega]
  · rw [if_neg h1]
    by_cases h2 : a = 253 ∧ k < 202 * i
    · rw [if_pos h2, if_pos (by omega)]
    · rw [if_neg h2, if_neg (by omega)]
theorem pRemember {M : tvM} {n : Nat} (h4 : M.1 249 4 = nI n) (hn : n ≤ 8) : q_X9_remembers M ∧ ∃ M4 : tvM, f_X9_remembers M = M4 ∧ M4.2 = M.2 ∧ (∀ a, a ≠ 253 → a ≠ 249 → M4.1 a = M.1 a) ∧ (∀ k, k ≠ 4 → M4.1 249 k = M.1 249 k) ∧ M4.1 249 4 = nI (min (n + 1) 8) ∧ (∀ k, k < 202 → M4.1 253 (202 * (min (n + 1) 8 - 1) + k) = M.1 251 k) ∧ (∀ i k, i + 1 < min (n + 1) 8 → k < 202 → M4.1 253 (202 * i + k) = M.1 253 (202 * (if n = 8 then i + 1 else i) + k)) := by
  by_cases q : n = 8
  · subst q
    have he : e_X9_remembers M = .inl (nI (1 + 0), pShP M 0) := by
      unfold e_X9_remembers
      rw [show tgi M 249 4 = nI 8 from h4, if_pos (show nI 8 = 8 from rfl), show pShP M 0 = M from Prod.ext (funext fun a => funext fun k => pShP_o M (by omega)) rfl]
      rfl
    have e4 : ∀ i, (pShP M i).1 249 4 = nI 8 := fun i => (pShP_o M (by omega)).trans h4
    have l := pFor s_X9_remembers qs_X9_remembers (fun i => (nI (1 + i), pShP M i)) 7 (tpi (pCp (tpi (pShP M 7) 249 4 (nI 7)) 251 0 253 (202 * 7) 202) 249 4 (nI 8)) (fun i hi => by
      unfold s_X9_remembers sb_X9_remembers
      simp only []
      rw [if_neg (by rw [pl_8, pn_le (by omega) (by omega)]; omega), show (202 : Int32) = nI 202 from rfl, pn_mul, pl_1, pn_sub (by omega), pn_mul, px_copies _ (by omega) (by omega) (by omega), nI_add, show 1 + i - 1 = i by omega, pShP_s]
      rfl) (fun i hi => by
      unfold qs_X9_remembers qb_X9_remembers
      refine ⟨fun e => ?_, fun e => ?_⟩
      · simp only []
        refine ⟨⟨0, 202 * 7, rfl, ?_, by omega, by omega, by omega, by omega⟩, trivial⟩
        have : tgi (tpi (pShP M i) 249 4 (tgi (pShP M i) 249 4 - 1)) 249 4 = nI 7 := by
          refine (tpi_s _ _ _ _).trans ?_
          rw [show tgi (pShP M i) 249 4 = nI 8 from e4 i, pl_1, pn_sub (by omega)]
        rw [this, show (202 : Int32) = nI 202 from rfl, pn_mul]
      · simp only [] at e ⊢
        rw [pl_8, pn_le (by omega) (by omega)] at e
        refine ⟨⟨202 * (1 + i), 202 * i, ?_, ?_, by omega, by omega, by omega, by omega⟩, trivial⟩
        · rw [show (202 : Int32) = nI 202 from rfl, pn_mul]
        · rw [show (202 : Int32) = nI 202 from rfl, pl_1, pn_sub (by omega), pn_mul, show 1 + i - 1 = i by omega]) (by
      unfold s_X9_remembers sb_X9_remembers
      simp only []
      rw [if_pos (by rw [pl_8, pn_le (by omega) (by omega)]; omega)]
      have e5 : tgi (pShP M 7) 249 4 - 1 = nI 7 := by
        rw [show tgi (pShP M 7) 249 4 = nI 8 from e4 7, pl_1, pn_sub (by omega)]
      have e6 : ∀ v, tgi (tpi (pShP M 7) 249 4 v) 249 4 = v := fun v => tpi_s _ _ _ _
      rw [e5, e6, show (202 : Int32) = nI 202 from rfl, pn_mul, show f_X9_copies (tpi (pShP M 7) 249 4 (nI 7)) 251 0 253 (nI (202 * 7)) = pCp (tpi (pShP M 7) 249 4 (nI 7)) 251 0 253 (202 * 7) 202 from px_copies _ (i := 0) (by omega) (by omega) (by omega)]
      have e7 : tgi (pCp (tpi (pShP M 7) 249 4 (nI 7)) 251 0 253 (202 * 7) 202) 249 4 = nI 7 := (pCp_o _ (by omega)).trans (tpi_s _ _ _ _)
      rw [e7, nI_1]) 5000 (by omega)
    rw [← he] at l
    refine ⟨⟨⟨fun _ => trivial, fun e => absurd (show tgi M 249 4 = 8 from h4) e⟩, ⟨_, l.1⟩, l.2⟩, _, pGet l.1, rfl, fun a h1 h2 => ?_, fun k hk => ?_, ?_, fun k hk => ?_, fun i k hi hk => ?_⟩
    · funext k
      rw [tpi_o _ _ _ h2, pCp_o _ (by omega), tpi_o _ _ _ h2, pShP_o _ (by omega)]
    · rw [tpi_k _ _ _ hk, pCp_o _ (by omega), tpi_k _ _ _ hk, pShP_o _ (by omega)]
    · exact tpi_s _ _ _ _
    · rw [show min (8 + 1) 8 - 1 = 7 from rfl, tpi_o _ _ _ (by omega), pCp_i _ (by omega) (by omega), tpi_o _ _ _ (by omega), pShP_o _ (by omega), show 0 + (202 * 7 + k - 202 * 7) = k by omega]
    · have hi7 : i < 7 := by omega
      rw [if_pos rfl, tpi_o _ _ _ (by omega), pCp_o _ (by omega), tpi_o _ _ _ (by omega), pShP_i _ (by omega), show 202 * i + k + 202 = 202 * (i + 1) + k by omega]
  · have hm : min (n + 1) 8 = n + 1 := by omega
    have hne : ¬ nI n = 8 := by rw [pl_8, pn_eq (by omega) (by omega)]; exact q
    have hc : f_X9_copies M 251 0 253 (202 * nI n) = pCp M 251 0 253 (202 * n) 202 := by
      rw [show (202 : Int32) = nI 202 from rfl, pn_mul]
      exact px_copies M (i := 0) (by omega) (by omega) (by omega)
    have he : e_X9_remembers M = .inr (tpi (pCp M 251 0 253 (202 * n) 202) 249 4 (nI (n + 1))) := by
      unfold e_X9_remembers
      rw [show tgi M 249 4 = nI n from h4, if_neg hne, hc]
      have e7 : tgi (pCp M 251 0 253 (202 * n) 202) 249 4 = nI n := (pCp_o _ (by omega)).trans h4
      rw [e7, nI_1]
    have l : pEnd s_X9_remembers qs_X9_remembers 5000 (.inr (tpi (pCp M 251 0 253 (202 * n) 202) 249 4 (nI (n + 1)))) (tpi (pCp M 251 0 253 (202 * n) 202) 249 4 (nI (n + 1))) := pEnd_r _ _
    rw [← he] at l
    rw [hm]
    refine ⟨⟨⟨fun e => absurd e (by rw [show tgi M 249 4 = nI n from h4]; exact hne), fun _ => ⟨⟨0, 202 * n, rfl, ?_, by omega, by omega, by omega, by omega⟩, trivial⟩⟩, ⟨_, l.1⟩, l.2⟩, _, pGet l.1, rfl, fun a h1 h2 => ?_, fun k hk => ?_, ?_, fun k hk => ?_, fun i k hi hk => ?_⟩
    · rw [show tgi M 249 4 = nI n from h4, show (202 : Int32) = nI 202 from rfl, pn_mul]
    · funext k
      rw [tpi_o _ _ _ h2, pCp_o _ (by omega)]
    · rw [tpi_k _ _ _ hk, pCp_o _ (by omega)]
    · exact tpi_s _ _ _ _
    · rw [Nat.add_sub_cancel, tpi_o _ _ _ (by omega), pCp_i _ (by omega) (by omega), show 0 + (202 * n + k - 202 * n) = k by omega]
    · rw [if_neg q, tpi_o _ _ _ (by omega), pCp_o _ (by omega)]

