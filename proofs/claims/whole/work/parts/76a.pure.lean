theorem puN_x (M : tvM) (s : Nat → Nat) (t : Int32) {a k : Nat} (v : Int32) (h : a ≠ 250) (h2 : ¬ (a = 249 ∧ k = 5)) : tpi (puN M s t) a k v = puN (tpi M a k v) s t := by
  refine Prod.ext (funext fun y => funext fun j => ?_) rfl
  show (if y = a ∧ j = k then v else (if y = 250 then nI (s j) else if y = 249 ∧ j = 5 then t else M.1 y j)) = (if y = 250 then nI (s j) else if y = 249 ∧ j = 5 then t else (if y = a ∧ j = k then v else M.1 y j))
  by_cases q : y = a ∧ j = k
  · rw [if_pos q, if_neg (by omega), if_neg (by omega), if_pos q]
  · rw [if_neg q, if_neg q]
theorem puC_x (M : tvM) (b : Nat) (c : Nat → Nat → Int32) (l : Int64) {a k : Nat} (v : Int32) (h : ¬ (b ≤ a ∧ a < b + 20)) : tpi (puC M b c l) a k v = puC (tpi M a k v) b c l := by
  refine Prod.ext (funext fun y => funext fun j => ?_) rfl
  show (if y = a ∧ j = k then v else (if b ≤ y ∧ y < b + 20 then c (y - b) j else M.1 y j)) = (if b ≤ y ∧ y < b + 20 then c (y - b) j else (if y = a ∧ j = k then v else M.1 y j))
  by_cases q : y = a ∧ j = k
  · rw [if_pos q, if_neg (by omega), if_pos q]
  · rw [if_neg q, if_neg q]
theorem puC_puC (M : tvM) (b : Nat) (c c2 : Nat → Nat → Int32) (l l2 : Int64) : puC (puC M b c l) b c2 l2 = puC M b c2 l2 := by
  refine Prod.ext (funext fun y => funext fun j => ?_) (Prod.ext (funext fun y => funext fun j => ?_) rfl)
  · show (if b ≤ y ∧ y < b + 20 then c2 (y - b) j else (if b ≤ y ∧ y < b + 20 then c (y - b) j else M.1 y j)) = (if b ≤ y ∧ y < b + 20 then c2 (y - b) j else M.1 y j)
    by_cases q : b ≤ y ∧ y < b + 20
    · rw [if_pos q, if_pos q]
    · rw [if_neg q, if_neg q, if_neg q]
  · show (if y = b ∧ j = 8 then l2 else (if y = b ∧ j = 8 then l else M.2.1 y j)) = (if y = b ∧ j = 8 then l2 else M.2.1 y j)
    by_cases q : y = b ∧ j = 8
    · rw [if_pos q, if_pos q]
    · rw [if_neg q, if_neg q, if_neg q]
theorem pVerb (M : tvM) {i : Nat} (hi : i < 60) : f_X5_verbOf M (nI i) = M.1 245 i := by
  have h1 : ¬ nI i < 0 := pn_neg (by omega)
  have h2 : ¬ (60 : Int32) ≤ nI i := by
    rw [show (60 : Int32) = nI 60 from rfl, pn_le (by omega) (by omega)]
    omega
  unfold f_X5_verbOf
  rw [if_neg h1, if_neg h2, pn_c (by omega)]
  rfl
theorem pArg (M : tvM) {i j : Nat} (hi : i < 60) (hj : j < 3) : f_X5_argumentOf M (nI i) (nI j) = M.1 246 (3 * i + j) := by
  have h1 : ¬ nI i < 0 := pn_neg (by omega)
  have h2 : ¬ (60 : Int32) ≤ nI i := by
    rw [show (60 : Int32) = nI 60 from rfl, pn_le (by omega) (by omega)]
    omega
  have h3 : ¬ nI j < 0 := pn_neg (by omega)
  have h4 : ¬ (3 : Int32) ≤ nI j := by
    rw [show (3 : Int32) = nI 3 from rfl, pn_le (by omega) (by omega)]
    omega
  have h5 : (nI i * 3 + nI j).toNatClampNeg = 3 * i + j := by
    rw [show (3 : Int32) = nI 3 from rfl, pn_mul, nI_add, pn_c (by omega), Nat.mul_comm]
  unfold f_X5_argumentOf
  rw [if_neg h1, if_neg h2, if_neg h3, if_neg h4, h5]
  rfl
/-- the model's memory after a refused command of a program -/
def pRuX (N : tvM) (s' : Nat → Nat) (k i : Nat) : tvM := tpi (tpi (tpi (pCp (puN N s' (nI k)) 251 0 250 0 202) 249 7 (nI i)) 249 10 (if k = 4 then 1 else 0)) 249 5 2
theorem pRs_done {N : tvM} {s s' : Nat → Nat} {i m w : Nat} {y : Int32} (hi : i < m) (hm : m ≤ 30) (hN : N.1 249 17 = nI m) (hq : q_X9_does (puN N s (nI 0)) (nI (4 * i))) (hd : f_X9_does (puN N s (nI 0)) (nI (4 * i)) = (nI w, puN N s' (nI 0))) : s_X9_run (y, nI i, puN N s (nI 0)) = .inl (y, nI (i + 1), puN (tpi N 249 8 (nI w)) s' (nI 0)) ∧ qs_X9_run (y, nI i, puN N s (nI 0)) := by
  have e4 : (4 : Int32) * nI i = nI (4 * i) := by rw [show (4 : Int32) = nI 4 from rfl, pn_mul]
  have e5 : tpi (puN N s (nI 0)) 249 5 0 = puN N s (nI 0) := pn_1 _ _ _
  have hl : ¬ tgi (puN N s (nI 0)) 249 17 ≤ nI i := by
    rw [puN_o _ _ _ (by omega) (by omega), show tgi N 249 17 = nI m from hN, pn_le (by omega) (by omega)]
    omega
  constructor
  · show sb_X9_run y (nI i) (puN N s (nI 0)) = _
    unfold sb_X9_run
    rw [e5, e4, hd]
    dsimp only
    rw [if_neg hl, puN_x N s' (nI 0) (nI w) (by omega) (by omega), if_pos (show tgi (puN (tpi N 249 8 (nI w)) s' (nI 0)) 249 5 = 0 from puN_t _ _ _), nI_1]
  · show qb_X9_run y (nI i) (puN N s (nI 0))
    unfold qb_X9_run
    rw [e5, e4]
    exact ⟨fun h => absurd h hl, fun _ => ⟨hq, fun _ => trivial, fun _ => ⟨fun _ => trivial, fun _ => trivial⟩⟩⟩
theorem pRs_ref {N : tvM} {s s' : Nat → Nat} {i m k : Nat} {y : Int32} (hi : i < m) (hm : m ≤ 30) (hk1 : 1 ≤ k) (hk4 : k ≤ 4) (hN : N.1 249 17 = nI m) (hq : q_X9_does (puN N s (nI 0)) (nI (4 * i))) (hd : f_X9_does (puN N s (nI 0)) (nI (4 * i)) = (nI 0, puN N s' (nI k))) : s_X9_run (y, nI i, puN N s (nI 0)) = .inr (0, pRuX (tpi N 249 8 (nI 0)) s' k i) ∧ qs_X9_run (y, nI i, puN N s (nI 0)) := by
  have e4 : (4 : Int32) * nI i = nI (4 * i) := by rw [show (4 : Int32) = nI 4 from rfl, pn_mul]
  have e5 : tpi (puN N s (nI 0)) 249 5 0 = puN N s (nI 0) := pn_1 _ _ _
  have hl : ¬ tgi (puN N s (nI 0)) 249 17 ≤ nI i := by
    rw [puN_o _ _ _ (by omega) (by omega), show tgi N 249 17 = nI m from hN, pn_le (by omega) (by omega)]
    omega
  constructor
  · have ex : tpi (puN N s' (nI k)) 249 8 (nI 0) = puN (tpi N 249 8 (nI 0)) s' (nI k) := puN_x N s' (nI k) (nI 0) (by omega) (by omega)
    have ec : f_X9_copies (puN (tpi N 249 8 (nI 0)) s' (nI k)) 251 0 250 0 = pCp (puN (tpi N 249 8 (nI 0)) s' (nI k)) 251 0 250 0 202 := px_copies _ (i := 0) (j := 0) (by omega) (by omega) (by omega)
    have t1 : ¬ tgi (puN (tpi N 249 8 (nI 0)) s' (nI k)) 249 5 = 0 := by
      rw [puN_t, pl_0, pn_eq (by omega) (by omega)]
      omega
    have t2 : tgi (tpi (pCp (puN (tpi N 249 8 (nI 0)) s' (nI k)) 251 0 250 0 202) 249 7 (nI i)) 249 5 = nI k := by
      refine (tpi_k _ _ _ (by omega)).trans ((pCp_o _ (by omega)).trans ?_)
      exact puN_t _ _ _
    show sb_X9_run y (nI i) (puN N s (nI 0)) = _
    unfold sb_X9_run
    rw [e5, e4, hd]
    dsimp only
    rw [ex, if_neg hl, if_neg t1, ec, t2]
    unfold pRuX
    by_cases q : k = 4
    · subst q
      rw [if_pos (show nI 4 = 4 from rfl), if_pos rfl]
    · rw [if_neg (show ¬ nI k = 4 from fun e => q ((pn_eq (by omega) (by omega)).1 (e.trans (show (4 : Int32) = nI 4 from rfl)))), if_neg q]
  · show qb_X9_run y (nI i) (puN N s (nI 0))
    unfold qb_X9_run
    rw [e5, e4]
    exact ⟨fun h => absurd h hl, fun _ => ⟨hq, fun _ => trivial, fun _ => ⟨fun _ => trivial, fun _ => trivial⟩⟩⟩

