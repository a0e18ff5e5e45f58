/-! ===== pictures: a row of natural numbers for the model's, a block for the class's ===== -/
def pun (s : Nat → Nat) (k v : Nat) : Nat → Nat := fun j => if j = k then v else s j
theorem pun_s (s : Nat → Nat) (k v : Nat) : pun s k v k = v := by simp [pun]
theorem pun_n (s : Nat → Nat) {k j : Nat} (v : Nat) (h : j ≠ k) : pun s k v j = s j := by simp [pun, h]
/-- the memory with the model's row anew, and its word for what was thrown -/
def puN (M : tvM) (s : Nat → Nat) (t : Int32) : tvM := (fun a k => if a = 250 then nI (s k) else if a = 249 ∧ k = 5 then t else M.1 a k, M.2)
theorem puN_g (M : tvM) (s : Nat → Nat) (t : Int32) (k : Nat) : tgi (puN M s t) 250 k = nI (s k) := rfl
theorem puN_t (M : tvM) (s : Nat → Nat) (t : Int32) : tgi (puN M s t) 249 5 = t := rfl
theorem puN_o (M : tvM) (s : Nat → Nat) (t : Int32) {a k : Nat} (h : a ≠ 250) (h2 : ¬ (a = 249 ∧ k = 5)) : tgi (puN M s t) a k = tgi M a k := by
  show (if a = 250 then _ else if a = 249 ∧ k = 5 then _ else _) = _
  rw [if_neg h, if_neg h2]; rfl
theorem puN_p (M : tvM) (s : Nat → Nat) (t : Int32) (k v : Nat) : tpi (puN M s t) 250 k (nI v) = puN M (pun s k v) t := by
  refine Prod.ext ?_ rfl
  funext x j
  show (if x = 250 ∧ j = k then nI v else if x = 250 then nI (s j) else if x = 249 ∧ j = 5 then t else M.1 x j) = (if x = 250 then nI (if j = k then v else s j) else if x = 249 ∧ j = 5 then t else M.1 x j)
  by_cases h : x = 250
  · by_cases h2 : j = k <;> simp [h, h2]
  · simp [h]
theorem puN_pt (M : tvM) (s : Nat → Nat) (t v : Int32) : tpi (puN M s t) 249 5 v = puN M s v := by
  refine Prod.ext ?_ rfl
  funext x j
  show (if x = 249 ∧ j = 5 then v else if x = 250 then nI (s j) else if x = 249 ∧ j = 5 then t else M.1 x j) = (if x = 250 then nI (s j) else if x = 249 ∧ j = 5 then v else M.1 x j)
  by_cases h : x = 250
  · subst h; simp
  · by_cases h2 : x = 249 ∧ j = 5 <;> simp [h, h2]
/-- the memory with the State block b anew -/
def puC (M : tvM) (b : Nat) (c : Nat → Nat → Int32) (l : Int64) : tvM := (fun a k => if b ≤ a ∧ a < b + 20 then c (a - b) k else M.1 a k, tvU M.2.1 b 8 l, M.2.2)
theorem puC_g (M : tvM) (b : Nat) (c : Nat → Nat → Int32) (l : Int64) {p : Nat} (hp : p < 20) (k : Nat) : tgi (puC M b c l) (b + p) k = c p k := by
  show (if b ≤ b + p ∧ b + p < b + 20 then c (b + p - b) k else _) = _
  rw [if_pos (by omega), Nat.add_sub_cancel_left]
theorem puC_g0 (M : tvM) (b : Nat) (c : Nat → Nat → Int32) (l : Int64) (k : Nat) : tgi (puC M b c l) b k = c 0 k := puC_g M b c l (p := 0) (by omega) k
theorem puC_o (M : tvM) (b : Nat) (c : Nat → Nat → Int32) (l : Int64) {a : Nat} (ha : ¬ (b ≤ a ∧ a < b + 20)) (k : Nat) : tgi (puC M b c l) a k = tgi M a k := by
  show (if b ≤ a ∧ a < b + 20 then _ else _) = _
  rw [if_neg ha]; rfl
theorem puC_p (M : tvM) (b : Nat) (c : Nat → Nat → Int32) (l : Int64) {p : Nat} (hp : p < 20) (k : Nat) (v : Int32) : tpi (puC M b c l) (b + p) k v = puC M b (tvU c p k v) l := by
  refine Prod.ext ?_ rfl
  funext x j
  show (if x = b + p ∧ j = k then v else if b ≤ x ∧ x < b + 20 then c (x - b) j else M.1 x j) = (if b ≤ x ∧ x < b + 20 then (if x - b = p ∧ j = k then v else c (x - b) j) else M.1 x j)
  by_cases h : b ≤ x ∧ x < b + 20
  · rw [if_pos h, if_pos h]
    by_cases h2 : x = b + p
    · rw [show x - b = p by omega]; simp [h2]
    · rw [if_neg (fun q => h2 q.1), if_neg (fun q => h2 (by omega))]
  · rw [if_neg h, if_neg h, if_neg (fun q => h (by omega))]
theorem puC_p0 (M : tvM) (b : Nat) (c : Nat → Nat → Int32) (l : Int64) (k : Nat) (v : Int32) : tpi (puC M b c l) b k v = puC M b (tvU c 0 k v) l := puC_p M b c l (p := 0) (by omega) k v
theorem puC_l (M : tvM) (b : Nat) (c : Nat → Nat → Int32) (l : Int64) : tgl (puC M b c l) b 8 = l := by
  show tvU M.2.1 b 8 l b 8 = l
  simp [tvU]
theorem puC_pl (M : tvM) (b : Nat) (c : Nat → Nat → Int32) (l v : Int64) : tpl (puC M b c l) b 8 v = puC M b c v := by
  refine Prod.ext rfl (Prod.ext ?_ rfl)
  funext x j
  show (if x = b ∧ j = 8 then v else (if x = b ∧ j = 8 then l else M.2.1 x j)) = (if x = b ∧ j = 8 then v else M.2.1 x j)
  by_cases h : x = b ∧ j = 8 <;> simp [h]
/-- a memory is its own picture -/
theorem puC_self (M : tvM) (b : Nat) : puC M b (fun p k => M.1 (b + p) k) (M.2.1 b 8) = M := by
  refine Prod.ext ?_ (Prod.ext ?_ rfl)
  · funext x j
    show (if b ≤ x ∧ x < b + 20 then M.1 (b + (x - b)) j else M.1 x j) = M.1 x j
    split
    · rename_i h
      rw [show b + (x - b) = x by omega]
    · rfl
  · funext x j
    show (if x = b ∧ j = 8 then M.2.1 b 8 else M.2.1 x j) = M.2.1 x j
    split
    · rename_i h
      rw [h.1, h.2]
    · rfl
theorem pcu_s (c : Nat → Nat → Int32) (p k : Nat) (v : Int32) : tvU c p k v p k = v := by simp [tvU]
theorem pcu_r (c : Nat → Nat → Int32) {p q : Nat} (k j : Nat) (v : Int32) (h : q ≠ p) : tvU c p k v q j = c q j := by simp [tvU, h]
theorem pcu_k (c : Nat → Nat → Int32) (p : Nat) {k j : Nat} (v : Int32) (h : j ≠ k) : tvU c p k v p j = c p j := by simp [tvU, h]
theorem puC_g1 (M : tvM) (b : Nat) (c : Nat → Nat → Int32) (l : Int64) (k : Nat) : tgi (puC M b c l) (b + 1) k = c 1 k := puC_g M b c l (p := 1) (by omega) k
theorem puC_p1 (M : tvM) (b : Nat) (c : Nat → Nat → Int32) (l : Int64) (k : Nat) (v : Int32) : tpi (puC M b c l) (b + 1) k v = puC M b (tvU c 1 k v) l := puC_p M b c l (p := 1) (by omega) k v
theorem puC_g2 (M : tvM) (b : Nat) (c : Nat → Nat → Int32) (l : Int64) (k : Nat) : tgi (puC M b c l) (b + 2) k = c 2 k := puC_g M b c l (p := 2) (by omega) k
theorem puC_p2 (M : tvM) (b : Nat) (c : Nat → Nat → Int32) (l : Int64) (k : Nat) (v : Int32) : tpi (puC M b c l) (b + 2) k v = puC M b (tvU c 2 k v) l := puC_p M b c l (p := 2) (by omega) k v
theorem puC_g3 (M : tvM) (b : Nat) (c : Nat → Nat → Int32) (l : Int64) (k : Nat) : tgi (puC M b c l) (b + 3) k = c 3 k := puC_g M b c l (p := 3) (by omega) k
theorem puC_p3 (M : tvM) (b : Nat) (c : Nat → Nat → Int32) (l : Int64) (k : Nat) (v : Int32) : tpi (puC M b c l) (b + 3) k v = puC M b (tvU c 3 k v) l := puC_p M b c l (p := 3) (by omega) k v
theorem puC_g4 (M : tvM) (b : Nat) (c : Nat → Nat → Int32) (l : Int64) (k : Nat) : tgi (puC M b c l) (b + 4) k = c 4 k := puC_g M b c l (p := 4) (by omega) k
theorem puC_p4 (M : tvM) (b : Nat) (c : Nat → Nat → Int32) (l : Int64) (k : Nat) (v : Int32) : tpi (puC M b c l) (b + 4) k v = puC M b (tvU c 4 k v) l := puC_p M b c l (p := 4) (by omega) k v
theorem puC_g5 (M : tvM) (b : Nat) (c : Nat → Nat → Int32) (l : Int64) (k : Nat) : tgi (puC M b c l) (b + 5) k = c 5 k := puC_g M b c l (p := 5) (by omega) k
theorem puC_p5 (M : tvM) (b : Nat) (c : Nat → Nat → Int32) (l : Int64) (k : Nat) (v : Int32) : tpi (puC M b c l) (b + 5) k v = puC M b (tvU c 5 k v) l := puC_p M b c l (p := 5) (by omega) k v
theorem puC_g6 (M : tvM) (b : Nat) (c : Nat → Nat → Int32) (l : Int64) (k : Nat) : tgi (puC M b c l) (b + 6) k = c 6 k := puC_g M b c l (p := 6) (by omega) k
theorem puC_p6 (M : tvM) (b : Nat) (c : Nat → Nat → Int32) (l : Int64) (k : Nat) (v : Int32) : tpi (puC M b c l) (b + 6) k v = puC M b (tvU c 6 k v) l := puC_p M b c l (p := 6) (by omega) k v
theorem puC_g7 (M : tvM) (b : Nat) (c : Nat → Nat → Int32) (l : Int64) (k : Nat) : tgi (puC M b c l) (b + 7) k = c 7 k := puC_g M b c l (p := 7) (by omega) k
theorem puC_p7 (M : tvM) (b : Nat) (c : Nat → Nat → Int32) (l : Int64) (k : Nat) (v : Int32) : tpi (puC M b c l) (b + 7) k v = puC M b (tvU c 7 k v) l := puC_p M b c l (p := 7) (by omega) k v
theorem puC_g8 (M : tvM) (b : Nat) (c : Nat → Nat → Int32) (l : Int64) (k : Nat) : tgi (puC M b c l) (b + 8) k = c 8 k := puC_g M b c l (p := 8) (by omega) k
theorem puC_p8 (M : tvM) (b : Nat) (c : Nat → Nat → Int32) (l : Int64) (k : Nat) (v : Int32) : tpi (puC M b c l) (b + 8) k v = puC M b (tvU c 8 k v) l := puC_p M b c l (p := 8) (by omega) k v
theorem puC_g9 (M : tvM) (b : Nat) (c : Nat → Nat → Int32) (l : Int64) (k : Nat) : tgi (puC M b c l) (b + 9) k = c 9 k := puC_g M b c l (p := 9) (by omega) k
theorem puC_p9 (M : tvM) (b : Nat) (c : Nat → Nat → Int32) (l : Int64) (k : Nat) (v : Int32) : tpi (puC M b c l) (b + 9) k v = puC M b (tvU c 9 k v) l := puC_p M b c l (p := 9) (by omega) k v
theorem puC_g10 (M : tvM) (b : Nat) (c : Nat → Nat → Int32) (l : Int64) (k : Nat) : tgi (puC M b c l) (b + 10) k = c 10 k := puC_g M b c l (p := 10) (by omega) k
theorem puC_p10 (M : tvM) (b : Nat) (c : Nat → Nat → Int32) (l : Int64) (k : Nat) (v : Int32) : tpi (puC M b c l) (b + 10) k v = puC M b (tvU c 10 k v) l := puC_p M b c l (p := 10) (by omega) k v
theorem puC_g11 (M : tvM) (b : Nat) (c : Nat → Nat → Int32) (l : Int64) (k : Nat) : tgi (puC M b c l) (b + 11) k = c 11 k := puC_g M b c l (p := 11) (by omega) k
theorem puC_p11 (M : tvM) (b : Nat) (c : Nat → Nat → Int32) (l : Int64) (k : Nat) (v : Int32) : tpi (puC M b c l) (b + 11) k v = puC M b (tvU c 11 k v) l := puC_p M b c l (p := 11) (by omega) k v
theorem puC_g12 (M : tvM) (b : Nat) (c : Nat → Nat → Int32) (l : Int64) (k : Nat) : tgi (puC M b c l) (b + 12) k = c 12 k := puC_g M b c l (p := 12) (by omega) k
theorem puC_p12 (M : tvM) (b : Nat) (c : Nat → Nat → Int32) (l : Int64) (k : Nat) (v : Int32) : tpi (puC M b c l) (b + 12) k v = puC M b (tvU c 12 k v) l := puC_p M b c l (p := 12) (by omega) k v
theorem puC_g13 (M : tvM) (b : Nat) (c : Nat → Nat → Int32) (l : Int64) (k : Nat) : tgi (puC M b c l) (b + 13) k = c 13 k := puC_g M b c l (p := 13) (by omega) k
theorem puC_p13 (M : tvM) (b : Nat) (c : Nat → Nat → Int32) (l : Int64) (k : Nat) (v : Int32) : tpi (puC M b c l) (b + 13) k v = puC M b (tvU c 13 k v) l := puC_p M b c l (p := 13) (by omega) k v
theorem puC_g14 (M : tvM) (b : Nat) (c : Nat → Nat → Int32) (l : Int64) (k : Nat) : tgi (puC M b c l) (b + 14) k = c 14 k := puC_g M b c l (p := 14) (by omega) k
theorem puC_p14 (M : tvM) (b : Nat) (c : Nat → Nat → Int32) (l : Int64) (k : Nat) (v : Int32) : tpi (puC M b c l) (b + 14) k v = puC M b (tvU c 14 k v) l := puC_p M b c l (p := 14) (by omega) k v
theorem puC_g15 (M : tvM) (b : Nat) (c : Nat → Nat → Int32) (l : Int64) (k : Nat) : tgi (puC M b c l) (b + 15) k = c 15 k := puC_g M b c l (p := 15) (by omega) k
theorem puC_p15 (M : tvM) (b : Nat) (c : Nat → Nat → Int32) (l : Int64) (k : Nat) (v : Int32) : tpi (puC M b c l) (b + 15) k v = puC M b (tvU c 15 k v) l := puC_p M b c l (p := 15) (by omega) k v
theorem puC_g16 (M : tvM) (b : Nat) (c : Nat → Nat → Int32) (l : Int64) (k : Nat) : tgi (puC M b c l) (b + 16) k = c 16 k := puC_g M b c l (p := 16) (by omega) k
theorem puC_p16 (M : tvM) (b : Nat) (c : Nat → Nat → Int32) (l : Int64) (k : Nat) (v : Int32) : tpi (puC M b c l) (b + 16) k v = puC M b (tvU c 16 k v) l := puC_p M b c l (p := 16) (by omega) k v
theorem puC_g17 (M : tvM) (b : Nat) (c : Nat → Nat → Int32) (l : Int64) (k : Nat) : tgi (puC M b c l) (b + 17) k = c 17 k := puC_g M b c l (p := 17) (by omega) k
theorem puC_p17 (M : tvM) (b : Nat) (c : Nat → Nat → Int32) (l : Int64) (k : Nat) (v : Int32) : tpi (puC M b c l) (b + 17) k v = puC M b (tvU c 17 k v) l := puC_p M b c l (p := 17) (by omega) k v
theorem puC_g18 (M : tvM) (b : Nat) (c : Nat → Nat → Int32) (l : Int64) (k : Nat) : tgi (puC M b c l) (b + 18) k = c 18 k := puC_g M b c l (p := 18) (by omega) k
theorem puC_p18 (M : tvM) (b : Nat) (c : Nat → Nat → Int32) (l : Int64) (k : Nat) (v : Int32) : tpi (puC M b c l) (b + 18) k v = puC M b (tvU c 18 k v) l := puC_p M b c l (p := 18) (by omega) k v
theorem puC_g19 (M : tvM) (b : Nat) (c : Nat → Nat → Int32) (l : Int64) (k : Nat) : tgi (puC M b c l) (b + 19) k = c 19 k := puC_g M b c l (p := 19) (by omega) k
theorem puC_p19 (M : tvM) (b : Nat) (c : Nat → Nat → Int32) (l : Int64) (k : Nat) (v : Int32) : tpi (puC M b c l) (b + 19) k v = puC M b (tvU c 19 k v) l := puC_p M b c l (p := 19) (by omega) k v
/-! numbers -/
theorem pn_c {n : Nat} (h : n < 2147483648) : (nI n).toNatClampNeg = n := nI_clamp h
theorem pn_le {a b : Nat} (ha : a < 2147483648) (hb : b < 2147483648) : nI a ≤ nI b ↔ a ≤ b := nI_leI ha hb
theorem pn_lt {a b : Nat} (ha : a < 2147483648) (hb : b < 2147483648) : nI a < nI b ↔ a < b := nI_ltI ha hb
theorem pn_eq {a b : Nat} (ha : a < 2147483648) (hb : b < 2147483648) : nI a = nI b ↔ a = b := nI_eq ha hb
theorem pn_sub {a b : Nat} (h : b ≤ a) : nI a - nI b = nI (a - b) := by
  obtain ⟨d, rfl⟩ := Nat.exists_eq_add_of_le h
  rw [Nat.add_sub_cancel_left, Nat.add_comm, ← nI_add]
  exact Int32.add_sub_cancel _ _
theorem pn_mul (a b : Nat) : nI a * nI b = nI (a * b) := pk_mul a b
theorem pn_of (x : Int32) (h : 0 ≤ x) : ∃ n : Nat, n < 2147483648 ∧ x = nI n := nI_of (by
  intro q
  rw [Int32.le_iff_toInt_le] at h
  rw [Int32.lt_iff_toInt_lt] at q
  omega)
theorem pn_div {a b : Nat} (ha : a < 2147483648) (h0 : 0 < b) (hb : b < 2147483648) : nI a / nI b = nI (a / b) := pk_div ha h0 hb
theorem pn_rem {a b : Nat} (ha : a < 2147483648) (h0 : 0 < b) (hb : b < 2147483648) : nI a - nI a / nI b * nI b = nI (a % b) := by
  have h := Nat.div_add_mod a b
  rw [pn_div ha h0 hb, pn_mul, pn_sub (by rw [Nat.mul_comm]; exact Nat.mul_div_le a b)]
  congr 1
  rw [Nat.mul_comm] at h
  omega
theorem pn_l {n : Nat} (h : n < 2147483648) : (nI n).toInt64 = lN n := nI_l h
theorem pn_neg {a : Nat} (h : a < 2147483648) : ¬ nI a < 0 := nI_pos h
theorem pn_nneg {x : Int32} (h : ¬ x < 0) : ∃ j : Nat, j < 2147483648 ∧ x = nI j := nI_of h
theorem pl_0 : (0 : Int32) = nI 0 := rfl
theorem pl_1 : (1 : Int32) = nI 1 := rfl
theorem pl_2 : (2 : Int32) = nI 2 := rfl
theorem pl_3 : (3 : Int32) = nI 3 := rfl
theorem pl_4 : (4 : Int32) = nI 4 := rfl
theorem pl_5 : (5 : Int32) = nI 5 := rfl
theorem pl_6 : (6 : Int32) = nI 6 := rfl
theorem pl_7 : (7 : Int32) = nI 7 := rfl
theorem pl_8 : (8 : Int32) = nI 8 := rfl
theorem pl_9 : (9 : Int32) = nI 9 := rfl
theorem pl_10 : (10 : Int32) = nI 10 := rfl
theorem pl_11 : (11 : Int32) = nI 11 := rfl
theorem pl_12 : (12 : Int32) = nI 12 := rfl
theorem pl_13 : (13 : Int32) = nI 13 := rfl
theorem pl_25 : (25 : Int32) = nI 25 := rfl
theorem pl_26 : (26 : Int32) = nI 26 := rfl
theorem pl_30 : (30 : Int32) = nI 30 := rfl
theorem pl_36 : (36 : Int32) = nI 36 := rfl
theorem pl_50 : (50 : Int32) = nI 50 := rfl
theorem pl_60 : (60 : Int32) = nI 60 := rfl
theorem pl_98 : (98 : Int32) = nI 98 := rfl
theorem pl_99 : (99 : Int32) = nI 99 := rfl
theorem pl_100 : (100 : Int32) = nI 100 := rfl
theorem pl_101 : (101 : Int32) = nI 101 := rfl
theorem pl_102 : (102 : Int32) = nI 102 := rfl
theorem pl_104 : (104 : Int32) = nI 104 := rfl
theorem pl_105 : (105 : Int32) = nI 105 := rfl
theorem pl_108 : (108 : Int32) = nI 108 := rfl
theorem pl_111 : (111 : Int32) = nI 111 := rfl
theorem pl_112 : (112 : Int32) = nI 112 := rfl
theorem pl_116 : (116 : Int32) = nI 116 := rfl
theorem pl_119 : (119 : Int32) = nI 119 := rfl
theorem pl_166 : (166 : Int32) = nI 166 := rfl
theorem pl_199 : (199 : Int32) = nI 199 := rfl
theorem pl_202 : (202 : Int32) = nI 202 := rfl
theorem pl_239 : (239 : Int32) = nI 239 := rfl
theorem pl_240 : (240 : Int32) = nI 240 := rfl
theorem pl_480 : (480 : Int32) = nI 480 := rfl
theorem pl_999 : (999 : Int32) = nI 999 := rfl
theorem pl_1000 : (1000 : Int32) = nI 1000 := rfl
