/-! ===== the memory behind the constructors ===== -/
def tvZ : tvM := (fun _ _ => 0, fun _ _ => 0, fun _ _ => 0)
theorem tvMz_Z (n : Nat) : tvMz tvZ n = tvZ := by
  refine Prod.ext (funext fun x => ?_) (Prod.ext (funext fun x => ?_) (funext fun x => ?_))
  · show (if x = n then (fun _ => (0 : Int32)) else fun _ => 0) = fun _ => 0
    split <;> rfl
  · show (if x = n then (fun _ => (0 : Int64)) else fun _ => 0) = fun _ => 0
    split <;> rfl
  · show (if x = n then (fun _ => (0 : UInt64)) else fun _ => 0) = fun _ => 0
    split <;> rfl
theorem tvMz_t (M : tvM) {a n : Nat} (k : Nat) (v : Int32) (h : a ≠ n) : tvMz (tpi M a k v) n = tpi (tvMz M n) a k v := by
  refine Prod.ext (funext fun x => funext fun j => ?_) rfl
  show (if x = n then (fun _ => (0 : Int32)) else fun j => if x = a ∧ j = k then v else M.1 x j) j = (if x = a ∧ j = k then v else (if x = n then (fun _ => (0 : Int32)) else M.1 x) j)
  by_cases q : x = n
  · rw [if_pos q, if_neg (fun z => h (z.1.symm.trans q)), if_pos q]
  · rw [if_neg q, if_neg q]
def tvM1 : tvM := tvMz (tvMz (i_X9_init_m (tvMz (i_X8_init_m (tvMz tvZ 0)) 249)) 257) 258
def tvR1 : tvR := tvRz (tvRz (i_X9_init_r (tvRz (i_X8_init_r (tvRz (fun _ _ => none) 0)) 249)) 257) 258
set_option maxRecDepth 50000 in
set_option maxHeartbeats 4000000 in
theorem tvM1_eq : tvM1 = (tpi (tpi (tpi (tpi (tpi (tpi (tpi (tpi (tpi (tpi (tpi (tpi (tpi (tpi (tpi (tpi (tpi (tpi (tpi (tpi (tpi (tpi (tpi (tpi (tpi (tpi (tpi (tpi (tpi (tpi tvZ (1 + 1) 0 240) (1 + 1) 1 60) (21 + 1) 0 240) (21 + 1) 1 60) (41 + 1) 0 240) (41 + 1) 1 60) (63 + 1) 0 240) (63 + 1) 1 60) (83 + 1) 0 240) (83 + 1) 1 60) (103 + 1) 0 240) (103 + 1) 1 60) (123 + 1) 0 240) (123 + 1) 1 60) (143 + 1) 0 240) (143 + 1) 1 60) (163 + 1) 0 240) (163 + 1) 1 60) (183 + 1) 0 240) (183 + 1) 1 60) (203 + 1) 0 240) (203 + 1) 1 60) (223 + 1) 0 240) (223 + 1) 1 60) 0 7 (-1)) 0 8 (-1)) 249 6 (-1)) 249 7 (-1)) 250 1 240) 250 2 60) := by
  unfold tvM1
  simp (disch := decide) only [i_X9_init_m, i_X8_init_m, i_X1_init_m, i_X6_init_m, i_X7_init_m, i_X0_init_m, i_X2_init_m, i_X3_init_m, i_X4_init_m, i_X5_init_m, tvMz_t, tvMz_Z]
theorem tvM1_0 {a : Nat} (h0 : a ≠ 0) (h1 : a ≠ 249) (h2 : a ≠ 250) (h3 : a ≠ 1 + 1 ∧ a ≠ 21 + 1 ∧ a ≠ 41 + 1 ∧ a ≠ 63 + 1 ∧ a ≠ 83 + 1 ∧ a ≠ 103 + 1 ∧ a ≠ 123 + 1 ∧ a ≠ 143 + 1 ∧ a ≠ 163 + 1 ∧ a ≠ 183 + 1 ∧ a ≠ 203 + 1 ∧ a ≠ 223 + 1) (j : Nat) : tvM1.1 a j = 0 := by
  rw [tvM1_eq, tpi_o _ _ _ (by omega), tpi_o _ _ _ (by omega), tpi_o _ _ _ (by omega), tpi_o _ _ _ (by omega), tpi_o _ _ _ (by omega), tpi_o _ _ _ (by omega), tpi_o _ _ _ (by omega), tpi_o _ _ _ (by omega), tpi_o _ _ _ (by omega), tpi_o _ _ _ (by omega), tpi_o _ _ _ (by omega), tpi_o _ _ _ (by omega), tpi_o _ _ _ (by omega), tpi_o _ _ _ (by omega), tpi_o _ _ _ (by omega), tpi_o _ _ _ (by omega), tpi_o _ _ _ (by omega), tpi_o _ _ _ (by omega), tpi_o _ _ _ (by omega), tpi_o _ _ _ (by omega), tpi_o _ _ _ (by omega), tpi_o _ _ _ (by omega), tpi_o _ _ _ (by omega), tpi_o _ _ _ (by omega), tpi_o _ _ _ (by omega), tpi_o _ _ _ (by omega), tpi_o _ _ _ (by omega), tpi_o _ _ _ (by omega), tpi_o _ _ _ (by omega), tpi_o _ _ _ (by omega)]
  rfl
theorem tvM1_b (k : Nat) : tvM1.1 2 k = if k = 1 then 60 else if k = 0 then 240 else 0 := by
  rw [tvM1_eq, tpi_o _ _ _ (by decide), tpi_o _ _ _ (by decide), tpi_o _ _ _ (by decide), tpi_o _ _ _ (by decide), tpi_o _ _ _ (by decide), tpi_o _ _ _ (by decide), tpi_o _ _ _ (by decide), tpi_o _ _ _ (by decide), tpi_o _ _ _ (by decide), tpi_o _ _ _ (by decide), tpi_o _ _ _ (by decide), tpi_o _ _ _ (by decide), tpi_o _ _ _ (by decide), tpi_o _ _ _ (by decide), tpi_o _ _ _ (by decide), tpi_o _ _ _ (by decide), tpi_o _ _ _ (by decide), tpi_o _ _ _ (by decide), tpi_o _ _ _ (by decide), tpi_o _ _ _ (by decide), tpi_o _ _ _ (by decide), tpi_o _ _ _ (by decide), tpi_o _ _ _ (by decide), tpi_o _ _ _ (by decide), tpi_o _ _ _ (by decide), tpi_o _ _ _ (by decide), tpi_o _ _ _ (by decide), tpi_o _ _ _ (by decide)]
  by_cases q : k = 1
  · rw [q]; rfl
  · rw [if_neg q, tpi_k _ _ _ q]
    by_cases q0 : k = 0
    · rw [q0]; rfl
    · rw [if_neg q0, tpi_k _ _ _ q0]; rfl
theorem tvM1_v {k : Nat} (h : k ≠ 7) (h2 : k ≠ 8) : tvM1.1 0 k = 0 := by
  rw [tvM1_eq, tpi_o _ _ _ (by decide), tpi_o _ _ _ (by decide), tpi_o _ _ _ (by decide), tpi_o _ _ _ (by decide), tpi_k _ _ _ h2, tpi_k _ _ _ h, tpi_o _ _ _ (by decide), tpi_o _ _ _ (by decide), tpi_o _ _ _ (by decide), tpi_o _ _ _ (by decide), tpi_o _ _ _ (by decide), tpi_o _ _ _ (by decide), tpi_o _ _ _ (by decide), tpi_o _ _ _ (by decide), tpi_o _ _ _ (by decide), tpi_o _ _ _ (by decide), tpi_o _ _ _ (by decide), tpi_o _ _ _ (by decide), tpi_o _ _ _ (by decide), tpi_o _ _ _ (by decide), tpi_o _ _ _ (by decide), tpi_o _ _ _ (by decide), tpi_o _ _ _ (by decide), tpi_o _ _ _ (by decide), tpi_o _ _ _ (by decide), tpi_o _ _ _ (by decide), tpi_o _ _ _ (by decide), tpi_o _ _ _ (by decide), tpi_o _ _ _ (by decide), tpi_o _ _ _ (by decide)]
  rfl
theorem tvM1_v7 : tvM1.1 0 7 = -1 := by
  rw [tvM1_eq, tpi_o _ _ _ (by decide), tpi_o _ _ _ (by decide), tpi_o _ _ _ (by decide), tpi_o _ _ _ (by decide), tpi_k _ _ _ (by decide)]
  exact tpi_s _ _ _ _
theorem tvM1_v8 : tvM1.1 0 8 = -1 := by
  rw [tvM1_eq, tpi_o _ _ _ (by decide), tpi_o _ _ _ (by decide), tpi_o _ _ _ (by decide), tpi_o _ _ _ (by decide)]
  exact tpi_s _ _ _ _
theorem tvM1_m {k : Nat} (h : k ≠ 6) (h2 : k ≠ 7) : tvM1.1 249 k = 0 := by
  rw [tvM1_eq, tpi_o _ _ _ (by decide), tpi_o _ _ _ (by decide), tpi_k _ _ _ h2, tpi_k _ _ _ h, tpi_o _ _ _ (by decide), tpi_o _ _ _ (by decide), tpi_o _ _ _ (by decide), tpi_o _ _ _ (by decide), tpi_o _ _ _ (by decide), tpi_o _ _ _ (by decide), tpi_o _ _ _ (by decide), tpi_o _ _ _ (by decide), tpi_o _ _ _ (by decide), tpi_o _ _ _ (by decide), tpi_o _ _ _ (by decide), tpi_o _ _ _ (by decide), tpi_o _ _ _ (by decide), tpi_o _ _ _ (by decide), tpi_o _ _ _ (by decide), tpi_o _ _ _ (by decide), tpi_o _ _ _ (by decide), tpi_o _ _ _ (by decide), tpi_o _ _ _ (by decide), tpi_o _ _ _ (by decide), tpi_o _ _ _ (by decide), tpi_o _ _ _ (by decide), tpi_o _ _ _ (by decide), tpi_o _ _ _ (by decide), tpi_o _ _ _ (by decide), tpi_o _ _ _ (by decide)]
  rfl
theorem tvM1_m6 : tvM1.1 249 6 = -1 := by
  rw [tvM1_eq, tpi_o _ _ _ (by decide), tpi_o _ _ _ (by decide), tpi_k _ _ _ (by decide)]
  exact tpi_s _ _ _ _
theorem tvM1_m7 : tvM1.1 249 7 = -1 := by
  rw [tvM1_eq, tpi_o _ _ _ (by decide), tpi_o _ _ _ (by decide)]
  exact tpi_s _ _ _ _
def tvS0 (k : Nat) : Nat := if k = 1 then 240 else if k = 2 then 60 else 0
theorem tvS0_0 {k : Nat} (h : k ≠ 1) (h2 : k ≠ 2) : tvS0 k = 0 := by unfold tvS0; rw [if_neg h, if_neg h2]
theorem tvM1_s (k : Nat) : tvM1.1 250 k = nI (tvS0 k) := by
  rw [tvM1_eq]
  by_cases q : k = 2
  · rw [q]; rfl
  · rw [tpi_k _ _ _ q]
    by_cases q1 : k = 1
    · rw [q1]; rfl
    · rw [tpi_k _ _ _ q1, tvS0_0 q1 q, tpi_o _ _ _ (by decide), tpi_o _ _ _ (by decide), tpi_o _ _ _ (by decide), tpi_o _ _ _ (by decide), tpi_o _ _ _ (by decide), tpi_o _ _ _ (by decide), tpi_o _ _ _ (by decide), tpi_o _ _ _ (by decide), tpi_o _ _ _ (by decide), tpi_o _ _ _ (by decide), tpi_o _ _ _ (by decide), tpi_o _ _ _ (by decide), tpi_o _ _ _ (by decide), tpi_o _ _ _ (by decide), tpi_o _ _ _ (by decide), tpi_o _ _ _ (by decide), tpi_o _ _ _ (by decide), tpi_o _ _ _ (by decide), tpi_o _ _ _ (by decide), tpi_o _ _ _ (by decide), tpi_o _ _ _ (by decide), tpi_o _ _ _ (by decide), tpi_o _ _ _ (by decide), tpi_o _ _ _ (by decide), tpi_o _ _ _ (by decide), tpi_o _ _ _ (by decide), tpi_o _ _ _ (by decide), tpi_o _ _ _ (by decide)]
      rfl
theorem pOk_0 : pOk 0 (pV tvM1 1) (pL tvM1 1) tvS0 := by
  have r0 : ∀ p k, p < 20 → p ≠ 1 → pV tvM1 1 p k = 0 := fun p k h1 h2 => tvM1_0 (by omega) (by omega) (by omega) (by omega) k
  have rl : pL tvM1 1 = 0 := by
    show tvM1.2.1 1 8 = 0
    rw [tvM1_eq]
    rfl
  refine ⟨⟨fun k => ?_, by unfold pRs; decide, fun h hh => ?_, fun i hi => ?_, fun e he => ?_, rfl⟩, ⟨?_, fun h hh => absurd hh (Nat.not_lt_zero h), fun i hi => absurd hi (Nat.not_lt_zero i), 0, by omega, r0 16 0 (by omega) (by omega), r0 16 1 (by omega) (by omega), fun e he => absurd he (Nat.not_lt_zero e)⟩⟩
  · unfold tvS0
    split
    · omega
    · split <;> omega
  · unfold pRh
    rw [tvS0_0 (k := 12 + 3 * h + 1) (by omega) (by omega), tvS0_0 (k := 12 + 3 * h + 2) (by omega) (by omega)]
    exact ⟨by omega, by omega, fun _ => ⟨rfl, rfl⟩⟩
  · unfold pRx
    rw [tvS0_0 (k := 36 + 13 * i + 2) (by omega) (by omega), tvS0_0 (k := 36 + 13 * i + 3) (by omega) (by omega), tvS0_0 (k := 36 + 13 * i + 5) (by omega) (by omega), tvS0_0 (k := 36 + 13 * i + 6) (by omega) (by omega), tvS0_0 (k := 36 + 13 * i + 7) (by omega) (by omega)]
    exact ⟨by omega, by omega, by omega, by omega, by omega, fun j hj => by rw [tvS0_0 (by omega) (by omega)]; omega, fun _ => ⟨rfl, rfl⟩⟩
  · unfold pRe
    rw [tvS0_0 (by omega) (by omega), tvS0_0 (by omega) (by omega)]
    omega
  · rw [rl]
    exact ⟨r0 0 4 (by omega) (by omega), r0 0 5 (by omega) (by omega), r0 0 6 (by omega) (by omega), r0 0 7 (by omega) (by omega), rfl, tvM1_b 0, tvM1_b 1, r0 2 0 (by omega) (by omega), r0 6 0 (by omega) (by omega)⟩
theorem pJ_0 : pJ 0 tvM1 tvM1 := by
  refine ⟨tvS0, 0, 0, ⟨tvM1_s, pOk_0, ⟨by omega, by omega, tvM1_0 (by omega) (by omega) (by omega) (by omega) _, tvM1_0 (by omega) (by omega) (by omega) (by omega) _, tvM1_m (by omega) (by omega)⟩, fun i hi => absurd hi (Nat.not_lt_zero i)⟩, Or.inl ⟨tvM1_v (by omega) (by omega), tvM1_m (by omega) (by omega)⟩, ⟨⟨tvM1_v7.trans tvM1_m6.symm, Or.inl tvM1_v7⟩, ⟨tvM1_v8.trans tvM1_m7.symm, Or.inl tvM1_v8⟩, (tvM1_v (by omega) (by omega)).trans (tvM1_m (by omega) (by omega)).symm, Or.inl (tvM1_v (by omega) (by omega))⟩, ⟨0, by omega, tvM1_0 (by omega) (by omega) (by omega) (by omega) _, tvM1_m (by omega) (by omega), fun k hk => absurd hk (Nat.not_lt_zero k)⟩, ⟨0, by omega, tvM1_0 (by omega) (by omega) (by omega) (by omega) _, tvM1_m (by omega) (by omega), fun k hk => absurd hk (Nat.not_lt_zero k)⟩⟩

