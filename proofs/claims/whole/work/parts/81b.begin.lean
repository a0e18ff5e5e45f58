/-! ===== the references behind the constructors ===== -/
def tvLo (ρ : tvR) : Prop := ∀ a k, 20 ≤ k → ρ a k = none
theorem tvLo_n : tvLo (fun _ _ => none) := fun _ _ _ => rfl
theorem tvLo_z {ρ : tvR} {n : Nat} (h : tvLo ρ) : tvLo (tvRz ρ n) := fun a k hk => by
  show (if a = n then (fun _ => none) else ρ a) k = none
  split
  · rfl
  · exact h a k hk
theorem tvLo_p {ρ : tvR} {a j r : Nat} (hj : j < 20) (h : tvLo ρ) : tvLo (tvRp ρ a j r) := fun x k hk => by
  show (if x = a ∧ k = j then some r else ρ x k) = none
  rw [if_neg (by omega)]
  exact h x k hk
theorem tvLo_2 {ρ : tvR} {b : Nat} (h : tvLo ρ) : tvLo (i_X2_init_r b ρ) := by
  unfold i_X2_init_r
  repeat (first | exact h | refine tvLo_p (by decide) ?_ | refine tvLo_z ?_)
theorem tvLo_0 {ρ : tvR} {b : Nat} (h : tvLo ρ) : tvLo (i_X0_init_r b ρ) := by
  unfold i_X0_init_r
  repeat (first | exact h | refine tvLo_p (by decide) ?_ | refine tvLo_z ?_)
theorem tvLo_4 {ρ : tvR} {b : Nat} (h : tvLo ρ) : tvLo (i_X4_init_r b ρ) := by
  unfold i_X4_init_r
  repeat (first | exact h | refine tvLo_p (by decide) ?_ | refine tvLo_z ?_)
theorem tvLo_6 {ρ : tvR} {b : Nat} (h : tvLo ρ) : tvLo (i_X6_init_r b ρ) := by
  unfold i_X6_init_r
  repeat (first | exact h | refine tvLo_p (by decide) ?_ | refine tvLo_z ?_ | refine tvLo_4 ?_ | refine tvLo_0 ?_ | refine tvLo_2 ?_)
theorem tvLo_R1 : tvLo tvR1 := by
  unfold tvR1 i_X9_init_r i_X8_init_r i_X3_init_r i_X5_init_r i_X1_init_r
  repeat (first | exact tvLo_n | refine tvLo_p (by decide) ?_ | refine tvLo_z ?_ | refine tvLo_6 ?_)
theorem tvRefs_lo : ∀ q ∈ tvRefs, q.2.1 < 20 := by decide +kernel
theorem tvLo_Rho : tvLo tvRho := fun a k hk => by
  unfold tvRho
  rw [List.find?_eq_none.mpr]
  · rfl
  · intro q hq hz
    have h1 := tvRefs_lo q hq
    rw [Bool.and_eq_true, beq_iff_eq, beq_iff_eq] at hz
    omega
theorem tvR1_20 : ∀ a, a < 259 → (tvSh a).1 = 0 ∨ (tvSh a).1 = 5 → ∀ k, k < 20 → tvR1 a k = tvRho a k := by decide +kernel
theorem tvSh_5 : ∀ a, a < 259 → (tvSh a).1 ≤ 5 := by decide +kernel
theorem tvR1_row {a : Nat} (h : a < 259) (hk : (tvSh a).1 = 0 ∨ (tvSh a).1 = 5) : tvR1 a = tvRho a := funext fun k => by
  by_cases q : k < 20
  · exact tvR1_20 a h hk k q
  · rw [tvLo_R1 a k (by omega), tvLo_Rho a k (by omega)]
theorem tvEnt_r {z : Nat} {cA : Nat → ClassId} {s : Nat × Nat} {fi : Nat → Int32} {fl : Nat → Int64} {fd : Nat → UInt64} {fr fr' : Nat → Option Nat} (h : s.1 = 1 ∨ s.1 = 2 ∨ s.1 = 3 ∨ s.1 = 4) : tvEnt z cA s fi fl fd fr = tvEnt z cA s fi fl fd fr' := by
  obtain ⟨x, y⟩ := s
  rcases h with h | h | h | h <;> (have h' : x = _ := h; subst h'; rfl)
theorem tvWs_go (G : tvG) (M : tvM) : tvWs G (259, tvR1, True) M = tvWs G tvP0 M := by
  unfold tvWs
  refine List.map_congr_left fun a ha => ?_
  have h : a < 259 := List.mem_range.mp ha
  have h5 := tvSh_5 a h
  have e : tvEnt G.2.1 G.2.2.2.1 (tvSh a) (M.1 a) (M.2.1 a) (M.2.2 a) (tvR1 a) = tvEnt G.2.1 G.2.2.2.1 (tvSh a) (M.1 a) (M.2.1 a) (M.2.2 a) (tvRho a) := by
    by_cases q : (tvSh a).1 = 0 ∨ (tvSh a).1 = 5
    · rw [tvR1_row h q]
    · exact tvEnt_r (by omega)
  exact congrArg (fun x => (G.2.1 + a, x)) e
theorem tvP_go {G : tvG} {M : tvM} {H : Heap} (h : tvP G (259, tvR1, True) M H) : tvP G tvP0 M H := by
  refine ⟨?_, fun z => z.elim⟩
  rw [← tvWs_go G M]
  exact h.1

