/-! ===== loops one behind the other ===== -/
def pEnd {σ ρ : Type} (step : σ → σ ⊕ ρ) (qs : σ → Prop) (F : Nat) (x : σ ⊕ ρ) (r : ρ) : Prop := tvIter step F x = some r ∧ tvQ step qs F x
theorem pEnd_r {σ ρ : Type} {step : σ → σ ⊕ ρ} {qs : σ → Prop} (F : Nat) (r : ρ) : pEnd step qs F (.inr r) r := by
  cases F with
  | zero => exact ⟨rfl, trivial⟩
  | succ F => exact ⟨rfl, trivial⟩
theorem pEnd_1 {σ ρ : Type} {step : σ → σ ⊕ ρ} {qs : σ → Prop} {F : Nat} {x : σ} {y : σ ⊕ ρ} {r : ρ} (hs : step x = y) (hq : qs x) (h : pEnd step qs F y r) : pEnd step qs (F + 1) (.inl x) r := by
  subst hs
  exact ⟨h.1, hq, h.2⟩
theorem pEnd_n {σ ρ : Type} {step : σ → σ ⊕ ρ} {qs : σ → Prop} {r : ρ} (I : Nat → σ) (N : Nat) (hs : ∀ i, i < N → step (I i) = .inl (I (i + 1))) (hq : ∀ i, i < N → qs (I i)) {F : Nat} (h : pEnd step qs F (.inl (I N)) r) : pEnd step qs (F + N) (.inl (I 0)) r := by
  have key : ∀ k i, i + k = N → pEnd step qs (F + k) (.inl (I i)) r := by
    intro k
    induction k with
    | zero => intro i hi; rw [show i = N by omega]; exact h
    | succ k ih => intro i hi; exact pEnd_1 (hs i (by omega)) (hq i (by omega)) (ih (i + 1) (by omega))
  exact key N 0 (by omega)
theorem pEnd_up {σ ρ : Type} {step : σ → σ ⊕ ρ} {qs : σ → Prop} {F : Nat} {x : σ ⊕ ρ} {r : ρ} (h : pEnd step qs F x r) : ∀ m, pEnd step qs (F + m) x r := by
  induction F generalizing x with
  | zero => intro m; cases x with
    | inl s => cases h.1
    | inr y => cases h.1; exact pEnd_r _ _
  | succ F ih => intro m; cases x with
    | inl s =>
      rw [Nat.add_right_comm]
      exact pEnd_1 rfl h.2.1 (ih ⟨h.1, h.2.2⟩ m)
    | inr y => cases h.1; exact pEnd_r _ _
theorem pEnd_to {σ ρ : Type} {step : σ → σ ⊕ ρ} {qs : σ → Prop} {F F' : Nat} {x : σ ⊕ ρ} {r : ρ} (h : pEnd step qs F x r) (hF : F ≤ F') : pEnd step qs F' x r := by
  have := pEnd_up h (F' - F)
  rwa [Nat.add_sub_cancel' hF] at this
/-! ===== the most valuable pearl ===== -/
def pBe (v : Nat → Nat) : Nat → Nat
  | 0 => 0
  | j + 1 => if v (j + 1) ≤ v (pBe v j) then pBe v j else j + 1
theorem pBe_le (v : Nat → Nat) (j : Nat) : pBe v j ≤ j := by
  induction j with
  | zero => exact Nat.le_refl 0
  | succ j ih =>
    show (if v (j + 1) ≤ v (pBe v j) then pBe v j else j + 1) ≤ j + 1
    split <;> omega
theorem psm_del (v : Nat → Nat) (k m : Nat) (h : k < m) : psm v m = v k + psm (fun j => if j < k then v j else v (j + 1)) (m - 1) := by
  induction m with
  | zero => omega
  | succ m ih =>
    by_cases e : k = m
    · subst e
      show psm v k + v k = v k + psm _ (k + 1 - 1)
      rw [Nat.add_sub_cancel, psm_c (f := fun j => if j < k then v j else v (j + 1)) (g := v) (fun j hj => by simp [hj])]
      omega
    · have h1 := ih (by omega)
      obtain ⟨n, rfl⟩ : ∃ n, m = n + 1 := ⟨m - 1, by omega⟩
      rw [Nat.add_sub_cancel] at h1 ⊢
      show psm v (n + 1) + v (n + 1) = v k + (psm _ n + (if n < k then v n else v (n + 1)))
      rw [h1, if_neg (by omega)]
      omega
/-- the pearls of box i behind place k moved down, up to place y -/
def pSf (s : Nat → Nat) (i k y : Nat) : Nat → Nat := fun q => if 36 + 13 * i + (8 + k) ≤ q ∧ q < 36 + 13 * i + (8 + y) then s (q + 1) else s q
def pSfc (c : Nat → Nat → Int32) (i k n : Nat) : Nat → Nat → Int32 := fun p q => if p = 15 ∧ i * 5 + k ≤ q ∧ q < i * 5 + k + n then c 15 (q + 1) else c p q
theorem pSf_s (s : Nat → Nat) (i k y : Nat) (h : k ≤ y) : pun (pSf s i k y) (36 + 13 * i + (8 + y)) (s (36 + 13 * i + (8 + y + 1))) = pSf s i k (y + 1) := by
  funext q
  unfold pun pSf
  by_cases e : q = 36 + 13 * i + (8 + y)
  · subst e
    rw [if_pos rfl, if_pos (by omega)]
    congr 1
  · rw [if_neg e]
    by_cases e2 : 36 + 13 * i + (8 + k) ≤ q ∧ q < 36 + 13 * i + (8 + y)
    · rw [if_pos e2, if_pos (by omega)]
    · rw [if_neg e2, if_neg (by omega)]
theorem pSf_0 (s : Nat → Nat) (i k : Nat) : pSf s i k k = s := by
  funext q
  unfold pSf
  rw [if_neg (by omega)]
theorem pSf_o (s : Nat → Nat) (i k y : Nat) {q : Nat} (h : q < 36 + 13 * i + (8 + k) ∨ 36 + 13 * i + (8 + y) ≤ q) : pSf s i k y q = s q := by
  unfold pSf
  rw [if_neg (by omega)]
theorem pSfc_s (c : Nat → Nat → Int32) (i k n : Nat) : tvU (pSfc c i k n) 15 (i * 5 + (k + n)) (c 15 (i * 5 + (k + 1 + n))) = pSfc c i k (n + 1) := by
  funext p q
  unfold tvU pSfc
  by_cases e : p = 15 ∧ q = i * 5 + (k + n)
  · obtain ⟨e1, e2⟩ := e
    subst e1; subst e2
    rw [if_pos ⟨rfl, rfl⟩, if_pos ⟨rfl, by omega, by omega⟩]
    congr 1
    omega
  · rw [if_neg e]
    by_cases e2 : p = 15 ∧ i * 5 + k ≤ q ∧ q < i * 5 + k + n
    · rw [if_pos e2, if_pos ⟨e2.1, e2.2.1, by omega⟩]
    · rw [if_neg e2, if_neg (by
        intro h
        exact e2 ⟨h.1, h.2.1, by
          have : ¬ q = i * 5 + (k + n) := fun h2 => e ⟨h.1, h2⟩
          omega⟩)]
theorem pSfc_0 (c : Nat → Nat → Int32) (i k : Nat) : pSfc c i k 0 = c := by
  funext p q
  unfold pSfc
  rw [if_neg (by omega)]
theorem pSfc_o (c : Nat → Nat → Int32) (i k n : Nat) {p : Nat} (q : Nat) (h : p ≠ 15) : pSfc c i k n p q = c p q := by
  unfold pSfc
  rw [if_neg (fun e => h e.1)]
theorem pSfc_5 (c : Nat → Nat → Int32) (i k n q : Nat) : pSfc c i k n 15 q = if i * 5 + k ≤ q ∧ q < i * 5 + k + n then c 15 (q + 1) else c 15 q := by
  unfold pSfc
  simp only [true_and]

