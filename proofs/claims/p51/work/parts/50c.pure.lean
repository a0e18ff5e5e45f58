/-! ===== the class alone ===== -/
/-- places that a change leaves -/
def pFr (M M1 : tvM) : Prop := (∀ a, a = 0 ∨ (41 ≤ a ∧ a < 61) ∨ 243 ≤ a → M1.1 a = M.1 a) ∧ M1.2.1 41 = M.2.1 41
theorem pFr.refl (M : tvM) : pFr M M := ⟨fun _ _ => rfl, rfl⟩
theorem pFr.trans {M M1 M2 : tvM} (h : pFr M M1) (h2 : pFr M1 M2) : pFr M M2 := ⟨fun a ha => (h2.1 a ha).trans (h.1 a ha), h2.2.trans h.2⟩
/-- the state's row s, the ring's place x, the number n of changes that can be undone, their rows S -/
def pG (B : Nat) (M : tvM) (s : Nat → Nat) (x n : Nat) (S : Nat → Nat → Nat) : Prop :=
  (pOk B (pV M 1) (pL M 1) s ∧ pXi (0, 0) s) ∧ (x < 9 ∧ n ≤ 8 ∧ M.1 61 1 = nI x ∧ M.1 61 2 = nI n) ∧ ∀ i, i < n → pOk B (pV M (63 + 20 * ((x + 9 - n + i) % 9))) (pL M (63 + 20 * ((x + 9 - n + i) % 9))) (S i) ∧ pXi (0, 0) (S i)
def pSn (s : Nat → Nat) (n : Nat) (S : Nat → Nat → Nat) : Nat → Nat → Nat := fun i => if i + 1 = min (n + 1) 8 then s else S (if n = 8 then i + 1 else i)
theorem pSn_l (s : Nat → Nat) (n : Nat) (S : Nat → Nat → Nat) : pSn s n S (min (n + 1) 8 - 1) = s := by
  unfold pSn
  rw [if_pos (by omega)]
theorem pG.up {B B' : Nat} {M : tvM} {s : Nat → Nat} {x n : Nat} {S : Nat → Nat → Nat} (h : pG B M s x n S) (hB : B ≤ B') (h1 : B' ≤ 10000000) : pG B' M s x n S :=
  ⟨⟨h.1.1.up hB h1, h.1.2⟩, h.2.1, fun i hi => ⟨(h.2.2 i hi).1.up hB h1, (h.2.2 i hi).2⟩⟩
/-- the relation looks at some places alone -/
theorem pG_c {B : Nat} {M M1 : tvM} {s : Nat → Nat} {x n : Nat} {S : Nat → Nat → Nat} (h : pG B M s x n S) (e : ∀ a, (1 ≤ a ∧ a < 21) ∨ (61 ≤ a ∧ a < 243) → M1.1 a = M.1 a) (e2 : ∀ a, (1 ≤ a ∧ a < 21) ∨ (61 ≤ a ∧ a < 243) → M1.2.1 a = M.2.1 a) : pG B M1 s x n S := by
  obtain ⟨⟨h1, h2⟩, ⟨hx, hn, h3, h4⟩, h5⟩ := h
  refine ⟨⟨?_, h2⟩, ⟨hx, hn, by rw [e 61 (by omega)]; exact h3, by rw [e 61 (by omega)]; exact h4⟩, fun i hi => ⟨?_, (h5 i hi).2⟩⟩
  · rw [show pL M1 1 = pL M 1 from congrFun (e2 1 (by omega)) 8]
    exact pOk_cc h1 fun p k hr => congrFun (e _ (by unfold pRel at hr; omega)) k
  · have l9 : (x + 9 - n + i) % 9 < 9 := Nat.mod_lt _ (by omega)
    have b := (h5 i hi).1
    generalize (x + 9 - n + i) % 9 = z at l9 b
    rw [show pL M1 (63 + 20 * z) = pL M (63 + 20 * z) from congrFun (e2 _ (by omega)) 8]
    exact pOk_cc b fun p k hr => congrFun (e _ (by unfold pRel at hr; omega)) k
/-- the old state kept, the new one in its place -/
theorem pG_act {B : Nat} {M : tvM} {s : Nat → Nat} {x n : Nat} {S : Nat → Nat → Nat} {c' : Nat → Nat → Int32} {l' : Int64} {s' : Nat → Nat} (hB : B + 240 ≤ 10000000) (hG : pG B M s x n S) (hR : pOk (B + 240) c' l' s') (hX : pXi (0, 0) s') :
    pG (B + 240) (puC (f_X1_keep M) 1 c' l') s' ((x + 1) % 9) (min (n + 1) 8) (pSn s n S) ∧ pFr M (puC (f_X1_keep M) 1 c' l') := by
  obtain ⟨⟨h1, h2⟩, ⟨hx, hn, h5, h6⟩, h8⟩ := hG
  obtain ⟨⟨k1, k2, k3, k4, k5⟩, hk1, hk2⟩ := pKeep h5 h6 hx hn
  have o : ∀ a, a = 0 ∨ 21 ≤ a → (puC (f_X1_keep M) 1 c' l').1 a = (f_X1_keep M).1 a := fun a ha => funext fun k => puC_o _ 1 c' l' (by omega) k
  have ol : ∀ a, a ≠ 1 → (puC (f_X1_keep M) 1 c' l').2.1 a = (f_X1_keep M).2.1 a := fun a ha => tvU_ne _ _ _ ha
  refine ⟨⟨⟨?_, hX⟩, ⟨by omega, by omega, by rw [o 61 (by omega)]; exact hk1, by rw [o 61 (by omega)]; exact hk2⟩, fun i hi => ?_⟩, fun a ha => ?_, ?_⟩
  · rw [show pL (puC (f_X1_keep M) 1 c' l') 1 = l' from puC_l _ 1 c' l']
    exact pOk_cc hR fun p k hr => puC_g _ 1 c' l' (by unfold pRel at hr; omega) k
  · have lz : ((x + 1) % 9 + 9 - min (n + 1) 8 + i) % 9 < 9 := Nat.mod_lt _ (by omega)
    have key : pOk B (pV (f_X1_keep M) (63 + 20 * (((x + 1) % 9 + 9 - min (n + 1) 8 + i) % 9))) (pL (f_X1_keep M) (63 + 20 * (((x + 1) % 9 + 9 - min (n + 1) 8 + i) % 9))) (pSn s n S i) ∧ pXi (0, 0) (pSn s n S i) := by
      unfold pSn
      by_cases q : i + 1 = min (n + 1) 8
      · rw [if_pos q]
        have e : ((x + 1) % 9 + 9 - min (n + 1) 8 + i) % 9 = x := by omega
        rw [e, k5]
        exact ⟨pOk_cc h1 fun p k hr => k4 p k hr, h2⟩
      · rw [if_neg q]
        obtain ⟨b, bx⟩ := h8 (if n = 8 then i + 1 else i) (by split <;> omega)
        have e : ((x + 1) % 9 + 9 - min (n + 1) 8 + i) % 9 = (x + 9 - n + (if n = 8 then i + 1 else i)) % 9 := by split <;> omega
        have ne : (x + 9 - n + (if n = 8 then i + 1 else i)) % 9 ≠ x := by split <;> omega
        have l9 : (x + 9 - n + (if n = 8 then i + 1 else i)) % 9 < 9 := Nat.mod_lt _ (by omega)
        rw [e]
        generalize (x + 9 - n + (if n = 8 then i + 1 else i)) % 9 = z at ne l9 b
        have e2 : pL (f_X1_keep M) (63 + 20 * z) = pL M (63 + 20 * z) := congrFun (k2 _ (by omega)) 8
        rw [e2]
        exact ⟨pOk_cc b fun p k hr => congrFun (k1 _ (by unfold pRel at hr; omega) (by unfold pRel at hr; omega)) k, bx⟩
    generalize ((x + 1) % 9 + 9 - min (n + 1) 8 + i) % 9 = z at lz key ⊢
    rw [show pL (puC (f_X1_keep M) 1 c' l') (63 + 20 * z) = pL (f_X1_keep M) (63 + 20 * z) from congrFun (ol _ (by omega)) 8]
    exact ⟨(pOk_cc key.1 fun p k hr => congrFun (o _ (by omega)) k).up (by omega) hB, key.2⟩
  · rw [o a (by omega), k1 a (by omega) (by omega)]
  · rw [ol 41 (by omega), k2 41 (by omega)]
/-- a call of the class: done, refused, or a wrong code heard -/
theorem pAct {B : Nat} {M : tvM} {s : Nat → Nat} {x n : Nat} {S : Nat → Nat → Nat} {ρ : tvM → Int32} {cf : tvM → Int32 × tvM} {hear : tvM → tvM} {mf : tvM → Int32 × tvM} {mq : tvM → Prop} {ex : List (Int32 × Nat)} {g : Prop} {lo : Nat} (hB : B + 240 ≤ 10000000) (hG : pG B M s x n S) (h : pSim B (pV M 1) (pL M 1) s 1 ρ cf hear mf mq ex g lo) (hg : g) :
    (ρ M = 0 ∧ ∃ (v : Nat) (M1 : tvM) (s' : Nat → Nat), (lo ≤ v ∧ s 9 ≤ s' 9 ∧ s 10 ≤ s' 10) ∧ v < 65536 ∧ cf (f_X1_keep M) = (nI v, M1) ∧ pG (B + 240) M1 s' ((x + 1) % 9) (min (n + 1) 8) (pSn s n S) ∧ pFr M M1) ∨
    (∃ p ∈ ex, ρ M = p.1) ∨
    (ρ M = 4 ∧ ∃ (M1 : tvM) (s' : Nat → Nat), hear (f_X1_keep M) = M1 ∧ (s 3 ≤ s' 3 ∧ s 9 ≤ s' 9 ∧ s 10 ≤ s' 10) ∧ pG (B + 240) M1 s' ((x + 1) % 9) (min (n + 1) 8) (pSn s n S) ∧ pFr M M1) := by
  have hG0 := hG
  obtain ⟨⟨h1, h2⟩, ⟨hx, hn, h5, h6⟩, h8⟩ := hG
  obtain ⟨⟨k1, k2, k3, k4, k5⟩, hk1, hk2⟩ := pKeep h5 h6 hx hn
  have e0 : puC M 1 (pV M 1) (pL M 1) = M := puC_self M 1
  have e1 : puC (f_X1_keep M) 1 (pV M 1) (pL M 1) = f_X1_keep M := by
    refine Prod.ext ?_ (Prod.ext ?_ rfl)
    · funext a k
      show (if 1 ≤ a ∧ a < 1 + 20 then M.1 (1 + (a - 1)) k else (f_X1_keep M).1 a k) = (f_X1_keep M).1 a k
      by_cases q : 1 ≤ a ∧ a < 1 + 20
      · rw [if_pos q, show 1 + (a - 1) = a by omega, k1 a (by omega) (by omega)]
      · rw [if_neg q]
    · funext a
      show tvU (f_X1_keep M).2.1 1 8 (M.2.1 1 8) a = (f_X1_keep M).2.1 a
      by_cases q : a = 1
      · rw [q]
        funext k
        rw [tvU_row]
        by_cases q2 : k = 8
        · rw [if_pos q2, q2, k2 1 (by omega)]
        · rw [if_neg q2]
      · rw [tvU_ne _ _ _ q]
  have h' := h M (f_X1_keep M) M 0
  rw [e0, e1] at h'
  rcases h' with ⟨a1, v, c', l', s', a2, a3, _, _, a6, aX, al⟩ | ⟨p, hp, a1, _⟩ | ⟨a1, c', l', s', a3, _, _, a6, aX, al⟩
  · obtain ⟨w1, w2⟩ := pG_act hB hG0 a6 (aX hg (0, 0) h2)
    exact Or.inl ⟨a1, v, _, s', ⟨al, pXi_mo (fun z => aX hg z) h2⟩, a2, a3, w1, w2⟩
  · exact Or.inr (Or.inl ⟨p, hp, a1⟩)
  · obtain ⟨w1, w2⟩ := pG_act hB hG0 a6 (aX (0, 0) h2)
    exact Or.inr (Or.inr ⟨a1, _, s', a3, ⟨al, pXi_mo (fun z => aX z) h2⟩, w1, w2⟩)
theorem pUndo0 {B : Nat} {M : tvM} {s : Nat → Nat} {x : Nat} {S : Nat → Nat → Nat} (hG : pG B M s x 0 S) : f_X8_undo M = (some "java/lang/IllegalStateException", 0, M) := by
  unfold f_X8_undo
  rw [if_pos (show tgi M 61 2 = 0 from hG.2.1.2.2.2)]
theorem pUndo {B : Nat} {M : tvM} {s : Nat → Nat} {x n : Nat} {S : Nat → Nat → Nat} (hG : pG B M s x n S) (q : n ≠ 0) : ∃ M1, f_X8_undo M = (none, nI (n - 1), M1) ∧ pG B M1 (S (n - 1)) ((x + 8) % 9) (n - 1) S ∧ pFr M M1 := by
  obtain ⟨⟨h1, h2⟩, ⟨hx, hn, h5, h6⟩, h8⟩ := hG
  obtain ⟨hbk, hbX⟩ := h8 (n - 1) (by omega)
  have ey : (x + 9 - n + (n - 1)) % 9 = (x + 8) % 9 := by omega
  rw [ey] at hbk
  have l9 : (x + 8) % 9 < 9 := Nat.mod_lt _ (by omega)
  generalize hy : (x + 8) % 9 = y at hbk l9
  have en : ∀ N : tvM, N.1 61 1 = nI y → 63 + 20 * (f_J9_floorMod_7cf53 N (tgi N 61 1) 9).toNatClampNeg = 63 + 20 * y := fun N h => by
    rw [show tgi N 61 1 = nI y from h, pn_fm N (by omega), pn_c (by omega), Nat.mod_eq_of_lt l9]
  have e1 : f_J9_floorMod_7cf53 M (tgi M 61 1 - 1) 9 = nI y := by
    rw [show tgi M 61 1 = nI x from h5, pn_fm1 M hx, hy]
  obtain ⟨c', g, r⟩ := pc_copy (tpi M 61 1 (nI y)) (b := 1) (b2 := 63 + 20 * y) (by omega)
  have ec : f_X1_cancel (tpi M 61 1 (nI y)) = puC (tpi M 61 1 (nI y)) 1 c' (pL M (63 + 20 * y)) := by
    unfold f_X1_cancel
    rw [en _ (tpi_s _ _ _ _), g]
    rfl
  have e62 : tgi (puC (tpi M 61 1 (nI y)) 1 c' (pL M (63 + 20 * y))) 61 2 = nI n := (puC_o _ 1 _ _ (by omega) 2).trans ((tpi_k M 61 _ (by omega)).trans h6)
  obtain ⟨M1, hM1⟩ : ∃ z, z = tpi (puC (tpi M 61 1 (nI y)) 1 c' (pL M (63 + 20 * y))) 61 2 (nI (n - 1)) := ⟨_, rfl⟩
  have es : f_X1_stepBack M = (nI (n - 1), M1) := by
    unfold f_X1_stepBack
    rw [e1, ec, e62, pl_1, pn_sub (by omega), ← hM1]
    exact Prod.ext (show tgi M1 61 2 = nI (n - 1) from by rw [hM1]; exact tpi_s _ _ _ _) rfl
  have e8 : f_X8_undo M = (none, nI (n - 1), M1) := by
    unfold f_X8_undo
    rw [if_neg (show ¬ tgi M 61 2 = 0 from by rw [show tgi M 61 2 = nI n from h6, pl_0, pn_eq (by omega) (by omega)]; exact q), es]
  have o1 : ∀ a, a = 0 ∨ (21 ≤ a ∧ a ≠ 61) → M1.1 a = M.1 a := fun a q1 => by
    rw [hM1]
    funext k
    exact (tpi_o _ _ k (by omega)).trans ((puC_o _ 1 _ _ (by omega) k).trans (tpi_o _ _ k (by omega)))
  have o61 : M1.1 61 1 = nI y := by
    rw [hM1]
    exact (tpi_k _ _ _ (by omega)).trans ((puC_o _ 1 _ _ (by omega) 1).trans (tpi_s _ _ _ _))
  have o62 : M1.1 61 2 = nI (n - 1) := by
    rw [hM1]
    exact tpi_s _ _ _ _
  have ol : ∀ a, a ≠ 1 → M1.2.1 a = M.2.1 a := fun a q1 => by
    rw [hM1]
    exact tvU_ne _ _ _ q1
  have oR : pOk B (pV M1 1) (pL M1 1) (S (n - 1)) := by
    have e : pL M1 1 = pL M (63 + 20 * y) := by rw [hM1]; exact puC_l (tpi M 61 1 (nI y)) 1 c' _
    rw [e]
    refine pOk_cc hbk fun p k hr => ?_
    have hp : p < 20 := by unfold pRel at hr; omega
    rw [hM1]
    exact (tpi_o _ _ k (by omega)).trans ((puC_g _ 1 _ _ hp k).trans ((r p k hr).trans (tpi_o _ _ k (by omega))))
  refine ⟨M1, e8, ⟨⟨oR, hbX⟩, ⟨l9, by omega, o61, o62⟩, fun i hi => ?_⟩, fun a ha => o1 a (by omega), ol 41 (by omega)⟩
  obtain ⟨b, bx⟩ := h8 i (by omega)
  rw [show (y + 9 - (n - 1) + i) % 9 = (x + 9 - n + i) % 9 by omega]
  have lz : (x + 9 - n + i) % 9 < 9 := Nat.mod_lt _ (by omega)
  generalize (x + 9 - n + i) % 9 = z at lz b
  rw [show pL M1 (63 + 20 * z) = pL M (63 + 20 * z) from congrFun (ol _ (by omega)) 8]
  exact ⟨pOk_cc b fun p k hr => congrFun (o1 _ (by omega)) k, bx⟩
/-- the saved state -/
def pKd (B : Nat) (M : tvM) (sv : Nat → Nat) : Prop := M.1 0 6 = 1 ∧ pOk B (pV M 41) (pL M 41) sv ∧ pXi (0, 0) sv
theorem pKd_fr {B : Nat} {M M1 : tvM} {sv : Nat → Nat} (h : pKd B M sv) (e : pFr M M1) : pKd B M1 sv := by
  obtain ⟨h1, h2, h3⟩ := h
  refine ⟨by rw [e.1 0 (by omega)]; exact h1, ?_, h3⟩
  rw [show pL M1 41 = pL M 41 from congrFun e.2 8]
  exact pOk_cc h2 fun p k hr => congrFun (e.1 _ (by unfold pRel at hr; omega)) k
theorem pSave {B : Nat} {M : tvM} {s : Nat → Nat} {x n : Nat} {S : Nat → Nat → Nat} (hG : pG B M s x n S) : ∃ M1, f_X8_save M = (nI (s 10), M1) ∧ pG B M1 s x n S ∧ pKd B M1 s ∧ ∀ a, 243 ≤ a → M1.1 a = M.1 a := by
  have h2 := hG.1.1
  obtain ⟨c', g, r⟩ := pc_copy M (b := 41) (b2 := 1) (by omega)
  obtain ⟨M1, hM1⟩ : ∃ z, z = tpi (puC M 41 c' (pL M 1)) 0 6 1 := ⟨_, rfl⟩
  have o1 : ∀ a, a ≠ 0 → ¬ (41 ≤ a ∧ a < 61) → M1.1 a = M.1 a := fun a q1 q2 => by
    rw [hM1]
    funext k
    exact (tpi_o _ _ k q1).trans (puC_o _ 41 _ _ (by omega) k)
  have o6 : M1.1 0 6 = 1 := by rw [hM1]; exact tpi_s _ _ _ _
  have ol : ∀ a, a ≠ 41 → M1.2.1 a = M.2.1 a := fun a q1 => by
    rw [hM1]
    exact tvU_ne _ _ _ q1
  have oR : pOk B (pV M1 41) (pL M1 41) s := by
    have e : pL M1 41 = pL M 1 := by rw [hM1]; exact puC_l M 41 c' _
    rw [e]
    refine pOk_cc h2 fun p k hr => ?_
    rw [hM1]
    exact (tpi_o _ _ k (by omega)).trans ((puC_g _ 41 _ _ (by unfold pRel at hr; omega) k).trans (r p k hr))
  have e8 : f_X8_save M = (nI (s 10), M1) := by
    unfold f_X8_save
    rw [g, ← hM1]
    refine Prod.ext ?_ rfl
    show M1.1 7 0 = nI (s 10)
    rw [o1 7 (by omega) (by omega)]
    exact h2.2.1.2.2.2.2.2.2.2.2
  exact ⟨M1, e8, pG_c hG (fun a ha => o1 a (by omega) (by omega)) (fun a ha => ol a (by omega)), ⟨o6, oR, hG.1.2⟩, fun a ha => o1 a (by omega) (by omega)⟩
theorem pRestore {B : Nat} {M : tvM} {s sv : Nat → Nat} {x n : Nat} {S : Nat → Nat → Nat} (hG : pG B M s x n S) (hK : pKd B M sv) : ∃ M1, f_X8_restore M = (none, nI (sv 10), M1) ∧ pG B M1 sv x 0 S ∧ ∀ a, 243 ≤ a → M1.1 a = M.1 a := by
  obtain ⟨⟨h1, h2⟩, ⟨hx, hn, h5, h6⟩, h8⟩ := hG
  obtain ⟨v6, hbk, hbX⟩ := hK
  obtain ⟨c', g, r⟩ := pc_copy M (b := 1) (b2 := 41) (by omega)
  obtain ⟨M1, hM1⟩ : ∃ z, z = tpi (puC M 1 c' (pL M 41)) 61 2 0 := ⟨_, rfl⟩
  have o1 : ∀ a, a ≠ 61 → ¬ (1 ≤ a ∧ a < 21) → M1.1 a = M.1 a := fun a q1 q2 => by
    rw [hM1]
    funext k
    exact (tpi_o _ _ k q1).trans (puC_o _ 1 _ _ (by omega) k)
  have o61 : M1.1 61 1 = nI x := by
    rw [hM1]
    exact (tpi_k _ _ _ (by omega)).trans ((puC_o _ 1 _ _ (by omega) 1).trans h5)
  have o62 : M1.1 61 2 = nI 0 := by rw [hM1]; exact tpi_s _ _ _ _
  have oR : pOk B (pV M1 1) (pL M1 1) sv := by
    have e : pL M1 1 = pL M 41 := by rw [hM1]; exact puC_l M 1 c' _
    rw [e]
    refine pOk_cc hbk fun p k hr => ?_
    rw [hM1]
    exact (tpi_o _ _ k (by unfold pRel at hr; omega)).trans ((puC_g _ 1 _ _ (by unfold pRel at hr; omega) k).trans (r p k hr))
  have e8 : f_X8_restore M = (none, nI (sv 10), M1) := by
    unfold f_X8_restore
    rw [if_neg (show ¬ tgi M 0 6 = 0 from by rw [show tgi M 0 6 = 1 from v6]; decide), g]
    unfold f_X1_forget
    rw [← hM1]
    refine Prod.ext rfl (Prod.ext ?_ rfl)
    exact oR.2.1.2.2.2.2.2.2.2.2
  exact ⟨M1, e8, ⟨⟨oR, hbX⟩, ⟨hx, by omega, o61, o62⟩, fun i hi => absurd hi (by omega)⟩, fun a ha => o1 a (by omega) (by omega)⟩

