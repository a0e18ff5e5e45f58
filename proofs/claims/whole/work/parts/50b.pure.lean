/-! ===== what the relation looks at ===== -/
def pMr (M M' : tvM) : Prop := ∀ a, 249 ≤ a → a < 257 → M'.1 a = M.1 a
def pCr (M M' : tvM) : Prop := (∀ a, a < 249 → M'.1 a = M.1 a) ∧ (∀ a, a < 249 → M'.2.1 a = M.2.1 a)
theorem pMr.refl (M : tvM) : pMr M M := fun _ _ _ => rfl
theorem pMr.trans {M M' M'' : tvM} (h : pMr M M') (h2 : pMr M' M'') : pMr M M'' := fun a h1 h3 => (h2 a h1 h3).trans (h a h1 h3)
theorem pHist_m {B : Nat} {M M' M'' : tvM} {x n : Nat} (h : pHist B M M' x n) (e : M''.1 253 = M'.1 253) : pHist B M M'' x n := fun i hi => by
  obtain ⟨si, a, b⟩ := h i hi
  exact ⟨si, fun k hk => by rw [e]; exact a k hk, b⟩
theorem pV_c {M M1 : tvM} {b : Nat} (h : pCr M M1) (hb : b + 20 ≤ 249) {B : Nat} {s : Nat → Nat} (hR : pOk B (pV M b) (pL M b) s) : pOk B (pV M1 b) (pL M1 b) s := by
  have e : pL M1 b = pL M b := congrFun (h.2 b (by omega)) 8
  rw [e]
  exact pOk_cc hR fun p k hr => congrFun (h.1 (b + p) (by unfold pRel at hr; omega)) k
theorem pJs_m {B : Nat} {M M' M'' : tvM} {s : Nat → Nat} {x n : Nat} (h : pJs B M M' s x n) (e : pMr M' M'') : pJs B M M'' s x n := by
  obtain ⟨h1, h2, ⟨h3, h4, h5, h6, h7⟩, h8⟩ := h
  exact ⟨fun k => by rw [e 250 (by omega) (by omega)]; exact h1 k, h2, ⟨h3, h4, h5, h6, by rw [e 249 (by omega) (by omega)]; exact h7⟩, pHist_m h8 (e 253 (by omega) (by omega))⟩
theorem pJr_m {B : Nat} {M M' M'' : tvM} (hB : B ≤ 10000000) (h : pJr B M M') (e : pMr M' M'') : pJr B M M'' := pJr_c h (Nat.le_refl _) hB (fun _ _ _ => rfl) (fun _ _ _ => rfl) rfl (fun _ _ _ => rfl) (fun k _ _ => by rw [e 249 (by omega) (by omega)]) (fun a ha => e a (by omega) (by omega))
theorem pJ_k {B : Nat} {M M' M1 : tvM} (hB : B ≤ 10000000) (h : pJ B M M') (e : pCr M M1) : pJ B M1 M' := by
  obtain ⟨s, x, n, ⟨h1, h2, ⟨h3, h4, h5, h6, h7⟩, h8⟩, hr⟩ := h
  refine ⟨s, x, n, ⟨h1, pV_c e (by omega) h2, ⟨h3, h4, by rw [e.1 61 (by omega)]; exact h5, by rw [e.1 61 (by omega)]; exact h6, h7⟩, fun i hi => ?_⟩, pJr_c hr (Nat.le_refl _) hB (fun _ _ _ => by rw [e.1 0 (by omega)]) (fun a h1 h2 => e.1 a (by omega)) (by rw [e.2 41 (by omega)]) (fun a h1 h2 => e.1 a (by omega)) (fun _ _ _ => rfl) (fun _ _ => rfl)⟩
  obtain ⟨si, a, b⟩ := h8 i hi
  exact ⟨si, a, pV_c e (by omega) b⟩
theorem pJ_m {B : Nat} {M M' M'' : tvM} (hB : B ≤ 10000000) (h : pJ B M M') (e : pMr M' M'') : pJ B M M'' := by
  obtain ⟨s, x, n, h1, h2⟩ := h
  exact ⟨s, x, n, pJs_m h1 e, pJr_m hB h2 e⟩
theorem pJ.up {B B' : Nat} {M M' : tvM} (h : pJ B M M') (hB : B ≤ B') (h1 : B' ≤ 10000000) : pJ B' M M' := by
  obtain ⟨s, x, n, ⟨a, b, c, d⟩, r⟩ := h
  exact ⟨s, x, n, ⟨a, b.up hB h1, c, d.up hB h1⟩, pJr_c r hB h1 (fun _ _ _ => rfl) (fun _ _ _ => rfl) rfl (fun _ _ _ => rfl) (fun _ _ _ => rfl) (fun _ _ => rfl)⟩
/-- after the model's half: only its own rows have changed -/
def pAft (B : Nat) (M1 M' M2 : tvM) : Prop := M2.2 = M'.2 ∧ (∀ a, a < 249 → M2.1 a = M'.1 a) ∧ pJ B M1 M2
theorem pAft.fin {B : Nat} {M1 M' M2 : tvM} (hB : B ≤ 10000000) (h : pAft B M1 M' M2) (e : pCr M1 M') : pJ B M2 M2 :=
  pJ_k hB h.2.2 ⟨fun a ha => (h.2.1 a ha).trans (e.1 a ha), fun a ha => by rw [h.1]; exact e.2 a ha⟩
/-! ===== the state kept on both sides ===== -/
theorem pHist_keep {B : Nat} {M M' Mk M4 : tvM} {s : Nat → Nat} {x n : Nat} (h : pJs B M M' s x n) (hk : pKp M Mk x) (e3 : ∀ k, k < 202 → M4.1 253 (202 * (min (n + 1) 8 - 1) + k) = nI (s k)) (e4 : ∀ i k, i + 1 < min (n + 1) 8 → k < 202 → M4.1 253 (202 * i + k) = M'.1 253 (202 * (if n = 8 then i + 1 else i) + k)) : pHist B Mk M4 ((x + 1) % 9) (min (n + 1) 8) := by
  obtain ⟨h1, h2, ⟨hx, hn, h5, h6, h7⟩, h8⟩ := h
  obtain ⟨k1, k2, k3, k4, k5⟩ := hk
  intro i hi
  by_cases q : i + 1 = min (n + 1) 8
  · refine ⟨s, fun k hk => ?_, ?_⟩
    · rw [show i = min (n + 1) 8 - 1 by omega]
      exact e3 k hk
    · have e : ((x + 1) % 9 + 9 - min (n + 1) 8 + i) % 9 = x := by omega
      rw [e, k5]
      exact pOk_cc h2 fun p k hr => k4 p k hr
  · obtain ⟨si, a, b⟩ := h8 (if n = 8 then i + 1 else i) (by split <;> omega)
    refine ⟨si, fun k hk => ?_, ?_⟩
    · rw [e4 i k (by omega) hk]
      exact a k hk
    · have e : ((x + 1) % 9 + 9 - min (n + 1) 8 + i) % 9 = (x + 9 - n + (if n = 8 then i + 1 else i)) % 9 := by split <;> omega
      have ne : (x + 9 - n + (if n = 8 then i + 1 else i)) % 9 ≠ x := by split <;> omega
      have l9 : (x + 9 - n + (if n = 8 then i + 1 else i)) % 9 < 9 := Nat.mod_lt _ (by omega)
      rw [e]
      generalize (x + 9 - n + (if n = 8 then i + 1 else i)) % 9 = z at ne l9 b
      have e2 : pL Mk (63 + 20 * z) = pL M (63 + 20 * z) := congrFun (k2 _ (by omega)) 8
      rw [e2]
      exact pOk_cc b fun p k hr => congrFun (k1 _ (by unfold pRel at hr; omega) (by unfold pRel at hr; omega)) k
/-- class and model have kept the old state s, and stand at s' -/
theorem pJ_keep {B : Nat} {M M' Mk M4 : tvM} {c' : Nat → Nat → Int32} {l' : Int64} {s s' : Nat → Nat} {x n : Nat} (hB : B + 240 ≤ 10000000) (h : pJs B M M' s x n) (hr : pJr B M M') (hk : pKp M Mk x) (hk1 : Mk.1 61 1 = nI ((x + 1) % 9)) (hk2 : Mk.1 61 2 = nI (min (n + 1) 8)) (hR : pOk (B + 240) c' l' s') (m0 : ∀ k, M4.1 250 k = nI (s' k)) (m1 : ∀ a, a = 252 ∨ a = 254 ∨ a = 255 → M4.1 a = M'.1 a) (m2 : ∀ k, 6 ≤ k → k ≤ 15 → M4.1 249 k = M'.1 249 k) (m4 : M4.1 249 4 = nI (min (n + 1) 8)) (e3 : ∀ k, k < 202 → M4.1 253 (202 * (min (n + 1) 8 - 1) + k) = nI (s k)) (e4 : ∀ i k, i + 1 < min (n + 1) 8 → k < 202 → M4.1 253 (202 * i + k) = M'.1 253 (202 * (if n = 8 then i + 1 else i) + k)) : pJ (B + 240) (puC Mk 1 c' l') M4 := by
  have hh := (pHist_keep h hk e3 e4).up (show B ≤ B + 240 by omega) hB
  obtain ⟨h1, h2, ⟨hx, hn, h5, h6, h7⟩, h8⟩ := h
  obtain ⟨k1, k2, k3, k4, k5⟩ := hk
  have o : ∀ a, 21 ≤ a → (puC Mk 1 c' l').1 a = Mk.1 a := fun a ha => funext fun k => puC_o Mk 1 c' l' (by omega) k
  have ol : ∀ a, a ≠ 1 → (puC Mk 1 c' l').2.1 a = Mk.2.1 a := fun a ha => tvU_ne _ _ _ ha
  refine ⟨s', (x + 1) % 9, min (n + 1) 8, ⟨m0, ?_, ⟨by omega, by omega, by rw [o 61 (by omega)]; exact hk1, by rw [o 61 (by omega)]; exact hk2, m4⟩, fun i hi => ?_⟩, pJr_c hr (by omega) hB (fun k _ _ => ?_) (fun a h1 h2 => ?_) ?_ (fun a h1 h2 => ?_) m2 m1⟩
  · have e : pL (puC Mk 1 c' l') 1 = l' := puC_l Mk 1 c' l'
    rw [e]
    exact pOk_cc hR fun p k hr => puC_g Mk 1 c' l' (by unfold pRel at hr; omega) k
  · obtain ⟨si, a, b⟩ := hh i hi
    have l9 : ((x + 1) % 9 + 9 - min (n + 1) 8 + i) % 9 < 9 := Nat.mod_lt _ (by omega)
    refine ⟨si, a, ?_⟩
    generalize ((x + 1) % 9 + 9 - min (n + 1) 8 + i) % 9 = z at l9 b ⊢
    have e2 : pL (puC Mk 1 c' l') (63 + 20 * z) = pL Mk (63 + 20 * z) := congrFun (ol _ (by omega)) 8
    rw [e2]
    exact pOk_cc b fun p k hr => congrFun (o _ (by omega)) k
  · have := puC_o Mk 1 c' l' (a := 0) (by omega) k
    exact this.trans (congrFun (k1 0 (by omega) (by omega)) k)
  · rw [o a (by omega), k1 a (by omega) (by omega)]
  · rw [ol 41 (by omega), k2 41 (by omega)]
  · rw [o a (by omega), k1 a (by omega) (by omega)]
/-! ===== one call on both sides ===== -/
theorem pCall {B : Nat} {M : tvM} {s : Nat → Nat} {x n : Nat} {ρ : tvM → Int32} {cf : tvM → Int32 × tvM} {hear : tvM → tvM} {mf : tvM → Int32 × tvM} {mq : tvM → Prop} {ex : List (Int32 × Nat)} (hJ : pJs B M M s x n) (hr : pJr B M M) (hB : B + 240 ≤ 10000000) (h : pSim B (pV M 1) (pL M 1) s 1 ρ cf hear mf mq ex) (hex : ∀ p ∈ ex, p.1 ≠ 0 ∧ p.1 ≠ 4 ∧ ∀ q ∈ ex, p.1 = q.1 → p = q) :
    (ρ M = 0 ∧ ∃ (v : Nat) (M1 : tvM), v < 65536 ∧ cf (f_X1_keep M) = (nI v, M1) ∧ pMr M M1 ∧ M1.2.2 = M.2.2 ∧ ∀ M', pMr M1 M' → mq (f_X9_keeps M') ∧ ∃ K M2 : tvM, mf (f_X9_keeps M') = (nI v, K) ∧ tgi K 249 5 = 0 ∧ q_X9_remembers K ∧ f_X9_remembers K = M2 ∧ tgi M2 249 5 = 0 ∧ pAft (B + 240) M1 M' M2) ∨
    (∃ p ∈ ex, ρ M = p.1 ∧ ∀ M', pMr M M' → mq (f_X9_keeps M') ∧ ∃ M2 : tvM, mf (f_X9_keeps M') = (nI 0, M2) ∧ tgi M2 249 5 = nI p.2 ∧ pAft (B + 240) M M' M2) ∨
    (ρ M = 4 ∧ ∃ M1 : tvM, hear (f_X1_keep M) = M1 ∧ pMr M M1 ∧ M1.2.2 = M.2.2 ∧ ∀ M', pMr M1 M' → mq (f_X9_keeps M') ∧ ∃ K M2 : tvM, mf (f_X9_keeps M') = (nI 0, K) ∧ tgi K 249 5 = 4 ∧ q_X9_remembers K ∧ f_X9_remembers K = M2 ∧ tgi M2 249 5 = 4 ∧ pAft (B + 240) M1 M' M2) := by
  have hJ0 := hJ
  obtain ⟨h1, h2, ⟨hx, hn, h5, h6, h7⟩, h8⟩ := hJ
  obtain ⟨hk, hk1, hk2⟩ := pKeep h5 h6 hx hn
  have hkk := hk
  obtain ⟨k1, k2, k3, k4, k5⟩ := hk
  have e0 : puC M 1 (pV M 1) (pL M 1) = M := puC_self M 1
  have e1 : puC (f_X1_keep M) 1 (pV M 1) (pL M 1) = f_X1_keep M := by
    have e : pV (f_X1_keep M) 1 = pV M 1 ∨ True := Or.inr trivial
    refine Prod.ext ?_ (Prod.ext ?_ rfl)
    · funext a k
      show (if 1 ≤ a ∧ a < 1 + 20 then M.1 (1 + (a - 1)) k else (f_X1_keep M).1 a k) = (f_X1_keep M).1 a k
      by_cases q : 1 ≤ a ∧ a < 1 + 20
      · rw [if_pos q, show 1 + (a - 1) = a by omega, k1 a (by omega) (by omega)]
      · rw [if_neg q]
    · funext a
      show tvU (f_X1_keep M).2.1 1 8 (M.2.1 1 8) a = (f_X1_keep M).2.1 a
      by_cases q : a = 1
      · rw [q]
        funext k
        rw [tvU_row]
        by_cases q2 : k = 8
        · rw [if_pos q2, q2, k2 1 (by omega)]
        · rw [if_neg q2]
      · rw [tvU_ne _ _ _ q]
  have g1 : ∀ (c' : Nat → Nat → Int32) (l' : Int64), pMr M (puC (f_X1_keep M) 1 c' l') := fun c' l' a ha hb => by
    rw [← k1 a (by omega) (by omega)]
    exact funext fun k => puC_o _ 1 c' l' (by omega) k
  -- the model's half, for a memory that looks the same
  have gm : ∀ (M' : tvM), pMr M M' → f_X9_keeps M' = puN (pCp M' 250 0 251 0 202) s (nI 0) := fun M' e => pKeeps fun k => by rw [e 250 (by omega) (by omega)]; exact h1 k
  have o : ∀ (M' : tvM) (s' : Nat → Nat) (t : Int32) a, a ≠ 250 → a ≠ 251 → a ≠ 249 → (puN (pCp M' 250 0 251 0 202) s' t).1 a = M'.1 a := fun M' s' t a q1 q2 q3 => funext fun k => (puN_o _ s' t q1 (by omega)).trans (pCp_o M' (by omega))
  have o9 : ∀ (M' : tvM) (s' : Nat → Nat) (t : Int32) k, k ≠ 5 → (puN (pCp M' 250 0 251 0 202) s' t).1 249 k = M'.1 249 k := fun M' s' t k q => (puN_o _ s' t (by omega) (by omega)).trans (pCp_o M' (by omega))
  have o1 : ∀ (M' : tvM) (s' : Nat → Nat) (t : Int32) k, k < 202 → (puN (pCp M' 250 0 251 0 202) s' t).1 251 k = M'.1 250 k := fun M' s' t k q => (puN_o _ s' t (by omega) (by omega)).trans ((pCp_i M' (by omega) (by omega)).trans (by rw [show 0 + (k - 0) = k by omega]))
  -- remembered
  have rem : ∀ (M' : tvM) (s' : Nat → Nat) (t : Nat) (c' : Nat → Nat → Int32) (l' : Int64), pMr M M' → pOk (B + 240) c' l' s' → q_X9_remembers (puN (pCp M' 250 0 251 0 202) s' (nI t)) ∧ ∃ M2 : tvM, f_X9_remembers (puN (pCp M' 250 0 251 0 202) s' (nI t)) = M2 ∧ tgi M2 249 5 = nI t ∧ pAft (B + 240) (puC (f_X1_keep M) 1 c' l') M' M2 := by
    intro M' s' t c' l' e hR
    obtain ⟨r1, M4, r2, r3, r4, r5, r6, r7, r8⟩ := pRemember (M := puN (pCp M' 250 0 251 0 202) s' (nI t)) (n := n) (by rw [o9 _ _ _ _ (by omega), e 249 (by omega) (by omega)]; exact h7) hn
    refine ⟨r1, M4, r2, ?_, ?_, ?_, ?_⟩
    · exact (r5 5 (by omega)).trans (puN_t _ _ _)
    · rw [r3]; rfl
    · intro a ha
      rw [r4 a (by omega) (by omega), o _ _ _ _ (by omega) (by omega) (by omega)]
    · refine pJ_keep hB (pJs_m hJ0 e) (pJr_m (by omega) hr e) hkk hk1 hk2 hR (fun k => ?_) (fun a ha => ?_) (fun k q1 q2 => ?_) r6 (fun k hk => ?_) (fun i k hi hk => ?_)
      · rw [r4 250 (by omega) (by omega)]; exact puN_g _ _ _ k
      · rw [r4 a (by omega) (by omega), o _ _ _ _ (by omega) (by omega) (by omega)]
      · rw [r5 k (by omega), o9 _ _ _ _ (by omega)]
      · rw [r7 k hk, o1 _ _ _ _ hk, e 250 (by omega) (by omega)]; exact h1 k
      · rw [r8 i k hi hk, o _ _ _ _ (by omega) (by omega) (by omega)]
  have h' : ∀ M' : tvM, pMr M M' → _ := fun M' e => h M (f_X1_keep M) (pCp M' 250 0 251 0 202) 0
  rw [e0, e1] at h'
  rcases h' M (pMr.refl M) with ⟨a1, v, c', l', s', a2, a3, _, _, a6⟩ | ⟨p, hp, a1, _⟩ | ⟨a1, c', l', s', a3, _, _, a6⟩
  · refine Or.inl ⟨a1, v, _, a2, a3, g1 c' l', k3, fun M' e => ?_⟩
    have eM : pMr M M' := (g1 c' l').trans e
    rw [gm M' eM]
    rcases h' M' eM with ⟨_, v2, c2, l2, s2, b2, b3, b4, b5, b6⟩ | ⟨p, hp, b1, _⟩ | ⟨b1, _⟩
    · have ev : nI v = nI v2 := (congrArg Prod.fst a3).symm.trans (congrArg Prod.fst b3)
      have eM1 : puC (f_X1_keep M) 1 c' l' = puC (f_X1_keep M) 1 c2 l2 := (congrArg Prod.snd a3).symm.trans (congrArg Prod.snd b3)
      obtain ⟨r1, M2, r2, r3, r4⟩ := rem M' s2 0 c2 l2 eM b6
      rw [eM1, ev]
      exact ⟨b4, _, M2, b5, puN_t _ _ _, r1, r2, r3, r4⟩
    · exact absurd (a1.symm.trans b1).symm (hex p hp).1
    · exact absurd (a1.symm.trans b1) (by decide)
  · refine Or.inr (Or.inl ⟨p, hp, a1, fun M' e => ?_⟩)
    rw [gm M' e]
    rcases h' M' e with ⟨b1, _⟩ | ⟨p2, hp2, b1, b4, b5⟩ | ⟨b1, _⟩
    · exact absurd (a1.symm.trans b1) (hex p hp).1
    · have ep : p = p2 := (hex p hp).2.2 p2 hp2 (a1.symm.trans b1)
      rw [← ep] at b5
      refine ⟨b4, _, b5, puN_t _ _ _, rfl, fun a ha => o _ _ _ _ (by omega) (by omega) (by omega), s, x, n, ⟨fun k => puN_g _ _ _ k, h2.up (by omega) hB, ⟨hx, hn, h5, h6, ?_⟩, ?_⟩, pJr_c (pJr_m (by omega) hr e) (by omega) hB (fun _ _ _ => rfl) (fun _ _ _ => rfl) rfl (fun _ _ _ => rfl) (fun k q1 q2 => o9 _ _ _ _ (by omega)) (fun a ha => o _ _ _ _ (by omega) (by omega) (by omega))⟩
      · rw [o9 _ _ _ _ (by omega), e 249 (by omega) (by omega)]; exact h7
      · exact (pHist_m h8 (by rw [o _ _ _ _ (by omega) (by omega) (by omega), e 253 (by omega) (by omega)])).up (by omega) hB
    · exact absurd (a1.symm.trans b1) (hex p hp).2.1
  · refine Or.inr (Or.inr ⟨a1, _, a3, g1 c' l', k3, fun M' e => ?_⟩)
    have eM : pMr M M' := (g1 c' l').trans e
    rw [gm M' eM]
    rcases h' M' eM with ⟨b1, _⟩ | ⟨p, hp, b1, _⟩ | ⟨_, c2, l2, s2, b3, b4, b5, b6⟩
    · exact absurd (a1.symm.trans b1) (by decide)
    · exact absurd (a1.symm.trans b1).symm (hex p hp).2.1
    · have eM1 : puC (f_X1_keep M) 1 c' l' = puC (f_X1_keep M) 1 c2 l2 := a3.symm.trans b3
      obtain ⟨r1, M2, r2, r3, r4⟩ := rem M' s2 4 c2 l2 eM b6
      rw [eM1]
      exact ⟨b4, _, M2, b5, puN_t _ _ _, r1, r2, r3, r4⟩

