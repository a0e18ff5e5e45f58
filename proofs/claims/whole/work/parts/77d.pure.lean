/-- a program that is carried out to its end -/
theorem pRun_yes {B : Nat} {M Me Mb K N N' M4 : tvM} {c' : Nat → Nat → Int32} {l' : Int64} {s s' : Nat → Nat} {x n m : Nat} {v : Int64} (hB : B + 240 * m + 240 ≤ 10000000) (hJ : pJs B M M s x n) (hr : pJr B M M)
  (oe : ∀ a, a ≠ 243 → a ≠ 245 → a ≠ 246 → Me.1 a = M.1 a) (oe1 : Me.1 243 1 = 0) (oel : Me.2 = M.2) (kb : pKp Me Mb x)
  (hK : K = tpl (puC (tpi (tpi Mb 61 1 (nI ((x + 1) % 9))) 61 2 (nI (min (n + 1) 8))) 1 c' l') 257 0 v) (hR : pOk (B + 240 * m) c' l' s')
  (n1 : ∀ a, a < 249 → N.1 a = K.1 a) (n2 : N.2 = K.2) (n3 : ∀ a, 252 ≤ a ∧ a ≤ 255 → N.1 a = M.1 a) (n4 : ∀ j, j < 202 → N.1 251 j = nI (s j)) (n5 : ∀ j, j ≤ 14 → j ≠ 5 → N.1 249 j = M.1 249 j) (n6 : N.1 249 15 = 0)
  (hx : pNx N N') (r3 : M4.2 = (puN N' s' (nI 0)).2) (r4 : ∀ a, a ≠ 253 → a ≠ 249 → M4.1 a = (puN N' s' (nI 0)).1 a) (r5 : ∀ k, k ≠ 4 → M4.1 249 k = (puN N' s' (nI 0)).1 249 k) (r6 : M4.1 249 4 = nI (min (n + 1) 8)) (r7 : ∀ k, k < 202 → M4.1 253 (202 * (min (n + 1) 8 - 1) + k) = (puN N' s' (nI 0)).1 251 k) (r8 : ∀ i k, i + 1 < min (n + 1) 8 → k < 202 → M4.1 253 (202 * i + k) = (puN N' s' (nI 0)).1 253 (202 * (if n = 8 then i + 1 else i) + k)) : pJ (B + 240 * m + 240) M4 M4 := by
  have hJ0 := hJ
  obtain ⟨h1, h2, ⟨hx9, hn, h5, h6, h7⟩, h8⟩ := hJ
  obtain ⟨k1, k2, k3, k4, k5⟩ := kb
  have po : ∀ (σ : Nat → Nat) a, a ≠ 249 → a ≠ 250 → (puN N' σ (nI 0)).1 a = N.1 a := fun σ a q1 q2 => funext fun j => (show (puN N' σ (nI 0)).1 a j = N'.1 a j from puN_o _ _ _ q2 (by omega)).trans (hx.1 a j (by omega))
  have p9 : ∀ (σ : Nat → Nat) j, j ≠ 5 → (puN N' σ (nI 0)).1 249 j = N'.1 249 j := fun σ j q => puN_o _ _ _ (by omega) (by omega)
  have p9n : ∀ (σ : Nat → Nat) j, j ≠ 5 → j ≠ 8 → (puN N' σ (nI 0)).1 249 j = N.1 249 j := fun σ j q q2 => (p9 σ j q).trans (hx.1 249 j (by omega))
  obtain ⟨Mk, hMk⟩ : ∃ z, z = tpi (tpi Mb 61 1 (nI ((x + 1) % 9))) 61 2 (nI (min (n + 1) 8)) := ⟨_, rfl⟩
  rw [← hMk] at hK
  have mk1 : ∀ a, a ≠ 61 → Mk.1 a = Mb.1 a := fun a q => funext fun j => by rw [hMk, tpi_o _ _ j q, tpi_o _ _ j q]
  have mk2 : Mk.2 = Mb.2 := by rw [hMk]; rfl
  have mk61 : Mk.1 61 1 = nI ((x + 1) % 9) := by
    rw [hMk, tpi_k _ _ _ (by omega)]
    exact tpi_s _ _ _ _
  have mk62 : Mk.1 61 2 = nI (min (n + 1) 8) := by
    rw [hMk]
    exact tpi_s _ _ _ _
  clear hMk
  have hkk : pKp Me Mk x := by
    refine ⟨fun a q1 q2 => (mk1 a q1).trans (k1 a q1 q2), fun a q => ?_, ?_, fun p k hp => ?_, ?_⟩
    · rw [mk2]; exact k2 a q
    · rw [mk2]; exact k3
    · rw [mk1 _ (by omega)]; exact k4 p k hp
    · show Mk.2.1 (63 + 20 * x) 8 = _
      rw [mk2]; exact k5
  have hs : pJs B Me (puN N' s (nI 0)) s x n := pJs_c hJ0 (fun a k q1 q2 => by rw [oe a (by omega) (by omega) (by omega)]) (fun a _ => by rw [oel]) (fun k => (show (puN N' s (nI 0)).1 250 k = nI (s k) from puN_g _ _ _ _).trans (h1 k).symm) (fun k => by rw [po s 253 (by omega) (by omega), n3 253 (by omega)]) (by rw [p9n s 4 (by omega) (by omega), n5 4 (by omega) (by omega)])
  have hv : pSav B Me (puN N' s (nI 0)) := pSav_c hr.1 (by rw [oe 0 (by omega) (by omega) (by omega)]) (fun a j q1 q2 => by rw [oe a (by omega) (by omega) (by omega)]) (by rw [oel]) (by rw [p9n s 9 (by omega) (by omega), n5 9 (by omega) (by omega)]) (fun j => by rw [po s 252 (by omega) (by omega), n3 252 (by omega)])
  have hli : pLin Me (puN N' s (nI 0)) := pLin_c hr.2.2.2 (by rw [oe 247 (by omega) (by omega) (by omega)]) (fun j => by rw [oe 248 (by omega) (by omega) (by omega)]) (by rw [p9n s 12 (by omega) (by omega), n5 12 (by omega) (by omega)]) (fun j => by rw [po s 254 (by omega) (by omega), n3 254 (by omega)])
  have he : pErr Me (puN N' s (nI 0)) := pErr_c hr.2.1 (fun j _ _ => by rw [oe 0 (by omega) (by omega) (by omega)]) (by rw [p9n s 6 (by omega) (by omega), n5 6 (by omega) (by omega)]) (by rw [p9n s 7 (by omega) (by omega), n5 7 (by omega) (by omega)]) (by rw [p9n s 10 (by omega) (by omega), n5 10 (by omega) (by omega)])
  have ht : pTxt Me (puN N' s (nI 0)) := ⟨0, by omega, oe1, (p9n s 15 (by omega) (by omega)).trans n6, fun j hj => absurd hj (by omega)⟩
  have hr0 : pJr B Me (puN N' s (nI 0)) := ⟨hv, he, ht, hli⟩
  have hr1 : pJr (B + 240 * m) Me (puN N' s (nI 0)) := pJr_c hr0 (by omega) (by omega) (fun _ _ _ => rfl) (fun _ _ _ => rfl) rfl (fun _ _ _ => rfl) (fun _ _ _ => rfl) (fun _ _ => rfl)
  have hs1 : pJs (B + 240 * m) Me (puN N' s (nI 0)) s x n := by
    obtain ⟨a, b, c, d⟩ := hs
    exact ⟨a, b.up (by omega) (by omega), c, d.up (by omega) (by omega)⟩
  have hj : pJ (B + 240 * m + 240) (puC Mk 1 c' l') M4 := by
    refine pJ_keep hB hs1 hr1 hkk mk61 mk62 (hR.up (by omega) hB) (fun k => ?_) (fun a q => ?_) (fun k q1 q2 => ?_) r6 (fun k hk => ?_) (fun i k hi hk => ?_)
    · rw [r4 250 (by omega) (by omega)]; exact puN_g _ _ _ _
    · rw [r4 a (by omega) (by omega), po s' a (by omega) (by omega), po s a (by omega) (by omega)]
    · rw [r5 k (by omega), p9 s' k (by omega), p9 s k (by omega)]
    · rw [r7 k hk, po s' 251 (by omega) (by omega)]; exact n4 k hk
    · rw [r8 i k hi hk, po s' 253 (by omega) (by omega), po s 253 (by omega) (by omega)]
  refine pAft.fin hB (M1 := puC Mk 1 c' l') (M' := K) ⟨?_, fun a q => ?_, hj⟩ ⟨fun a q => ?_, fun a q => ?_⟩
  · rw [r3]
    exact hx.2.trans n2
  · rw [r4 a (by omega) (by omega), po s' a (by omega) (by omega), n1 a q]
  · rw [hK]; rfl
  · rw [hK]
    exact tvU_ne _ _ _ (by omega)

