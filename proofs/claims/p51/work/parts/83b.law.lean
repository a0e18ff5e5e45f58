theorem w_well_P {E : tvE} {B : Nat} {M : tvM} {s : Nat → Nat} (C : tvC E RL cL_isWell 8 (some .boolean) 9 2000 12000 []) (hR : pOk B (pV M 1) (pL M 1) s) {b t : Nat} {c u : Int32} (hb : b < s 10) {k0 l0 : Nat} (nx : ∀ k sl : Nat, k ≤ k0 → sl ≤ l0 → tv_W E (tvPX []) k sl M 56 [some (.ref (E.G.2.1 + 0)), some (.long (lN (t + psm (fun j => s (36 + 13 * b + (8 + j))) (s (36 + 13 * b + 7))))), none, some (.int (nI b)), some (.int c), some (.int u), none, none] []) (hk0 : k0 ≤ 1990) (hl0 : l0 ≤ 11990) : ∀ j i : Nat, i + j = s (36 + 13 * b + 7) → ∀ k sl : Nat, k + 3 * j + 1 ≤ k0 → sl + 18 * j + 6 ≤ l0 → tv_W E (tvPX []) k sl M 29 [some (.ref (E.G.2.1 + 0)), some (.long (lN (t + psm (fun j => s (36 + 13 * b + (8 + j))) i))), none, some (.int (nI b)), some (.int c), some (.int u), some (.int (nI i)), none] [] := by
  have hs := hR.1.2.1
  have s9 := hs.2.2.2.2.2.2.2.1
  have s10 := hs.2.2.2.2.2.2.2.2.1
  have s11 := hs.2.2.2.2.2.2.2.2.2.1
  have h5 : s (36 + 13 * b + 7) ≤ 5 := (hR.1.2.2.2.1 b (by omega)).2.2.2.2.1
  intro j
  induction j with
  | zero =>
    intro i hi k sl hk hl
    obtain rfl : i = s (36 + 13 * b + 7) := by omega
    refine tv_iload C dk_L_isWell_29 rfl ?_
    refine tv_aload_n C dk_L_isWell_31 rfl ?_
    refine tv_iload_n C dk_L_isWell_32 rfl ?_
    refine tx_cV (b := 0) (As := [.int (nI b)]) C dk_L_isWell_33 ml_RL_206 yk_X8_pearls yi_X8_pearls (fun w => tvRx' (m_X8_pearls _ M _) (q_pearls' hR hb)) (by decide) rfl rfl rfl rfl (Nat.le_of_ble_eq_true rfl) (Nat.le_of_ble_eq_true rfl) (Nat.le_of_ble_eq_true rfl) (by omega) (by omega) rfl rfl rfl ?_
    refine tv_icmp_ge C dk_L_isWell_36 (fun _ => ?_) (fun h => absurd ((pn_le (by omega) (by omega)).2 (by omega)) h)
    refine tv_drop (L2 := [some (.ref (E.G.2.1 + 0)), some (.long (lN (t + psm (fun j => s (36 + 13 * b + (8 + j))) (s (36 + 13 * b + 7))))), none, some (.int (nI b)), some (.int c), some (.int u), none, none]) (by simp [tvSubL]) ?_
    exact nx _ _ (by omega) (by omega)
  | succ j ih =>
    intro i hi k sl hk hl
    refine tv_iload C dk_L_isWell_29 rfl ?_
    refine tv_aload_n C dk_L_isWell_31 rfl ?_
    refine tv_iload_n C dk_L_isWell_32 rfl ?_
    refine tx_cV (b := 0) (As := [.int (nI b)]) C dk_L_isWell_33 ml_RL_206 yk_X8_pearls yi_X8_pearls (fun w => tvRx' (m_X8_pearls _ M _) (q_pearls' hR hb)) (by decide) rfl rfl rfl rfl (Nat.le_of_ble_eq_true rfl) (Nat.le_of_ble_eq_true rfl) (Nat.le_of_ble_eq_true rfl) (by omega) (by omega) rfl rfl rfl ?_
    refine tv_icmp_ge C dk_L_isWell_36 (fun h => absurd h (fun z => by have := (pn_le (by omega) (by omega)).1 z; omega)) (fun _ => ?_)
    refine tv_lload_n C dk_L_isWell_39 rfl ?_
    refine tv_aload_n C dk_L_isWell_40 rfl ?_
    refine tv_iload_n C dk_L_isWell_41 rfl ?_
    refine tv_iload C dk_L_isWell_42 rfl ?_
    refine tx_cV (b := 0) (As := [.int (nI b), .int (nI i)]) C dk_L_isWell_44 ml_RL_209 yk_X8_pearl yi_X8_pearl (fun w => tvRx' (m_X8_pearl _ M _ _) (q_pearl' hR hb (j := i) (by omega))) (by decide) rfl rfl rfl rfl (Nat.le_of_ble_eq_true rfl) (Nat.le_of_ble_eq_true rfl) (Nat.le_of_ble_eq_true rfl) (by omega) (by omega) rfl rfl rfl ?_
    refine tv_i2l C dk_L_isWell_47 ?_
    refine tv_tl (v := lN (s (36 + 13 * b + (8 + i)))) (pn_l (hR.1.1 _)) ?_
    refine tv_ladd C dk_L_isWell_48 ?_
    refine tv_tl (v := lN (t + psm (fun j => s (36 + 13 * b + (8 + j))) (i + 1))) ((lN_add _ _).trans (congrArg lN (Nat.add_assoc _ _ _))) ?_
    refine tv_lstore_n (L' := [_, _, _, _, _, _, _, _]) (hn := by decide) (hlt := (Nat.le_of_ble_eq_true rfl)) (hno := rfl) C dk_L_isWell_49 rfl ?_
    refine tv_iinc (v := nI (i + 1)) (L' := [_, _, _, _, _, _, _, _]) (hn := by decide) (hlt := (Nat.le_of_ble_eq_true rfl)) (hno := rfl) C dk_L_isWell_50 rfl (nI_add i 1) rfl ?_
    refine tv_drop (L2 := [some (.ref (E.G.2.1 + 0)), some (.long (lN (t + psm (fun j => s (36 + 13 * b + (8 + j))) (i + 1)))), none, some (.int (nI b)), some (.int c), some (.int u), some (.int (nI (i + 1))), none]) (by simp [tvSubL]) ?_
    refine tv_goto C dk_L_isWell_53 ?_
    exact ih (i + 1) (by omega) _ _ (by omega) (by omega)
theorem w_well_c {E : tvE} {B : Nat} {M : tvM} {s : Nat → Nat} (C : tvC E RL cL_isWell 8 (some .boolean) 9 2000 12000 []) (hR : pOk B (pV M 1) (pL M 1) s) (hB : B + 3840 ≤ 10000000) (hX : pXi (0, 0) s) {b t : Nat} {u : Int32} (hb : b < s 10) (hu : (s (36 + 13 * b + 3) ≠ 2 ∧ u = -900002) ∨ (s (36 + 13 * b + 3) = 2 ∧ ∃ K, pOpK s b K ∧ u = nI K)) {k sl : Nat} (hk : k + 10 ≤ 2000) (hl : sl + 60 ≤ 12000)
    (nx : ∀ (k1 l1 : Nat) (M1 : tvM), k1 ≤ k + 10 → l1 ≤ sl + 60 → zM M M1 → tv_W E (tvPX []) k1 l1 M1 191 [some (.ref (E.G.2.1 + 0)), some (.long (lN t)), none, some (.int (nI b)), none, none, none, none] []) : tv_W E (tvPX []) k sl M 56 [some (.ref (E.G.2.1 + 0)), some (.long (lN t)), none, some (.int (nI b)), some (.int (pSt (s (36 + 13 * b + 3)))), some (.int u), none, none] [] := by
  have hs := hR.1.2.1
  have s9 := hs.2.2.2.2.2.2.2.1
  have s10 := hs.2.2.2.2.2.2.2.2.1
  have s11 := hs.2.2.2.2.2.2.2.2.2.1
  have hv := hR.1.1
  have h3 := (hR.1.2.2.2.1 b (by omega)).2.1
  have h5 : s (36 + 13 * b + 7) ≤ 5 := (hR.1.2.2.2.1 b (by omega)).2.2.2.2.1
  have hxb := hX.2.1 b (by omega) hb
  rcases (show s (36 + 13 * b + 3) = 0 ∨ s (36 + 13 * b + 3) = 1 ∨ s (36 + 13 * b + 3) = 2 ∨ s (36 + 13 * b + 3) = 3 by omega) with hst | hst | hst | hst
  · skip
    rw [show pSt (s (36 + 13 * b + 3)) = nI 99 from by rw [hst]; rfl]
    obtain rfl : u = -900002 := by
      rcases hu with ⟨_, h⟩ | ⟨h, _⟩
      · exact h
      · omega
    refine tv_iload C dk_L_isWell_56 rfl ?_
    refine tv_bipush (v := nI 104) C dk_L_isWell_58 (by decide) ?_
    refine tv_icmp_ne C dk_L_isWell_60 (fun _ => ?_) (fun h => absurd h (by decide))
    refine tv_iconst (v := nI 0) C dk_L_isWell_67 (by decide) ?_
    refine tv_aload_n C dk_L_isWell_68 rfl ?_
    refine tv_iload_n C dk_L_isWell_69 rfl ?_
    refine tx_cSW (As := [.ref (E.G.2.1 + 0), .int (nI b)]) C dk_L_isWell_70 ml_RL_202 yw_L_firstHolder yi_L_firstHolder (fun w => m_L_firstHolder _ M _ (Or.inr ⟨("java/util/NoSuchElementException", -900002), by simp, q_firstHolder0' hR hb (by omega), rfl⟩)) rfl rfl (Nat.le_of_ble_eq_true rfl) (Nat.le_of_ble_eq_true rfl) (Nat.le_of_ble_eq_true rfl) (by omega) (by omega) rfl rfl rfl ?_
    refine tv_if_lt C dk_L_isWell_73 (fun _ => ?_) (fun h => absurd (by decide) h)
    refine tv_iconst (v := nI 0) C dk_L_isWell_80 (by decide) ?_
    refine tv_icmp_ne C dk_L_isWell_81 (fun h => absurd rfl h) (fun _ => ?_)
    refine tv_iload C dk_L_isWell_84 rfl ?_
    refine tv_bipush (v := nI 112) C dk_L_isWell_86 (by decide) ?_
    refine tv_icmp_ne C dk_L_isWell_88 (fun _ => ?_) (fun h => absurd h (by decide))
    refine tv_iconst (v := nI 0) C dk_L_isWell_95 (by decide) ?_
    refine tv_aload_n C dk_L_isWell_96 rfl ?_
    refine tv_iload_n C dk_L_isWell_97 rfl ?_
    refine tx_cSW (As := [.ref (E.G.2.1 + 0), .int (nI b)]) C dk_L_isWell_98 ml_RL_204 yw_L_remainingDelay yi_L_remainingDelay (fun w => m_L_remainingDelay _ M _ (Or.inr ⟨("java/util/NoSuchElementException", -900002), by simp, q_remainingDelay0' hR hb (by omega), rfl⟩)) rfl rfl (Nat.le_of_ble_eq_true rfl) (Nat.le_of_ble_eq_true rfl) (Nat.le_of_ble_eq_true rfl) (by omega) (by omega) rfl rfl rfl ?_
    refine tv_if_lt C dk_L_isWell_101 (fun _ => ?_) (fun h => absurd (by decide) h)
    refine tv_iconst (v := nI 0) C dk_L_isWell_108 (by decide) ?_
    refine tv_icmp_ne C dk_L_isWell_109 (fun h => absurd rfl h) (fun _ => ?_)
    refine tv_iload C dk_L_isWell_112 rfl ?_
    refine tv_bipush (v := nI 112) C dk_L_isWell_114 (by decide) ?_
    refine tv_icmp_ne C dk_L_isWell_116 (fun _ => ?_) (fun h => absurd h (by decide))
    refine tv_iconst (v := nI 0) C dk_L_isWell_123 (by decide) ?_
    refine tv_iload C dk_L_isWell_124 rfl ?_
    refine tv_iconst (v := nI 1) C dk_L_isWell_126 (by decide) ?_
    refine tv_icmp_lt C dk_L_isWell_127 (fun _ => ?_) (fun h => absurd (by decide) h)
    refine tv_iconst (v := nI 0) C dk_L_isWell_134 (by decide) ?_
    refine tv_icmp_ne C dk_L_isWell_135 (fun h => absurd rfl h) (fun _ => ?_)
    refine tv_iload C dk_L_isWell_138 rfl ?_
    refine tv_aload_n C dk_L_isWell_140 rfl ?_
    refine tv_iload_n C dk_L_isWell_141 rfl ?_
    refine tx_cSW (As := [.ref (E.G.2.1 + 0), .int (nI b)]) C dk_L_isWell_142 ml_RL_223 yw_L_minutesUntilOpenBySimulation yi_L_minutesUntilOpenBySimulation (fun w => m_L_minutesUntilOpenBySimulation _ M _ (Or.inr ⟨("java/util/NoSuchElementException", -900002), by simp, (q_until0' hR hb (by omega)).2, rfl⟩)) rfl rfl (Nat.le_of_ble_eq_true rfl) (Nat.le_of_ble_eq_true rfl) (Nat.le_of_ble_eq_true rfl) (by omega) (by omega) rfl rfl rfl ?_
    refine tv_icmp_ne C dk_L_isWell_145 (fun h => absurd rfl h) (fun _ => ?_)
    refine tv_aload_n C dk_L_isWell_148 rfl ?_
    refine tv_iload_n C dk_L_isWell_149 rfl ?_
    refine tx_cV (b := 0) (As := [.int (nI b)]) C dk_L_isWell_150 ml_RL_206 yk_X8_pearls yi_X8_pearls (fun w => tvRx' (m_X8_pearls _ _ _) (q_pearls' hR hb)) (by decide) rfl rfl rfl rfl (Nat.le_of_ble_eq_true rfl) (Nat.le_of_ble_eq_true rfl) (Nat.le_of_ble_eq_true rfl) (by omega) (by omega) rfl rfl rfl ?_
    refine tv_iconst (v := nI 5) C dk_L_isWell_153 (by decide) ?_
    refine tv_icmp_le C dk_L_isWell_154 (fun _ => ?_) (fun h => absurd ((pn_le (hv _) (by omega)).2 h5) h)
    refine tv_iload C dk_L_isWell_159 rfl ?_
    refine tv_bipush (v := nI 104) C dk_L_isWell_161 (by decide) ?_
    refine tv_icmp_ne C dk_L_isWell_163 (fun _ => ?_) (fun h => absurd h (by decide))
    refine tv_drop (L2 := [some (.ref (E.G.2.1 + 0)), some (.long (lN t)), none, some (.int (nI b)), none, none, none, none]) (by simp [tvSubL]) ?_
    exact nx _ _ _ (by omega) (by omega) (zM_rf M)
  · skip
    rw [show pSt (s (36 + 13 * b + 3)) = nI 104 from by rw [hst]; rfl]
    obtain rfl : u = -900002 := by
      rcases hu with ⟨_, h⟩ | ⟨h, _⟩
      · exact h
      · omega
    refine tv_iload C dk_L_isWell_56 rfl ?_
    refine tv_bipush (v := nI 104) C dk_L_isWell_58 (by decide) ?_
    refine tv_icmp_ne C dk_L_isWell_60 (fun h => absurd rfl h) (fun _ => ?_)
    refine tv_iconst (v := nI 1) C dk_L_isWell_63 (by decide) ?_
    refine tv_goto C dk_L_isWell_64 ?_
    refine tv_aload_n C dk_L_isWell_68 rfl ?_
    refine tv_iload_n C dk_L_isWell_69 rfl ?_
    refine tx_cSW (As := [.ref (E.G.2.1 + 0), .int (nI b)]) C dk_L_isWell_70 ml_RL_202 yw_L_firstHolder yi_L_firstHolder (fun w => m_L_firstHolder _ M _ (Or.inl (q_firstHolder' hR hb hst))) rfl rfl (Nat.le_of_ble_eq_true rfl) (Nat.le_of_ble_eq_true rfl) (Nat.le_of_ble_eq_true rfl) (by omega) (by omega) rfl rfl rfl ?_
    refine tv_if_lt C dk_L_isWell_73 (fun h => absurd h (pn_neg (hv _))) (fun _ => ?_)
    refine tv_iconst (v := nI 1) C dk_L_isWell_76 (by decide) ?_
    refine tv_goto C dk_L_isWell_77 ?_
    refine tv_icmp_ne C dk_L_isWell_81 (fun h => absurd rfl h) (fun _ => ?_)
    refine tv_iload C dk_L_isWell_84 rfl ?_
    refine tv_bipush (v := nI 112) C dk_L_isWell_86 (by decide) ?_
    refine tv_icmp_ne C dk_L_isWell_88 (fun _ => ?_) (fun h => absurd h (by decide))
    refine tv_iconst (v := nI 0) C dk_L_isWell_95 (by decide) ?_
    refine tv_aload_n C dk_L_isWell_96 rfl ?_
    refine tv_iload_n C dk_L_isWell_97 rfl ?_
    refine tx_cSW (As := [.ref (E.G.2.1 + 0), .int (nI b)]) C dk_L_isWell_98 ml_RL_204 yw_L_remainingDelay yi_L_remainingDelay (fun w => m_L_remainingDelay _ M _ (Or.inr ⟨("java/util/NoSuchElementException", -900002), by simp, q_remainingDelay0' hR hb (by omega), rfl⟩)) rfl rfl (Nat.le_of_ble_eq_true rfl) (Nat.le_of_ble_eq_true rfl) (Nat.le_of_ble_eq_true rfl) (by omega) (by omega) rfl rfl rfl ?_
    refine tv_if_lt C dk_L_isWell_101 (fun _ => ?_) (fun h => absurd (by decide) h)
    refine tv_iconst (v := nI 0) C dk_L_isWell_108 (by decide) ?_
    refine tv_icmp_ne C dk_L_isWell_109 (fun h => absurd rfl h) (fun _ => ?_)
    refine tv_iload C dk_L_isWell_112 rfl ?_
    refine tv_bipush (v := nI 112) C dk_L_isWell_114 (by decide) ?_
    refine tv_icmp_ne C dk_L_isWell_116 (fun _ => ?_) (fun h => absurd h (by decide))
    refine tv_iconst (v := nI 0) C dk_L_isWell_123 (by decide) ?_
    refine tv_iload C dk_L_isWell_124 rfl ?_
    refine tv_iconst (v := nI 1) C dk_L_isWell_126 (by decide) ?_
    refine tv_icmp_lt C dk_L_isWell_127 (fun _ => ?_) (fun h => absurd (by decide) h)
    refine tv_iconst (v := nI 0) C dk_L_isWell_134 (by decide) ?_
    refine tv_icmp_ne C dk_L_isWell_135 (fun h => absurd rfl h) (fun _ => ?_)
    refine tv_iload C dk_L_isWell_138 rfl ?_
    refine tv_aload_n C dk_L_isWell_140 rfl ?_
    refine tv_iload_n C dk_L_isWell_141 rfl ?_
    refine tx_cSW (As := [.ref (E.G.2.1 + 0), .int (nI b)]) C dk_L_isWell_142 ml_RL_223 yw_L_minutesUntilOpenBySimulation yi_L_minutesUntilOpenBySimulation (fun w => m_L_minutesUntilOpenBySimulation _ M _ (Or.inr ⟨("java/util/NoSuchElementException", -900002), by simp, (q_until0' hR hb (by omega)).2, rfl⟩)) rfl rfl (Nat.le_of_ble_eq_true rfl) (Nat.le_of_ble_eq_true rfl) (Nat.le_of_ble_eq_true rfl) (by omega) (by omega) rfl rfl rfl ?_
    refine tv_icmp_ne C dk_L_isWell_145 (fun h => absurd rfl h) (fun _ => ?_)
    refine tv_aload_n C dk_L_isWell_148 rfl ?_
    refine tv_iload_n C dk_L_isWell_149 rfl ?_
    refine tx_cV (b := 0) (As := [.int (nI b)]) C dk_L_isWell_150 ml_RL_206 yk_X8_pearls yi_X8_pearls (fun w => tvRx' (m_X8_pearls _ _ _) (q_pearls' hR hb)) (by decide) rfl rfl rfl rfl (Nat.le_of_ble_eq_true rfl) (Nat.le_of_ble_eq_true rfl) (Nat.le_of_ble_eq_true rfl) (by omega) (by omega) rfl rfl rfl ?_
    refine tv_iconst (v := nI 5) C dk_L_isWell_153 (by decide) ?_
    refine tv_icmp_le C dk_L_isWell_154 (fun _ => ?_) (fun h => absurd ((pn_le (hv _) (by omega)).2 h5) h)
    refine tv_iload C dk_L_isWell_159 rfl ?_
    refine tv_bipush (v := nI 104) C dk_L_isWell_161 (by decide) ?_
    refine tv_icmp_ne C dk_L_isWell_163 (fun h => absurd rfl h) (fun _ => ?_)
    refine tv_aload_n C dk_L_isWell_166 rfl ?_
    refine tv_iload_n C dk_L_isWell_167 rfl ?_
    refine tv_aload_n C dk_L_isWell_168 rfl ?_
    refine tv_iload_n C dk_L_isWell_169 rfl ?_
    refine tv_aload_n C dk_L_isWell_170 rfl ?_
    refine tv_iload_n C dk_L_isWell_171 rfl ?_
    refine tx_cV (b := 0) (As := [.int (nI b)]) C dk_L_isWell_172 ml_RL_56 yk_X8_firstHolder yi_X8_firstHolder (fun w => tvRx' (m_X8_firstHolder _ _ _) (q_firstHolder' hR hb hst)) (by decide) rfl rfl rfl rfl (Nat.le_of_ble_eq_true rfl) (Nat.le_of_ble_eq_true rfl) (Nat.le_of_ble_eq_true rfl) (by omega) (by omega) rfl rfl rfl ?_
    rcases hxb.2.2.2 hst with hf | hf
    · skip
      refine tx_cV (b := 0) (As := [.int (nI b), .int (nI (s (36 + 13 * b + 4)))]) C dk_L_isWell_175 ml_RL_225 yk_X8_otherHolder yi_X8_otherHolder (fun w => tvRx' (m_X8_otherHolder _ _ _ _) (q_otherHolder1' hR hb hf.symm)) (by decide) rfl rfl rfl rfl (Nat.le_of_ble_eq_true rfl) (Nat.le_of_ble_eq_true rfl) (Nat.le_of_ble_eq_true rfl) (by omega) (by omega) rfl rfl rfl ?_
      refine tx_cV (b := 0) (As := [.int (nI b), .int (nI (s (36 + 13 * b + 1)))]) C dk_L_isWell_178 ml_RL_225 yk_X8_otherHolder yi_X8_otherHolder (fun w => tvRx' (m_X8_otherHolder _ _ _ _) (q_otherHolder2' hR hb hxb.2.2.1 rfl)) (by decide) rfl rfl rfl rfl (Nat.le_of_ble_eq_true rfl) (Nat.le_of_ble_eq_true rfl) (Nat.le_of_ble_eq_true rfl) (by omega) (by omega) rfl rfl rfl ?_
      refine tv_aload_n C dk_L_isWell_181 rfl ?_
      refine tv_iload_n C dk_L_isWell_182 rfl ?_
      refine tx_cV (b := 0) (As := [.int (nI b)]) C dk_L_isWell_183 ml_RL_56 yk_X8_firstHolder yi_X8_firstHolder (fun w => tvRx' (m_X8_firstHolder _ _ _) (q_firstHolder' hR hb hst)) (by decide) rfl rfl rfl rfl (Nat.le_of_ble_eq_true rfl) (Nat.le_of_ble_eq_true rfl) (Nat.le_of_ble_eq_true rfl) (by omega) (by omega) rfl rfl rfl ?_
      refine tv_icmp_eq C dk_L_isWell_186 (fun _ => ?_) (fun h => absurd (by rw [hf]) h)
      refine tv_drop (L2 := [some (.ref (E.G.2.1 + 0)), some (.long (lN t)), none, some (.int (nI b)), none, none, none, none]) (by simp [tvSubL]) ?_
      exact nx _ _ _ (by omega) (by omega) (zM_rf M)
    · skip
      refine tx_cV (b := 0) (As := [.int (nI b), .int (nI (s (36 + 13 * b + 4)))]) C dk_L_isWell_175 ml_RL_225 yk_X8_otherHolder yi_X8_otherHolder (fun w => tvRx' (m_X8_otherHolder _ _ _ _) (q_otherHolder2' hR hb (fun e => hxb.2.2.1 (e.trans hf)) hf.symm)) (by decide) rfl rfl rfl rfl (Nat.le_of_ble_eq_true rfl) (Nat.le_of_ble_eq_true rfl) (Nat.le_of_ble_eq_true rfl) (by omega) (by omega) rfl rfl rfl ?_
      refine tx_cV (b := 0) (As := [.int (nI b), .int (nI (s (36 + 13 * b + 0)))]) C dk_L_isWell_178 ml_RL_225 yk_X8_otherHolder yi_X8_otherHolder (fun w => tvRx' (m_X8_otherHolder _ _ _ _) (q_otherHolder1' hR hb rfl)) (by decide) rfl rfl rfl rfl (Nat.le_of_ble_eq_true rfl) (Nat.le_of_ble_eq_true rfl) (Nat.le_of_ble_eq_true rfl) (by omega) (by omega) rfl rfl rfl ?_
      refine tv_aload_n C dk_L_isWell_181 rfl ?_
      refine tv_iload_n C dk_L_isWell_182 rfl ?_
      refine tx_cV (b := 0) (As := [.int (nI b)]) C dk_L_isWell_183 ml_RL_56 yk_X8_firstHolder yi_X8_firstHolder (fun w => tvRx' (m_X8_firstHolder _ _ _) (q_firstHolder' hR hb hst)) (by decide) rfl rfl rfl rfl (Nat.le_of_ble_eq_true rfl) (Nat.le_of_ble_eq_true rfl) (Nat.le_of_ble_eq_true rfl) (by omega) (by omega) rfl rfl rfl ?_
      refine tv_icmp_eq C dk_L_isWell_186 (fun _ => ?_) (fun h => absurd (by rw [hf]) h)
      refine tv_drop (L2 := [some (.ref (E.G.2.1 + 0)), some (.long (lN t)), none, some (.int (nI b)), none, none, none, none]) (by simp [tvSubL]) ?_
      exact nx _ _ _ (by omega) (by omega) (zM_rf M)
  · skip
    rw [show pSt (s (36 + 13 * b + 3)) = nI 112 from by rw [hst]; rfl]
    obtain ⟨K, hK, rfl⟩ : ∃ K, pOpK s b K ∧ u = nI K := by
      rcases hu with ⟨h, _⟩ | ⟨_, h⟩
      · exact absurd hst h
      · exact h
    have hK1 : 1 ≤ K := hK.1
    have hK2 : K ≤ 3839 := hK.2.1
    obtain ⟨c', hq⟩ := q_simul hR hB hb hst hK
    refine tv_iload C dk_L_isWell_56 rfl ?_
    refine tv_bipush (v := nI 104) C dk_L_isWell_58 (by decide) ?_
    refine tv_icmp_ne C dk_L_isWell_60 (fun _ => ?_) (fun h => absurd h (by decide))
    refine tv_iconst (v := nI 0) C dk_L_isWell_67 (by decide) ?_
    refine tv_aload_n C dk_L_isWell_68 rfl ?_
    refine tv_iload_n C dk_L_isWell_69 rfl ?_
    refine tx_cSW (As := [.ref (E.G.2.1 + 0), .int (nI b)]) C dk_L_isWell_70 ml_RL_202 yw_L_firstHolder yi_L_firstHolder (fun w => m_L_firstHolder _ M _ (Or.inr ⟨("java/util/NoSuchElementException", -900002), by simp, q_firstHolder0' hR hb (by omega), rfl⟩)) rfl rfl (Nat.le_of_ble_eq_true rfl) (Nat.le_of_ble_eq_true rfl) (Nat.le_of_ble_eq_true rfl) (by omega) (by omega) rfl rfl rfl ?_
    refine tv_if_lt C dk_L_isWell_73 (fun _ => ?_) (fun h => absurd (by decide) h)
    refine tv_iconst (v := nI 0) C dk_L_isWell_80 (by decide) ?_
    refine tv_icmp_ne C dk_L_isWell_81 (fun h => absurd rfl h) (fun _ => ?_)
    refine tv_iload C dk_L_isWell_84 rfl ?_
    refine tv_bipush (v := nI 112) C dk_L_isWell_86 (by decide) ?_
    refine tv_icmp_ne C dk_L_isWell_88 (fun h => absurd rfl h) (fun _ => ?_)
    refine tv_iconst (v := nI 1) C dk_L_isWell_91 (by decide) ?_
    refine tv_goto C dk_L_isWell_92 ?_
    refine tv_aload_n C dk_L_isWell_96 rfl ?_
    refine tv_iload_n C dk_L_isWell_97 rfl ?_
    refine tx_cSW (As := [.ref (E.G.2.1 + 0), .int (nI b)]) C dk_L_isWell_98 ml_RL_204 yw_L_remainingDelay yi_L_remainingDelay (fun w => m_L_remainingDelay _ M _ (Or.inl (q_remainingDelay' hR hb hst))) rfl rfl (Nat.le_of_ble_eq_true rfl) (Nat.le_of_ble_eq_true rfl) (Nat.le_of_ble_eq_true rfl) (by omega) (by omega) rfl rfl rfl ?_
    refine tv_if_lt C dk_L_isWell_101 (fun h => absurd h (pn_neg (hv _))) (fun _ => ?_)
    refine tv_iconst (v := nI 1) C dk_L_isWell_104 (by decide) ?_
    refine tv_goto C dk_L_isWell_105 ?_
    refine tv_icmp_ne C dk_L_isWell_109 (fun h => absurd rfl h) (fun _ => ?_)
    refine tv_iload C dk_L_isWell_112 rfl ?_
    refine tv_bipush (v := nI 112) C dk_L_isWell_114 (by decide) ?_
    refine tv_icmp_ne C dk_L_isWell_116 (fun h => absurd rfl h) (fun _ => ?_)
    refine tv_iconst (v := nI 1) C dk_L_isWell_119 (by decide) ?_
    refine tv_goto C dk_L_isWell_120 ?_
    refine tv_iload C dk_L_isWell_124 rfl ?_
    refine tv_iconst (v := nI 1) C dk_L_isWell_126 (by decide) ?_
    refine tv_icmp_lt C dk_L_isWell_127 (fun h => absurd h (fun h => by have := (pn_lt (a := K) (b := 1) (by omega) (by omega)).1 h; omega)) (fun _ => ?_)
    refine tv_iconst (v := nI 1) C dk_L_isWell_130 (by decide) ?_
    refine tv_goto C dk_L_isWell_131 ?_
    refine tv_icmp_ne C dk_L_isWell_135 (fun h => absurd rfl h) (fun _ => ?_)
    refine tv_iload C dk_L_isWell_138 rfl ?_
    refine tv_aload_n C dk_L_isWell_140 rfl ?_
    refine tv_iload_n C dk_L_isWell_141 rfl ?_
    refine tx_cSW (As := [.ref (E.G.2.1 + 0), .int (nI b)]) C dk_L_isWell_142 ml_RL_223 yw_L_minutesUntilOpenBySimulation yi_L_minutesUntilOpenBySimulation (fun w => m_L_minutesUntilOpenBySimulation _ M _ (Or.inl hq)) rfl rfl (Nat.le_of_ble_eq_true rfl) (Nat.le_of_ble_eq_true rfl) (Nat.le_of_ble_eq_true rfl) (by omega) (by omega) rfl rfl rfl ?_
    have hR1 := (zM_pu M c' (pL M 1)).ok hR
    refine tv_icmp_ne C dk_L_isWell_145 (fun h => absurd rfl h) (fun _ => ?_)
    refine tv_aload_n C dk_L_isWell_148 rfl ?_
    refine tv_iload_n C dk_L_isWell_149 rfl ?_
    refine tx_cV (b := 0) (As := [.int (nI b)]) C dk_L_isWell_150 ml_RL_206 yk_X8_pearls yi_X8_pearls (fun w => tvRx' (m_X8_pearls _ _ _) (q_pearls' hR1 hb)) (by decide) rfl rfl rfl rfl (Nat.le_of_ble_eq_true rfl) (Nat.le_of_ble_eq_true rfl) (Nat.le_of_ble_eq_true rfl) (by omega) (by omega) rfl rfl rfl ?_
    refine tv_iconst (v := nI 5) C dk_L_isWell_153 (by decide) ?_
    refine tv_icmp_le C dk_L_isWell_154 (fun _ => ?_) (fun h => absurd ((pn_le (hv _) (by omega)).2 h5) h)
    refine tv_iload C dk_L_isWell_159 rfl ?_
    refine tv_bipush (v := nI 104) C dk_L_isWell_161 (by decide) ?_
    refine tv_icmp_ne C dk_L_isWell_163 (fun _ => ?_) (fun h => absurd h (by decide))
    refine tv_drop (L2 := [some (.ref (E.G.2.1 + 0)), some (.long (lN t)), none, some (.int (nI b)), none, none, none, none]) (by simp [tvSubL]) ?_
    exact nx _ _ _ (by omega) (by omega) (zM_pu M c' (pL M 1))
  · skip
    rw [show pSt (s (36 + 13 * b + 3)) = nI 111 from by rw [hst]; rfl]
    obtain rfl : u = -900002 := by
      rcases hu with ⟨_, h⟩ | ⟨h, _⟩
      · exact h
      · omega
    refine tv_iload C dk_L_isWell_56 rfl ?_
    refine tv_bipush (v := nI 104) C dk_L_isWell_58 (by decide) ?_
    refine tv_icmp_ne C dk_L_isWell_60 (fun _ => ?_) (fun h => absurd h (by decide))
    refine tv_iconst (v := nI 0) C dk_L_isWell_67 (by decide) ?_
    refine tv_aload_n C dk_L_isWell_68 rfl ?_
    refine tv_iload_n C dk_L_isWell_69 rfl ?_
    refine tx_cSW (As := [.ref (E.G.2.1 + 0), .int (nI b)]) C dk_L_isWell_70 ml_RL_202 yw_L_firstHolder yi_L_firstHolder (fun w => m_L_firstHolder _ M _ (Or.inr ⟨("java/util/NoSuchElementException", -900002), by simp, q_firstHolder0' hR hb (by omega), rfl⟩)) rfl rfl (Nat.le_of_ble_eq_true rfl) (Nat.le_of_ble_eq_true rfl) (Nat.le_of_ble_eq_true rfl) (by omega) (by omega) rfl rfl rfl ?_
    refine tv_if_lt C dk_L_isWell_73 (fun _ => ?_) (fun h => absurd (by decide) h)
    refine tv_iconst (v := nI 0) C dk_L_isWell_80 (by decide) ?_
    refine tv_icmp_ne C dk_L_isWell_81 (fun h => absurd rfl h) (fun _ => ?_)
    refine tv_iload C dk_L_isWell_84 rfl ?_
    refine tv_bipush (v := nI 112) C dk_L_isWell_86 (by decide) ?_
    refine tv_icmp_ne C dk_L_isWell_88 (fun _ => ?_) (fun h => absurd h (by decide))
    refine tv_iconst (v := nI 0) C dk_L_isWell_95 (by decide) ?_
    refine tv_aload_n C dk_L_isWell_96 rfl ?_
    refine tv_iload_n C dk_L_isWell_97 rfl ?_
    refine tx_cSW (As := [.ref (E.G.2.1 + 0), .int (nI b)]) C dk_L_isWell_98 ml_RL_204 yw_L_remainingDelay yi_L_remainingDelay (fun w => m_L_remainingDelay _ M _ (Or.inr ⟨("java/util/NoSuchElementException", -900002), by simp, q_remainingDelay0' hR hb (by omega), rfl⟩)) rfl rfl (Nat.le_of_ble_eq_true rfl) (Nat.le_of_ble_eq_true rfl) (Nat.le_of_ble_eq_true rfl) (by omega) (by omega) rfl rfl rfl ?_
    refine tv_if_lt C dk_L_isWell_101 (fun _ => ?_) (fun h => absurd (by decide) h)
    refine tv_iconst (v := nI 0) C dk_L_isWell_108 (by decide) ?_
    refine tv_icmp_ne C dk_L_isWell_109 (fun h => absurd rfl h) (fun _ => ?_)
    refine tv_iload C dk_L_isWell_112 rfl ?_
    refine tv_bipush (v := nI 112) C dk_L_isWell_114 (by decide) ?_
    refine tv_icmp_ne C dk_L_isWell_116 (fun _ => ?_) (fun h => absurd h (by decide))
    refine tv_iconst (v := nI 0) C dk_L_isWell_123 (by decide) ?_
    refine tv_iload C dk_L_isWell_124 rfl ?_
    refine tv_iconst (v := nI 1) C dk_L_isWell_126 (by decide) ?_
    refine tv_icmp_lt C dk_L_isWell_127 (fun _ => ?_) (fun h => absurd (by decide) h)
    refine tv_iconst (v := nI 0) C dk_L_isWell_134 (by decide) ?_
    refine tv_icmp_ne C dk_L_isWell_135 (fun h => absurd rfl h) (fun _ => ?_)
    refine tv_iload C dk_L_isWell_138 rfl ?_
    refine tv_aload_n C dk_L_isWell_140 rfl ?_
    refine tv_iload_n C dk_L_isWell_141 rfl ?_
    refine tx_cSW (As := [.ref (E.G.2.1 + 0), .int (nI b)]) C dk_L_isWell_142 ml_RL_223 yw_L_minutesUntilOpenBySimulation yi_L_minutesUntilOpenBySimulation (fun w => m_L_minutesUntilOpenBySimulation _ M _ (Or.inr ⟨("java/util/NoSuchElementException", -900002), by simp, (q_until0' hR hb (by omega)).2, rfl⟩)) rfl rfl (Nat.le_of_ble_eq_true rfl) (Nat.le_of_ble_eq_true rfl) (Nat.le_of_ble_eq_true rfl) (by omega) (by omega) rfl rfl rfl ?_
    refine tv_icmp_ne C dk_L_isWell_145 (fun h => absurd rfl h) (fun _ => ?_)
    refine tv_aload_n C dk_L_isWell_148 rfl ?_
    refine tv_iload_n C dk_L_isWell_149 rfl ?_
    refine tx_cV (b := 0) (As := [.int (nI b)]) C dk_L_isWell_150 ml_RL_206 yk_X8_pearls yi_X8_pearls (fun w => tvRx' (m_X8_pearls _ _ _) (q_pearls' hR hb)) (by decide) rfl rfl rfl rfl (Nat.le_of_ble_eq_true rfl) (Nat.le_of_ble_eq_true rfl) (Nat.le_of_ble_eq_true rfl) (by omega) (by omega) rfl rfl rfl ?_
    refine tv_iconst (v := nI 5) C dk_L_isWell_153 (by decide) ?_
    refine tv_icmp_le C dk_L_isWell_154 (fun _ => ?_) (fun h => absurd ((pn_le (hv _) (by omega)).2 h5) h)
    refine tv_iload C dk_L_isWell_159 rfl ?_
    refine tv_bipush (v := nI 104) C dk_L_isWell_161 (by decide) ?_
    refine tv_icmp_ne C dk_L_isWell_163 (fun _ => ?_) (fun h => absurd h (by decide))
    refine tv_drop (L2 := [some (.ref (E.G.2.1 + 0)), some (.long (lN t)), none, some (.int (nI b)), none, none, none, none]) (by simp [tvSubL]) ?_
    exact nx _ _ _ (by omega) (by omega) (zM_rf M)
theorem w_well_B {E : tvE} {B : Nat} {M0 : tvM} {s : Nat → Nat} (C : tvC E RL cL_isWell 8 (some .boolean) 9 2000 12000 []) (hR0 : pOk B (pV M0 1) (pL M0 1) s) (hB : B + 3840 ≤ 10000000) (hX : pXi (0, 0) s) (nx : ∀ (k sl : Nat) (M : tvM), k ≤ 300 → sl ≤ 1800 → zM M0 M → tv_W E (tvPX []) k sl M 197 [some (.ref (E.G.2.1 + 0)), some (.long (lN (pSu s))), none, none, none, none, none, none] []) : ∀ j i : Nat, i + j = s 10 → ∀ (k sl : Nat) (M : tvM), k + 30 * j ≤ 300 → sl + 180 * j ≤ 1800 → zM M0 M → tv_W E (tvPX []) k sl M 4 [some (.ref (E.G.2.1 + 0)), some (.long (lN (psm (pWo s) i))), none, some (.int (nI i)), none, none, none, none] [] := by
  have hs := hR0.1.2.1
  have s9 := hs.2.2.2.2.2.2.2.1
  have s10 := hs.2.2.2.2.2.2.2.2.1
  have s11 := hs.2.2.2.2.2.2.2.2.2.1
  intro j
  induction j with
  | zero =>
    intro i hi k sl M hk hl hz
    obtain rfl : i = s 10 := by omega
    have hR := hz.ok hR0
    refine tv_iload_n C dk_L_isWell_4 rfl ?_
    refine tv_aload_n C dk_L_isWell_5 rfl ?_
    refine tx_cV (b := 0) (As := []) C dk_L_isWell_6 ml_RL_127 yk_X8_boxes yi_X8_boxes (fun w => tvRy (m_X8_boxes _ M) (q_boxes' hR)) (by decide) rfl rfl rfl rfl (Nat.le_of_ble_eq_true rfl) (Nat.le_of_ble_eq_true rfl) (Nat.le_of_ble_eq_true rfl) (by omega) (by omega) rfl rfl rfl ?_
    refine tv_icmp_ge C dk_L_isWell_9 (fun _ => ?_) (fun h => absurd ((pn_le (by omega) (by omega)).2 (by omega)) h)
    refine tv_drop (L2 := [some (.ref (E.G.2.1 + 0)), some (.long (lN (psm (pWo s) (s 10)))), none, none, none, none, none, none]) (by simp [tvSubL]) ?_
    exact nx _ _ _ (by omega) (by omega) hz
  | succ j ih =>
    intro i hi k sl M hk hl hz
    have hR := hz.ok hR0
    refine tv_iload_n C dk_L_isWell_4 rfl ?_
    refine tv_aload_n C dk_L_isWell_5 rfl ?_
    refine tx_cV (b := 0) (As := []) C dk_L_isWell_6 ml_RL_127 yk_X8_boxes yi_X8_boxes (fun w => tvRy (m_X8_boxes _ M) (q_boxes' hR)) (by decide) rfl rfl rfl rfl (Nat.le_of_ble_eq_true rfl) (Nat.le_of_ble_eq_true rfl) (Nat.le_of_ble_eq_true rfl) (by omega) (by omega) rfl rfl rfl ?_
    refine tv_icmp_ge C dk_L_isWell_9 (fun h => absurd h (fun z => by have := (pn_le (by omega) (by omega)).1 z; omega)) (fun _ => ?_)
    have hb : i < s 10 := by omega
    have h5 : s (36 + 13 * i + 7) ≤ 5 := (hR.1.2.2.2.1 i (by omega)).2.2.2.2.1
    refine tv_aload_n C dk_L_isWell_12 rfl ?_
    refine tv_iload_n C dk_L_isWell_13 rfl ?_
    refine tx_cV (b := 0) (As := [.int (nI i)]) C dk_L_isWell_14 ml_RL_199 yk_X8_status yi_X8_status (fun w => tvRx' (m_X8_status _ M _) (q_status' hR hb)) (by decide) rfl rfl rfl rfl (Nat.le_of_ble_eq_true rfl) (Nat.le_of_ble_eq_true rfl) (Nat.le_of_ble_eq_true rfl) (by omega) (by omega) rfl rfl rfl ?_
    refine tv_istore (L' := [_, _, _, _, _, _, _, _]) (hn := by decide) (hlt := (Nat.le_of_ble_eq_true rfl)) (hno := rfl) C dk_L_isWell_17 rfl ?_
    refine tv_aload_n C dk_L_isWell_19 rfl ?_
    refine tv_iload_n C dk_L_isWell_20 rfl ?_
    obtain ⟨u, hw, hu⟩ := z_until hR hb
    refine tx_cSW (As := [.ref (E.G.2.1 + 0), .int (nI i)]) C dk_L_isWell_21 ml_RL_221 yw_L_minutesUntilOpen yi_L_minutesUntilOpen (fun w => m_L_minutesUntilOpen _ M _ hw) rfl rfl (Nat.le_of_ble_eq_true rfl) (Nat.le_of_ble_eq_true rfl) (Nat.le_of_ble_eq_true rfl) (by omega) (by omega) rfl rfl rfl ?_
    refine tv_istore (L' := [_, _, _, _, _, _, _, _]) (hn := by decide) (hlt := (Nat.le_of_ble_eq_true rfl)) (hno := rfl) C dk_L_isWell_24 rfl ?_
    refine tv_iconst (v := nI 0) C dk_L_isWell_26 (by decide) ?_
    refine tv_istore (L' := [_, _, _, _, _, _, _, _]) (hn := by decide) (hlt := (Nat.le_of_ble_eq_true rfl)) (hno := rfl) C dk_L_isWell_27 rfl ?_
    refine w_well_P C hR (t := psm (pWo s) i) (b := i) hb (k0 := k + 18) (l0 := sl + 108) (fun k1 l1 hk1 hl1 => ?_) (by omega) (by omega) (s (36 + 13 * i + 7)) 0 (by omega) _ _ (by omega) (by omega)
    refine w_well_c C hR hB hX hb hu (by omega) (by omega) (fun k2 l2 M2 hk2 hl2 hz2 => ?_)
    refine tv_iinc (v := nI (i + 1)) (L' := [_, _, _, _, _, _, _, _]) (hn := by decide) (hlt := (Nat.le_of_ble_eq_true rfl)) (hno := rfl) C dk_L_isWell_191 rfl (nI_add i 1) rfl ?_
    refine tv_goto C dk_L_isWell_194 ?_
    exact ih (i + 1) (by omega) _ _ _ (by omega) (by omega) (hz.tr hz2)
theorem w_well_O {E : tvE} {B : Nat} {M : tvM} {s : Nat → Nat} (C : tvC E RL cL_isWell 8 (some .boolean) 9 2000 12000 []) (hR : pOk B (pV M 1) (pL M 1) s) {b h t : Nat} {y : Int32} (hb : b < s 10) (hh : h < s 9) {k0 l0 : Nat} (nx : ∀ k sl : Nat, k ≤ k0 → sl ≤ l0 → tv_W E (tvPX []) k sl M 271 [some (.ref (E.G.2.1 + 0)), some (.long (lN t)), none, some (.int (nI h)), some (.int y), some (.int (nI b)), some (.int (nI (zAny (zP s b h) (s 9)))), none] []) (hk0 : k0 ≤ 1990) (hl0 : l0 ≤ 11990) : ∀ j i : Nat, i + j = s 9 → ∀ k sl : Nat, k + 2 * j ≤ k0 → sl + 12 * j ≤ l0 → tv_W E (tvPX []) k sl M 228 [some (.ref (E.G.2.1 + 0)), some (.long (lN t)), none, some (.int (nI h)), some (.int y), some (.int (nI b)), some (.int (nI (zAny (zP s b h) i))), some (.int (nI i))] [] := by
  have hs := hR.1.2.1
  have s9 := hs.2.2.2.2.2.2.2.1
  have s10 := hs.2.2.2.2.2.2.2.2.1
  have s11 := hs.2.2.2.2.2.2.2.2.2.1
  intro j
  induction j with
  | zero =>
    intro i hi k sl hk hl
    obtain rfl : i = s 9 := by omega
    refine tv_iload C dk_L_isWell_228 rfl ?_
    refine tv_aload_n C dk_L_isWell_230 rfl ?_
    refine tx_cV (b := 0) (As := []) C dk_L_isWell_231 ml_RL_176 yk_X8_holders yi_X8_holders (fun w => tvRy (m_X8_holders _ M) (q_holders' hR)) (by decide) rfl rfl rfl rfl (Nat.le_of_ble_eq_true rfl) (Nat.le_of_ble_eq_true rfl) (Nat.le_of_ble_eq_true rfl) (by omega) (by omega) rfl rfl rfl ?_
    refine tv_icmp_ge C dk_L_isWell_234 (fun _ => ?_) (fun h => absurd ((pn_le (by omega) (by omega)).2 (by omega)) h)
    refine tv_drop (L2 := [some (.ref (E.G.2.1 + 0)), some (.long (lN t)), none, some (.int (nI h)), some (.int y), some (.int (nI b)), some (.int (nI (zAny (zP s b h) (s 9)))), none]) (by simp [tvSubL]) ?_
    exact nx _ _ (by omega) (by omega)
  | succ j ih =>
    intro i hi k sl hk hl
    refine tv_iload C dk_L_isWell_228 rfl ?_
    refine tv_aload_n C dk_L_isWell_230 rfl ?_
    refine tx_cV (b := 0) (As := []) C dk_L_isWell_231 ml_RL_176 yk_X8_holders yi_X8_holders (fun w => tvRy (m_X8_holders _ M) (q_holders' hR)) (by decide) rfl rfl rfl rfl (Nat.le_of_ble_eq_true rfl) (Nat.le_of_ble_eq_true rfl) (Nat.le_of_ble_eq_true rfl) (by omega) (by omega) rfl rfl rfl ?_
    refine tv_icmp_ge C dk_L_isWell_234 (fun h => absurd h (fun z => by have := (pn_le (by omega) (by omega)).1 z; omega)) (fun _ => ?_)
    refine tv_iload C dk_L_isWell_237 rfl ?_
    refine tv_iload C dk_L_isWell_239 rfl ?_
    refine tv_iload_n C dk_L_isWell_241 rfl ?_
    have key : ∀ k2 l2 : Nat, k2 ≤ k + 2 → l2 ≤ sl + 12 → ∀ x : Int32, x = nI (if zP s b h i = true then 1 else 0) → tv_W E (tvPX []) k2 l2 M 262 [some (.ref (E.G.2.1 + 0)), some (.long (lN t)), none, some (.int (nI h)), some (.int y), some (.int (nI b)), some (.int (nI (zAny (zP s b h) i))), some (.int (nI i))] [.int x, .int (nI (zAny (zP s b h) i))] := by
      intro k2 l2 hk2 hl2 x hx
      subst hx
      refine tv_ior C dk_L_isWell_262 ?_
      refine tv_ti (v := nI (zAny (zP s b h) (i + 1))) (zAny_s _ _) ?_
      refine tv_istore (L' := [_, _, _, _, _, _, _, _]) (hn := by decide) (hlt := (Nat.le_of_ble_eq_true rfl)) (hno := rfl) C dk_L_isWell_263 rfl ?_
      refine tv_iinc (v := nI (i + 1)) (L' := [_, _, _, _, _, _, _, _]) (hn := by decide) (hlt := (Nat.le_of_ble_eq_true rfl)) (hno := rfl) C dk_L_isWell_265 rfl (nI_add i 1) rfl ?_
      refine tv_goto C dk_L_isWell_268 ?_
      exact ih (i + 1) (by omega) _ _ (by omega) (by omega)
    by_cases q : i = h
    · skip
      refine tv_icmp_eq C dk_L_isWell_242 (fun _ => ?_) (fun h => absurd (by rw [q]) h)
      refine tv_iconst (v := nI 0) C dk_L_isWell_261 (by decide) ?_
      exact key _ _ (by omega) (by omega) _ (by unfold zP; simp [q])
    · skip
      refine tv_icmp_eq C dk_L_isWell_242 (fun h => absurd h (fun e => q ((pn_eq (by omega) (by omega)).1 e))) (fun _ => ?_)
      refine tv_aload_n C dk_L_isWell_245 rfl ?_
      refine tv_iload C dk_L_isWell_246 rfl ?_
      refine tv_iload_n C dk_L_isWell_248 rfl ?_
      refine tv_iload C dk_L_isWell_249 rfl ?_
      refine tx_cSW (As := [.ref (E.G.2.1 + 0), .int (nI b), .int (nI h), .int (nI i)]) C dk_L_isWell_251 ml_RL_228 yw_L_isPair yi_L_isPair (fun w => m_L_isPair _ M _ _ _ (z_pair hR hb (by omega) (by omega))) rfl rfl (Nat.le_of_ble_eq_true rfl) (Nat.le_of_ble_eq_true rfl) (Nat.le_of_ble_eq_true rfl) (by omega) (by omega) rfl rfl rfl ?_
      by_cases q2 : zQ s b h i = true
      · skip
        rw [if_pos q2]
        refine tv_if_eq C dk_L_isWell_254 (fun h => absurd h (by decide)) (fun _ => ?_)
        refine tv_iconst (v := nI 1) C dk_L_isWell_257 (by decide) ?_
        refine tv_goto C dk_L_isWell_258 ?_
        exact key _ _ (by omega) (by omega) _ (by unfold zP; simp [q, q2])
      · skip
        rw [if_neg q2]
        refine tv_if_eq C dk_L_isWell_254 (fun _ => ?_) (fun h => absurd rfl h)
        refine tv_iconst (v := nI 0) C dk_L_isWell_261 (by decide) ?_
        exact key _ _ (by omega) (by omega) _ (by unfold zP; simp [q, q2])
theorem w_well_N {E : tvE} {B : Nat} {M : tvM} {s : Nat → Nat} (C : tvC E RL cL_isWell 8 (some .boolean) 9 2000 12000 []) (hR : pOk B (pV M 1) (pL M 1) s) (hX : pXi (0, 0) s) {h t : Nat} (hh : h < s 9) {k0 l0 : Nat} (nx : ∀ k sl : Nat, k ≤ k0 → sl ≤ l0 → tv_W E (tvPX []) k sl M 292 [some (.ref (E.G.2.1 + 0)), some (.long (lN t)), none, some (.int (nI h)), some (.int (nI (tvCt (pBo s (nI h)) (s 10)))), none, none, none] []) (hk0 : k0 ≤ 1990) (hl0 : l0 ≤ 11990) : ∀ j i : Nat, i + j = s 10 → ∀ k sl : Nat, k + 16 * j ≤ k0 → sl + 96 * j ≤ l0 → tv_W E (tvPX []) k sl M 213 [some (.ref (E.G.2.1 + 0)), some (.long (lN t)), none, some (.int (nI h)), some (.int (nI (tvCt (pBo s (nI h)) i))), some (.int (nI i)), none, none] [] := by
  have hs := hR.1.2.1
  have s9 := hs.2.2.2.2.2.2.2.1
  have s10 := hs.2.2.2.2.2.2.2.2.1
  have s11 := hs.2.2.2.2.2.2.2.2.2.1
  intro j
  induction j with
  | zero =>
    intro i hi k sl hk hl
    obtain rfl : i = s 10 := by omega
    refine tv_iload C dk_L_isWell_213 rfl ?_
    refine tv_aload_n C dk_L_isWell_215 rfl ?_
    refine tx_cV (b := 0) (As := []) C dk_L_isWell_216 ml_RL_127 yk_X8_boxes yi_X8_boxes (fun w => tvRy (m_X8_boxes _ M) (q_boxes' hR)) (by decide) rfl rfl rfl rfl (Nat.le_of_ble_eq_true rfl) (Nat.le_of_ble_eq_true rfl) (Nat.le_of_ble_eq_true rfl) (by omega) (by omega) rfl rfl rfl ?_
    refine tv_icmp_ge C dk_L_isWell_219 (fun _ => ?_) (fun h => absurd ((pn_le (by omega) (by omega)).2 (by omega)) h)
    refine tv_drop (L2 := [some (.ref (E.G.2.1 + 0)), some (.long (lN t)), none, some (.int (nI h)), some (.int (nI (tvCt (pBo s (nI h)) (s 10)))), none, none, none]) (by simp [tvSubL]) ?_
    exact nx _ _ (by omega) (by omega)
  | succ j ih =>
    intro i hi k sl hk hl
    refine tv_iload C dk_L_isWell_213 rfl ?_
    refine tv_aload_n C dk_L_isWell_215 rfl ?_
    refine tx_cV (b := 0) (As := []) C dk_L_isWell_216 ml_RL_127 yk_X8_boxes yi_X8_boxes (fun w => tvRy (m_X8_boxes _ M) (q_boxes' hR)) (by decide) rfl rfl rfl rfl (Nat.le_of_ble_eq_true rfl) (Nat.le_of_ble_eq_true rfl) (Nat.le_of_ble_eq_true rfl) (by omega) (by omega) rfl rfl rfl ?_
    refine tv_icmp_ge C dk_L_isWell_219 (fun h => absurd h (fun z => by have := (pn_le (by omega) (by omega)).1 z; omega)) (fun _ => ?_)
    have hb : i < s 10 := by omega
    refine tv_iconst (v := nI 0) C dk_L_isWell_222 (by decide) ?_
    refine tv_istore (L' := [_, _, _, _, _, _, _, _]) (hn := by decide) (hlt := (Nat.le_of_ble_eq_true rfl)) (hno := rfl) C dk_L_isWell_223 rfl ?_
    refine tv_iconst (v := nI 0) C dk_L_isWell_225 (by decide) ?_
    refine tv_istore (L' := [_, _, _, _, _, _, _, _]) (hn := by decide) (hlt := (Nat.le_of_ble_eq_true rfl)) (hno := rfl) C dk_L_isWell_226 rfl ?_
    refine w_well_O C hR (b := i) (h := h) hb hh (k0 := k + 16) (l0 := sl + 96) (fun k1 l1 hk1 hl1 => ?_) (by omega) (by omega) (s 9) 0 (by omega) _ _ (by omega) (by omega)
    rw [zP_all hX hR.1.1 hb s10 hh s9]
    by_cases q : pBo s (nI h) i = true
    · skip
      rw [if_pos q]
      refine tv_iload C dk_L_isWell_271 rfl ?_
      refine tv_iload C dk_L_isWell_273 rfl ?_
      refine tv_if_eq C dk_L_isWell_275 (fun h => absurd h (by decide)) (fun _ => ?_)
      refine tv_iconst (v := nI 1) C dk_L_isWell_278 (by decide) ?_
      refine tv_goto C dk_L_isWell_279 ?_
      refine tv_iadd C dk_L_isWell_283 ?_
      refine tv_ti (v := nI (tvCt (pBo s (nI h)) (i + 1))) ((nI_add _ _).trans (by rw [tvCt_s, if_pos q])) ?_
      refine tv_istore (L' := [_, _, _, _, _, _, _, _]) (hn := by decide) (hlt := (Nat.le_of_ble_eq_true rfl)) (hno := rfl) C dk_L_isWell_284 rfl ?_
      refine tv_iinc (v := nI (i + 1)) (L' := [_, _, _, _, _, _, _, _]) (hn := by decide) (hlt := (Nat.le_of_ble_eq_true rfl)) (hno := rfl) C dk_L_isWell_286 rfl (nI_add i 1) rfl ?_
      refine tv_drop (L2 := [some (.ref (E.G.2.1 + 0)), some (.long (lN t)), none, some (.int (nI h)), some (.int (nI (tvCt (pBo s (nI h)) (i + 1)))), some (.int (nI (i + 1))), none, none]) (by simp [tvSubL]) ?_
      refine tv_goto C dk_L_isWell_289 ?_
      exact ih (i + 1) (by omega) _ _ (by omega) (by omega)
    · skip
      rw [if_neg q]
      refine tv_iload C dk_L_isWell_271 rfl ?_
      refine tv_iload C dk_L_isWell_273 rfl ?_
      refine tv_if_eq C dk_L_isWell_275 (fun _ => ?_) (fun h => absurd rfl h)
      refine tv_iconst (v := nI 0) C dk_L_isWell_282 (by decide) ?_
      refine tv_iadd C dk_L_isWell_283 ?_
      refine tv_ti (v := nI (tvCt (pBo s (nI h)) (i + 1))) ((nI_add _ _).trans (by rw [tvCt_s, if_neg q])) ?_
      refine tv_istore (L' := [_, _, _, _, _, _, _, _]) (hn := by decide) (hlt := (Nat.le_of_ble_eq_true rfl)) (hno := rfl) C dk_L_isWell_284 rfl ?_
      refine tv_iinc (v := nI (i + 1)) (L' := [_, _, _, _, _, _, _, _]) (hn := by decide) (hlt := (Nat.le_of_ble_eq_true rfl)) (hno := rfl) C dk_L_isWell_286 rfl (nI_add i 1) rfl ?_
      refine tv_drop (L2 := [some (.ref (E.G.2.1 + 0)), some (.long (lN t)), none, some (.int (nI h)), some (.int (nI (tvCt (pBo s (nI h)) (i + 1)))), some (.int (nI (i + 1))), none, none]) (by simp [tvSubL]) ?_
      refine tv_goto C dk_L_isWell_289 ?_
      exact ih (i + 1) (by omega) _ _ (by omega) (by omega)
theorem w_well_H {E : tvE} {B : Nat} {M : tvM} {s : Nat → Nat} (C : tvC E RL cL_isWell 8 (some .boolean) 9 2000 12000 []) (hR : pOk B (pV M 1) (pL M 1) s) (hX : pXi (0, 0) s) {t : Nat} {k0 l0 : Nat} (nx : ∀ k sl : Nat, k ≤ k0 → sl ≤ l0 → tv_W E (tvPX []) k sl M 345 [some (.ref (E.G.2.1 + 0)), some (.long (lN t)), none, none, none, none, none, none] []) (hk0 : k0 ≤ 1990) (hl0 : l0 ≤ 11990) : ∀ j i : Nat, i + j = s 9 → ∀ k sl : Nat, k + 165 * j ≤ k0 → sl + 990 * j ≤ l0 → tv_W E (tvPX []) k sl M 199 [some (.ref (E.G.2.1 + 0)), some (.long (lN t)), none, some (.int (nI i)), none, none, none, none] [] := by
  have hs := hR.1.2.1
  have s9 := hs.2.2.2.2.2.2.2.1
  have s10 := hs.2.2.2.2.2.2.2.2.1
  have s11 := hs.2.2.2.2.2.2.2.2.2.1
  intro j
  induction j with
  | zero =>
    intro i hi k sl hk hl
    obtain rfl : i = s 9 := by omega
    refine tv_iload_n C dk_L_isWell_199 rfl ?_
    refine tv_aload_n C dk_L_isWell_200 rfl ?_
    refine tx_cV (b := 0) (As := []) C dk_L_isWell_201 ml_RL_176 yk_X8_holders yi_X8_holders (fun w => tvRy (m_X8_holders _ M) (q_holders' hR)) (by decide) rfl rfl rfl rfl (Nat.le_of_ble_eq_true rfl) (Nat.le_of_ble_eq_true rfl) (Nat.le_of_ble_eq_true rfl) (by omega) (by omega) rfl rfl rfl ?_
    refine tv_icmp_ge C dk_L_isWell_204 (fun _ => ?_) (fun h => absurd ((pn_le (by omega) (by omega)).2 (by omega)) h)
    refine tv_drop (L2 := [some (.ref (E.G.2.1 + 0)), some (.long (lN t)), none, none, none, none, none, none]) (by simp [tvSubL]) ?_
    exact nx _ _ (by omega) (by omega)
  | succ j ih =>
    intro i hi k sl hk hl
    refine tv_iload_n C dk_L_isWell_199 rfl ?_
    refine tv_aload_n C dk_L_isWell_200 rfl ?_
    refine tx_cV (b := 0) (As := []) C dk_L_isWell_201 ml_RL_176 yk_X8_holders yi_X8_holders (fun w => tvRy (m_X8_holders _ M) (q_holders' hR)) (by decide) rfl rfl rfl rfl (Nat.le_of_ble_eq_true rfl) (Nat.le_of_ble_eq_true rfl) (Nat.le_of_ble_eq_true rfl) (by omega) (by omega) rfl rfl rfl ?_
    refine tv_icmp_ge C dk_L_isWell_204 (fun h => absurd h (fun z => by have := (pn_le (by omega) (by omega)).1 z; omega)) (fun _ => ?_)
    have hh : i < s 9 := by omega
    obtain ⟨r1, r2, -⟩ := hR.1.2.2.1 i (by omega)
    refine tv_iconst (v := nI 0) C dk_L_isWell_207 (by decide) ?_
    refine tv_istore (L' := [_, _, _, _, _, _, _, _]) (hn := by decide) (hlt := (Nat.le_of_ble_eq_true rfl)) (hno := rfl) C dk_L_isWell_208 rfl ?_
    refine tv_iconst (v := nI 0) C dk_L_isWell_210 (by decide) ?_
    refine tv_istore (L' := [_, _, _, _, _, _, _, _]) (hn := by decide) (hlt := (Nat.le_of_ble_eq_true rfl)) (hno := rfl) C dk_L_isWell_211 rfl ?_
    refine w_well_N C hR hX (h := i) hh (k0 := k + 160) (l0 := sl + 960) (fun k1 l1 hk1 hl1 => ?_) (by omega) (Nat.le_trans (Nat.le_trans (Nat.add_le_add_left (show 960 ≤ 990 * (j + 1) from Nat.le_trans (Nat.le_of_ble_eq_true rfl) (Nat.mul_le_mul_left 990 (Nat.le_add_left 1 j))) sl) hl) hl0) (s 10) 0 (by omega) _ _ (by omega) (by omega)
    refine tv_aload_n C dk_L_isWell_292 rfl ?_
    refine tv_iload_n C dk_L_isWell_293 rfl ?_
    refine tx_cV (b := 0) (As := [.int (nI i)]) C dk_L_isWell_294 ml_RL_193 yk_X8_attempts yi_X8_attempts (fun w => tvRx' (m_X8_attempts _ M _) (q_attempts' hR hh)) (by decide) rfl rfl rfl rfl (Nat.le_of_ble_eq_true rfl) (Nat.le_of_ble_eq_true rfl) (Nat.le_of_ble_eq_true rfl) (by omega) (by omega) rfl rfl rfl ?_
    refine tv_if_lt C dk_L_isWell_297 (fun h => absurd h (pn_neg (by omega))) (fun _ => ?_)
    refine tv_aload_n C dk_L_isWell_300 rfl ?_
    refine tv_iload_n C dk_L_isWell_301 rfl ?_
    refine tx_cV (b := 0) (As := [.int (nI i)]) C dk_L_isWell_302 ml_RL_193 yk_X8_attempts yi_X8_attempts (fun w => tvRx' (m_X8_attempts _ M _) (q_attempts' hR hh)) (by decide) rfl rfl rfl rfl (Nat.le_of_ble_eq_true rfl) (Nat.le_of_ble_eq_true rfl) (Nat.le_of_ble_eq_true rfl) (by omega) (by omega) rfl rfl rfl ?_
    refine tv_iconst (v := nI 2) C dk_L_isWell_305 (by decide) ?_
    refine tv_icmp_gt C dk_L_isWell_306 (fun h => absurd h (fun e => by have := (pn_lt (a := 2) (b := s (12 + 3 * i + 1)) (by omega) (by omega)).1 e; omega)) (fun _ => ?_)
    refine tv_aload_n C dk_L_isWell_309 rfl ?_
    refine tv_iload_n C dk_L_isWell_310 rfl ?_
    refine tx_cV (b := 0) (As := [.int (nI i)]) C dk_L_isWell_311 ml_RL_196 yk_X8_minutesLocked yi_X8_minutesLocked (fun w => tvRx' (m_X8_minutesLocked _ M _) (q_minutesLocked' hR hh)) (by decide) rfl rfl rfl rfl (Nat.le_of_ble_eq_true rfl) (Nat.le_of_ble_eq_true rfl) (Nat.le_of_ble_eq_true rfl) (by omega) (by omega) rfl rfl rfl ?_
    refine tv_if_lt C dk_L_isWell_314 (fun h => absurd h (pn_neg (by omega))) (fun _ => ?_)
    refine tv_aload_n C dk_L_isWell_317 rfl ?_
    refine tv_iload_n C dk_L_isWell_318 rfl ?_
    refine tx_cV (b := 0) (As := [.int (nI i)]) C dk_L_isWell_319 ml_RL_196 yk_X8_minutesLocked yi_X8_minutesLocked (fun w => tvRx' (m_X8_minutesLocked _ M _) (q_minutesLocked' hR hh)) (by decide) rfl rfl rfl rfl (Nat.le_of_ble_eq_true rfl) (Nat.le_of_ble_eq_true rfl) (Nat.le_of_ble_eq_true rfl) (by omega) (by omega) rfl rfl rfl ?_
    refine tv_bipush (v := nI 30) C dk_L_isWell_322 (by decide) ?_
    refine tv_icmp_gt C dk_L_isWell_324 (fun h => absurd h (fun e => by have := (pn_lt (a := 30) (b := s (12 + 3 * i + 2) - s 0) (by omega) (by omega)).1 e; omega)) (fun _ => ?_)
    refine tv_aload_n C dk_L_isWell_327 rfl ?_
    refine tv_iload_n C dk_L_isWell_328 rfl ?_
    refine tx_cV (b := 0) (As := [.int (nI i)]) C dk_L_isWell_329 ml_RL_232 yk_X8_boxesOf yi_X8_boxesOf (fun w => tvRx' (m_X8_boxesOf _ M _) (q_boxesOf' hR hh)) (by decide) rfl rfl rfl rfl (Nat.le_of_ble_eq_true rfl) (Nat.le_of_ble_eq_true rfl) (Nat.le_of_ble_eq_true rfl) (by omega) (by omega) rfl rfl rfl ?_
    refine tv_iload C dk_L_isWell_332 rfl ?_
    refine tv_icmp_eq C dk_L_isWell_334 (fun _ => ?_) (fun h => absurd rfl h)
    refine tv_iinc (v := nI (i + 1)) (L' := [_, _, _, _, _, _, _, _]) (hn := by decide) (hlt := (Nat.le_of_ble_eq_true rfl)) (hno := rfl) C dk_L_isWell_339 rfl (nI_add i 1) rfl ?_
    refine tv_drop (L2 := [some (.ref (E.G.2.1 + 0)), some (.long (lN t)), none, some (.int (nI (i + 1))), none, none, none, none]) (by simp [tvSubL]) ?_
    refine tv_goto C dk_L_isWell_342 ?_
    exact ih (i + 1) (by omega) _ _ (by omega) (by omega)
theorem w_well_E {E : tvE} {B : Nat} {M : tvM} {s : Nat → Nat} (C : tvC E RL cL_isWell 8 (some .boolean) 9 2000 12000 []) (hR : pOk B (pV M 1) (pL M 1) s) (hX : pXi (0, 0) s) {t : Nat} {k0 l0 : Nat} (nx : ∀ k sl : Nat, k ≤ k0 → sl ≤ l0 → tv_W E (tvPX []) k sl M 378 [some (.ref (E.G.2.1 + 0)), some (.long (lN t)), none, none, none, none, none, none] []) (hk0 : k0 ≤ 1990) (hl0 : l0 ≤ 11990) : ∀ j i : Nat, 1 ≤ i → i + j = 13 → ∀ k sl : Nat, k + 2 * j ≤ k0 → sl + 12 * j ≤ l0 → tv_W E (tvPX []) k sl M 347 [some (.ref (E.G.2.1 + 0)), some (.long (lN t)), none, some (.int (nI i)), none, none, none, none] [] := by
  have hs := hR.1.2.1
  have s9 := hs.2.2.2.2.2.2.2.1
  have s10 := hs.2.2.2.2.2.2.2.2.1
  have s11 := hs.2.2.2.2.2.2.2.2.2.1
  intro j
  induction j with
  | zero =>
    intro i h1 hi k sl hk hl
    refine tv_iload_n C dk_L_isWell_347 rfl ?_
    refine tv_aload_n C dk_L_isWell_348 rfl ?_
    refine tx_cV (b := 0) (As := []) C dk_L_isWell_349 ml_RL_179 yk_X8_events yi_X8_events (fun w => tvRy (m_X8_events _ M) (q_events' hR)) (by decide) rfl rfl rfl rfl (Nat.le_of_ble_eq_true rfl) (Nat.le_of_ble_eq_true rfl) (Nat.le_of_ble_eq_true rfl) (by omega) (by omega) rfl rfl rfl ?_
    refine tv_icmp_ge C dk_L_isWell_352 (fun _ => ?_) (fun h => absurd ((pn_le (by omega) (by omega)).2 (by omega)) h)
    refine tv_drop (L2 := [some (.ref (E.G.2.1 + 0)), some (.long (lN t)), none, none, none, none, none, none]) (by simp [tvSubL]) ?_
    exact nx _ _ (by omega) (by omega)
  | succ j ih =>
    intro i h1 hi k sl hk hl
    refine tv_iload_n C dk_L_isWell_347 rfl ?_
    refine tv_aload_n C dk_L_isWell_348 rfl ?_
    refine tx_cV (b := 0) (As := []) C dk_L_isWell_349 ml_RL_179 yk_X8_events yi_X8_events (fun w => tvRy (m_X8_events _ M) (q_events' hR)) (by decide) rfl rfl rfl rfl (Nat.le_of_ble_eq_true rfl) (Nat.le_of_ble_eq_true rfl) (Nat.le_of_ble_eq_true rfl) (by omega) (by omega) rfl rfl rfl ?_
    by_cases q : s 11 ≤ i
    · skip
      refine tv_icmp_ge C dk_L_isWell_352 (fun _ => ?_) (fun h => absurd ((pn_le (by omega) (by omega)).2 q) h)
      refine tv_drop (L2 := [some (.ref (E.G.2.1 + 0)), some (.long (lN t)), none, none, none, none, none, none]) (by simp [tvSubL]) ?_
      exact nx _ _ (by omega) (by omega)
    · skip
      refine tv_icmp_ge C dk_L_isWell_352 (fun h => absurd h (fun z => q ((pn_le (by omega) (by omega)).1 z))) (fun _ => ?_)
      obtain ⟨c, rfl⟩ : ∃ c, i = c + 1 := ⟨i - 1, by omega⟩
      have ho := (hX.2.2.1 c (by omega) (by omega)).2 (by omega)
      have hv := hR.1.1
      refine tv_aload_n C dk_L_isWell_355 rfl ?_
      refine tv_iload_n C dk_L_isWell_356 rfl ?_
      refine tx_cV (b := 0) (As := [.int (nI (c + 1))]) C dk_L_isWell_357 ml_RL_215 yk_X8_eventTime yi_X8_eventTime (fun w => tvRx' (m_X8_eventTime _ M _) (q_eventTime' hR (j := c + 1) (by omega))) (by decide) rfl rfl rfl rfl (Nat.le_of_ble_eq_true rfl) (Nat.le_of_ble_eq_true rfl) (Nat.le_of_ble_eq_true rfl) (by omega) (by omega) rfl rfl rfl ?_
      refine tv_aload_n C dk_L_isWell_360 rfl ?_
      refine tv_iload_n C dk_L_isWell_361 rfl ?_
      refine tv_iconst (v := nI 1) C dk_L_isWell_362 (by decide) ?_
      refine tv_isub C dk_L_isWell_363 ?_
      refine tv_ti (v := nI c) (pn_sub (a := c + 1) (b := 1) (by omega)) ?_
      refine tx_cV (b := 0) (As := [.int (nI c)]) C dk_L_isWell_364 ml_RL_215 yk_X8_eventTime yi_X8_eventTime (fun w => tvRx' (m_X8_eventTime _ M _) (q_eventTime' hR (j := c) (by omega))) (by decide) rfl rfl rfl rfl (Nat.le_of_ble_eq_true rfl) (Nat.le_of_ble_eq_true rfl) (Nat.le_of_ble_eq_true rfl) (by omega) (by omega) rfl rfl rfl ?_
      refine tv_icmp_ge C dk_L_isWell_367 (fun _ => ?_) (fun h => absurd ((pn_le (hv _) (hv _)).2 ho) h)
      refine tv_iinc (v := nI ((c + 1) + 1)) (L' := [_, _, _, _, _, _, _, _]) (hn := by decide) (hlt := (Nat.le_of_ble_eq_true rfl)) (hno := rfl) C dk_L_isWell_372 rfl (nI_add (c + 1) 1) rfl ?_
      refine tv_goto C dk_L_isWell_375 ?_
      exact ih (c + 1 + 1) (by omega) (by omega) _ _ (by omega) (by omega)
theorem a_L_isWell (G : tvG) (M : tvM) {B : Nat} {s : Nat → Nat} (hR : pOk B (pV M 1) (pL M 1) s) (hB : B + 3840 ≤ 10000000) (hX : pXi (0, 0) s) : tvRunX G yL_isWell (tvWd yL_isWell cL_isWell 8 (some .boolean)) 9 2000 12000 [] [.ref (G.2.1 + 0)] M (fun o X1 M1 => o = .inl (some (.int 1)) ∧ X1 = [] ∧ zM M M1) := by
  refine tvRunX.of yk_L_isWell rfl [some (.ref (G.2.1 + 0)), none, none, none, none, none, none, none] rfl (Nat.le_of_ble_eq_true rfl) ?_
  intro E hG C hI hQ; subst hG
  have hs := hR.1.2.1
  have s9 := hs.2.2.2.2.2.2.2.1
  have s10 := hs.2.2.2.2.2.2.2.2.1
  have s11 := hs.2.2.2.2.2.2.2.2.2.1
  have s3 := hs.2.2.2.1
  refine tv_lconst (v := lN 0) C dk_L_isWell_0 (by decide) ?_
  refine tv_lstore_n (L' := [_, _, _, _, _, _, _, _]) (hn := by decide) (hlt := (Nat.le_of_ble_eq_true rfl)) (hno := rfl) C dk_L_isWell_1 rfl ?_
  refine tv_iconst (v := nI 0) C dk_L_isWell_2 (by decide) ?_
  refine tv_istore_n (L' := [_, _, _, _, _, _, _, _]) (hn := by decide) (hlt := (Nat.le_of_ble_eq_true rfl)) (hno := rfl) C dk_L_isWell_3 rfl ?_
  refine w_well_B C hR hB hX (fun k1 l1 M1 hk1 hl1 hz => ?_) (s 10) 0 (by omega) _ _ M (by omega) (by omega) (zM_rf M)
  have hR1 := hz.ok hR
  refine tv_iconst (v := nI 0) C dk_L_isWell_197 (by decide) ?_
  refine tv_istore_n (L' := [_, _, _, _, _, _, _, _]) (hn := by decide) (hlt := (Nat.le_of_ble_eq_true rfl)) (hno := rfl) C dk_L_isWell_198 rfl ?_
  refine w_well_H C hR1 hX (k0 := 1620) (l0 := 9720) (fun k2 l2 hk2 hl2 => ?_) (by omega) (by omega) (s 9) 0 (by omega) _ _ (by omega) (by omega)
  refine tv_iconst (v := nI 1) C dk_L_isWell_345 (by decide) ?_
  refine tv_istore_n (L' := [_, _, _, _, _, _, _, _]) (hn := by decide) (hlt := (Nat.le_of_ble_eq_true rfl)) (hno := rfl) C dk_L_isWell_346 rfl ?_
  refine w_well_E C hR1 hX (k0 := 1650) (l0 := 9900) (fun k3 l3 hk3 hl3 => ?_) (by omega) (by omega) 12 1 (by omega) (by omega) _ _ (by omega) (by omega)
  refine tv_lload_n C dk_L_isWell_378 rfl ?_
  refine tv_aload_n C dk_L_isWell_379 rfl ?_
  refine tx_cV (b := 0) (As := []) C dk_L_isWell_380 ml_RL_235 yk_X8_totalValue yi_X8_totalValue (fun w => tvRyl (m_X8_totalValue _ M1) (q_value' hR1)) (by decide) rfl rfl rfl rfl (Nat.le_of_ble_eq_true rfl) (Nat.le_of_ble_eq_true rfl) (Nat.le_of_ble_eq_true rfl) (by omega) (by omega) rfl rfl rfl ?_
  refine tv_lcmp C dk_L_isWell_383 ?_
  refine tv_ti (v := 0) (lg_self _) ?_
  refine tv_if_ne C dk_L_isWell_384 (fun h => absurd rfl h) (fun _ => ?_)
  refine tv_lload_n C dk_L_isWell_387 rfl ?_
  refine tv_aload_n C dk_L_isWell_388 rfl ?_
  refine tx_cV (b := 0) (As := []) C dk_L_isWell_389 ml_RL_182 yk_X8_totalValueByLedger yi_X8_totalValueByLedger (fun w => tvRyl (m_X8_totalValueByLedger _ M1) (q_ledger' hR1)) (by decide) rfl rfl rfl rfl (Nat.le_of_ble_eq_true rfl) (Nat.le_of_ble_eq_true rfl) (Nat.le_of_ble_eq_true rfl) (by omega) (by omega) rfl rfl rfl ?_
  refine tv_lcmp C dk_L_isWell_392 ?_
  refine tv_ti (v := 0) (lg_self _) ?_
  refine tv_if_ne C dk_L_isWell_393 (fun h => absurd rfl h) (fun _ => ?_)
  refine tv_aload_n C dk_L_isWell_396 rfl ?_
  refine tx_cV (b := 0) (As := []) C dk_L_isWell_397 ml_RL_173 yk_X8_alarm yi_X8_alarm (fun w => tvRy (m_X8_alarm _ M1) (q_alarm' hR1)) (by decide) rfl rfl rfl rfl (Nat.le_of_ble_eq_true rfl) (Nat.le_of_ble_eq_true rfl) (Nat.le_of_ble_eq_true rfl) (by omega) (by omega) rfl rfl rfl ?_
  refine tv_if_lt C dk_L_isWell_400 (fun h => absurd h (pn_neg (by omega))) (fun _ => ?_)
  refine tv_aload_n C dk_L_isWell_403 rfl ?_
  refine tx_cV (b := 0) (As := []) C dk_L_isWell_404 ml_RL_173 yk_X8_alarm yi_X8_alarm (fun w => tvRy (m_X8_alarm _ M1) (q_alarm' hR1)) (by decide) rfl rfl rfl rfl (Nat.le_of_ble_eq_true rfl) (Nat.le_of_ble_eq_true rfl) (Nat.le_of_ble_eq_true rfl) (by omega) (by omega) rfl rfl rfl ?_
  refine tv_bipush (v := nI 100) C dk_L_isWell_407 (by decide) ?_
  refine tv_icmp_ge C dk_L_isWell_409 (fun h => absurd h (fun z => by have := (pn_le (a := 100) (b := s 3) (by omega) (by omega)).1 z; omega)) (fun _ => ?_)
  refine tv_aload_n C dk_L_isWell_412 rfl ?_
  refine tx_cV (b := 0) (As := []) C dk_L_isWell_413 ml_RL_179 yk_X8_events yi_X8_events (fun w => tvRy (m_X8_events _ M1) (q_events' hR1)) (by decide) rfl rfl rfl rfl (Nat.le_of_ble_eq_true rfl) (Nat.le_of_ble_eq_true rfl) (Nat.le_of_ble_eq_true rfl) (by omega) (by omega) rfl rfl rfl ?_
  refine tv_bipush (v := nI 12) C dk_L_isWell_416 (by decide) ?_
  refine tv_icmp_gt C dk_L_isWell_418 (fun h => absurd h (fun z => by have := (pn_lt (a := 12) (b := s 11) (by omega) (by omega)).1 z; omega)) (fun _ => ?_)
  refine tv_aload_n C dk_L_isWell_421 rfl ?_
  refine tv_sipush (v := nI 333) C dk_L_isWell_422 (by decide) ?_
  refine tx_cV (b := 0) (As := [.int (nI 333)]) C dk_L_isWell_425 ml_RL_186 yk_X8_lowMinutes yi_X8_lowMinutes (fun w => tvRx' (m_X8_lowMinutes _ M1 _) ((q_low' hR1 (n := 333) (by omega)).1)) (by decide) rfl rfl rfl rfl (Nat.le_of_ble_eq_true rfl) (Nat.le_of_ble_eq_true rfl) (Nat.le_of_ble_eq_true rfl) (by omega) (by omega) rfl rfl rfl ?_
  refine tv_aload_n C dk_L_isWell_428 rfl ?_
  refine tv_sipush (v := nI 333) C dk_L_isWell_429 (by decide) ?_
  refine tx_cV (b := 0) (As := [.int (nI 333)]) C dk_L_isWell_432 ml_RL_238 yk_X8_lowMinutesByCounting yi_X8_lowMinutesByCounting (fun w => tvRx' (m_X8_lowMinutesByCounting _ M1 _) ((q_low' hR1 (n := 333) (by omega)).2)) (by decide) rfl rfl rfl rfl (Nat.le_of_ble_eq_true rfl) (Nat.le_of_ble_eq_true rfl) (Nat.le_of_ble_eq_true rfl) (by omega) (by omega) rfl rfl rfl ?_
  refine tv_icmp_ne C dk_L_isWell_435 (fun h => absurd rfl h) (fun _ => ?_)
  refine tv_aload_n C dk_L_isWell_438 rfl ?_
  obtain ⟨c', hc⟩ := q_cons hR1 hB
  refine tx_cV (b := 0) (As := []) C dk_L_isWell_439 ml_RL_241 yk_X8_isConsistent yi_X8_isConsistent (fun w => tvRxz (m_X8_isConsistent _ M1) hc) (by decide) rfl rfl rfl rfl (Nat.le_of_ble_eq_true rfl) (Nat.le_of_ble_eq_true rfl) (Nat.le_of_ble_eq_true rfl) (by omega) (by omega) rfl rfl rfl ?_
  refine tv_if_eq C dk_L_isWell_442 (fun h => absurd h (by decide)) (fun _ => ?_)
  refine tv_iconst (v := nI 1) C dk_L_isWell_445 (by decide) ?_
  refine tv_goto C dk_L_isWell_446 ?_
  exact tx_iret C hQ dk_L_isWell_450 rfl ⟨rfl, rfl, hz.tr (zM_pu M1 c' (pL M1 1))⟩ (by omega) (by omega)
