theorem w_seen_H {E : tvE} {B : Nat} {M : tvM} {s : Nat → Nat} (C : tvC E RL cL_seen 5 (some (.array .int)) 9 300 2000 []) (hR : pOk B (pV M 1) (pL M 1) s) {q : Nat} {f : Nat → Int32} {k0 l0 : Nat} (nx : ∀ k sl : Nat, k ≤ k0 → sl ≤ l0 → tv_W E (tvPX [zA E.G q (zSH s f (s 9))]) k sl M 118 [some (.ref (E.G.2.1 + 0)), some (.ref q), none, none, none] []) (hk0 : k0 ≤ 290) (hl0 : l0 ≤ 1990) : ∀ j i : Nat, i + j = s 9 → ∀ k sl : Nat, k + 2 * j + 0 ≤ k0 → sl + 12 * j + 0 ≤ l0 → tv_W E (tvPX [zA E.G q (zSH s f i)]) k sl M 78 [some (.ref (E.G.2.1 + 0)), some (.ref q), some (.int (nI i)), none, none] [] := by
  have hs := hR.1.2.1
  have s9 := hs.2.2.2.2.2.2.2.1
  have s10 := hs.2.2.2.2.2.2.2.2.1
  have s11 := hs.2.2.2.2.2.2.2.2.2.1
  intro j
  induction j with
  | zero =>
    intro i hi k sl hk hl
    obtain rfl : i = s 9 := by omega
    refine tv_iload_n C dk_L_seen_78 rfl ?_
    refine tv_aload_n C dk_L_seen_79 rfl ?_
    refine tx_cV (b := 0) (As := []) C dk_L_seen_80 ml_RL_176 yk_X8_holders yi_X8_holders (fun w => tvRy (m_X8_holders _ M) (q_holders' hR)) (by decide) rfl rfl rfl rfl (Nat.le_of_ble_eq_true rfl) (Nat.le_of_ble_eq_true rfl) (Nat.le_of_ble_eq_true rfl) (by omega) (by omega) rfl rfl rfl ?_
    refine tv_icmp_ge C dk_L_seen_83 (fun _ => ?_) (fun h => absurd ((pn_le (by omega) (by omega)).2 (by omega)) h)
    refine tv_drop (L2 := [some (.ref (E.G.2.1 + 0)), some (.ref q), none, none, none]) (by simp [tvSubL]) ?_
    exact nx _ _ (by omega) (by omega)
  | succ j ih =>
    intro i hi k sl hk hl
    refine tv_iload_n C dk_L_seen_78 rfl ?_
    refine tv_aload_n C dk_L_seen_79 rfl ?_
    refine tx_cV (b := 0) (As := []) C dk_L_seen_80 ml_RL_176 yk_X8_holders yi_X8_holders (fun w => tvRy (m_X8_holders _ M) (q_holders' hR)) (by decide) rfl rfl rfl rfl (Nat.le_of_ble_eq_true rfl) (Nat.le_of_ble_eq_true rfl) (Nat.le_of_ble_eq_true rfl) (by omega) (by omega) rfl rfl rfl ?_
    refine tv_icmp_ge C dk_L_seen_83 (fun h => absurd h (fun z => by have := (pn_le (by omega) (by omega)).1 z; omega)) (fun _ => ?_)
    have hi9 : i < s 9 := by omega
    refine tv_aload_n C dk_L_seen_86 rfl ?_
    refine tv_bipush (v := nI 10) C dk_L_seen_87 (by decide) ?_
    refine tv_iconst (v := nI 2) C dk_L_seen_89 (by decide) ?_
    refine tv_iload_n C dk_L_seen_90 rfl ?_
    refine tv_imul C dk_L_seen_91 ?_
    refine tv_ti (v := nI (2 * i)) (pn_mul 2 i) ?_
    refine tv_iadd C dk_L_seen_92 ?_
    refine tv_ti (v := nI (10 + (2 * i))) (nI_add 10 (2 * i)) ?_
    refine tv_aload_n C dk_L_seen_93 rfl ?_
    refine tv_iload_n C dk_L_seen_94 rfl ?_
    refine tx_cV (b := 0) (As := [.int (nI i)]) C dk_L_seen_95 ml_RL_193 yk_X8_attempts yi_X8_attempts (fun w => tvRx' (m_X8_attempts _ M _) (q_attempts' hR hi9)) (by decide) rfl rfl rfl rfl (Nat.le_of_ble_eq_true rfl) (Nat.le_of_ble_eq_true rfl) (Nat.le_of_ble_eq_true rfl) (by omega) (by omega) rfl rfl rfl ?_
    refine z_ast (pn_c (n := 10 + 2 * i) (by omega)) C dk_L_seen_98 (vp_in_nI (by omega) (by omega)) ?_
    refine tv_aload_n C dk_L_seen_99 rfl ?_
    refine tv_bipush (v := nI 11) C dk_L_seen_100 (by decide) ?_
    refine tv_iconst (v := nI 2) C dk_L_seen_102 (by decide) ?_
    refine tv_iload_n C dk_L_seen_103 rfl ?_
    refine tv_imul C dk_L_seen_104 ?_
    refine tv_ti (v := nI (2 * i)) (pn_mul 2 i) ?_
    refine tv_iadd C dk_L_seen_105 ?_
    refine tv_ti (v := nI (11 + (2 * i))) (nI_add 11 (2 * i)) ?_
    refine tv_aload_n C dk_L_seen_106 rfl ?_
    refine tv_iload_n C dk_L_seen_107 rfl ?_
    refine tx_cV (b := 0) (As := [.int (nI i)]) C dk_L_seen_108 ml_RL_196 yk_X8_minutesLocked yi_X8_minutesLocked (fun w => tvRx' (m_X8_minutesLocked _ M _) (q_minutesLocked' hR hi9)) (by decide) rfl rfl rfl rfl (Nat.le_of_ble_eq_true rfl) (Nat.le_of_ble_eq_true rfl) (Nat.le_of_ble_eq_true rfl) (by omega) (by omega) rfl rfl rfl ?_
    refine z_ast (pn_c (n := 11 + 2 * i) (by omega)) C dk_L_seen_111 (vp_in_nI (by omega) (by omega)) ?_
    refine tv_iinc (v := nI (i + 1)) (L' := [_, _, _, _, _]) (hn := by decide) (hlt := (Nat.le_of_ble_eq_true rfl)) (hno := rfl) C dk_L_seen_112 rfl (nI_add i 1) rfl ?_
    refine tv_drop (L2 := [some (.ref (E.G.2.1 + 0)), some (.ref q), some (.int (nI (i + 1))), none, none]) (by simp [tvSubL]) ?_
    refine tv_goto C dk_L_seen_115 ?_
    exact ih (i + 1) (by omega) _ _ (by omega) (by omega)
theorem w_seen_P {E : tvE} {B : Nat} {M : tvM} {s : Nat → Nat} (C : tvC E RL cL_seen 5 (some (.array .int)) 9 300 2000 []) (hR : pOk B (pV M 1) (pL M 1) s) {q b : Nat} {f : Nat → Int32} (hb : b < s 10) {k0 l0 : Nat} (nx : ∀ k sl : Nat, k ≤ k0 → sl ≤ l0 → tv_W E (tvPX [zA E.G q (zSP s b f (s (36 + 13 * b + 7)))]) k sl M 208 [some (.ref (E.G.2.1 + 0)), some (.ref q), some (.int (nI b)), none, none] []) (hk0 : k0 ≤ 290) (hl0 : l0 ≤ 1990) : ∀ j i : Nat, i + j = s (36 + 13 * b + 7) → ∀ k sl : Nat, k + 3 * j + 1 ≤ k0 → sl + 18 * j + 6 ≤ l0 → tv_W E (tvPX [zA E.G q (zSP s b f i)]) k sl M 177 [some (.ref (E.G.2.1 + 0)), some (.ref q), some (.int (nI b)), some (.int (nI (30 + 10 * b))), some (.int (nI i))] [] := by
  have hs := hR.1.2.1
  have s9 := hs.2.2.2.2.2.2.2.1
  have s10 := hs.2.2.2.2.2.2.2.2.1
  have s11 := hs.2.2.2.2.2.2.2.2.2.1
  have h5 : s (36 + 13 * b + 7) ≤ 5 := (hR.1.2.2.2.1 b (by omega)).2.2.2.2.1
  intro j
  induction j with
  | zero =>
    intro i hi k sl hk hl
    obtain rfl : i = s (36 + 13 * b + 7) := by omega
    refine tv_iload C dk_L_seen_177 rfl ?_
    refine tv_aload_n C dk_L_seen_179 rfl ?_
    refine tv_iload_n C dk_L_seen_180 rfl ?_
    refine tx_cV (b := 0) (As := [.int (nI b)]) C dk_L_seen_181 ml_RL_206 yk_X8_pearls yi_X8_pearls (fun w => tvRx' (m_X8_pearls _ M _) (q_pearls' hR hb)) (by decide) rfl rfl rfl rfl (Nat.le_of_ble_eq_true rfl) (Nat.le_of_ble_eq_true rfl) (Nat.le_of_ble_eq_true rfl) (by omega) (by omega) rfl rfl rfl ?_
    refine tv_icmp_ge C dk_L_seen_184 (fun _ => ?_) (fun h => absurd ((pn_le (by omega) (by omega)).2 (by omega)) h)
    refine tv_drop (L2 := [some (.ref (E.G.2.1 + 0)), some (.ref q), some (.int (nI b)), none, none]) (by simp [tvSubL]) ?_
    exact nx _ _ (by omega) (by omega)
  | succ j ih =>
    intro i hi k sl hk hl
    refine tv_iload C dk_L_seen_177 rfl ?_
    refine tv_aload_n C dk_L_seen_179 rfl ?_
    refine tv_iload_n C dk_L_seen_180 rfl ?_
    refine tx_cV (b := 0) (As := [.int (nI b)]) C dk_L_seen_181 ml_RL_206 yk_X8_pearls yi_X8_pearls (fun w => tvRx' (m_X8_pearls _ M _) (q_pearls' hR hb)) (by decide) rfl rfl rfl rfl (Nat.le_of_ble_eq_true rfl) (Nat.le_of_ble_eq_true rfl) (Nat.le_of_ble_eq_true rfl) (by omega) (by omega) rfl rfl rfl ?_
    refine tv_icmp_ge C dk_L_seen_184 (fun h => absurd h (fun z => by have := (pn_le (by omega) (by omega)).1 z; omega)) (fun _ => ?_)
    refine tv_aload_n C dk_L_seen_187 rfl ?_
    refine tv_iload_n C dk_L_seen_188 rfl ?_
    refine tv_iconst (v := nI 4) C dk_L_seen_189 (by decide) ?_
    refine tv_iadd C dk_L_seen_190 ?_
    refine tv_ti (v := nI ((30 + 10 * b) + 4)) (nI_add (30 + 10 * b) 4) ?_
    refine tv_iload C dk_L_seen_191 rfl ?_
    refine tv_iadd C dk_L_seen_193 ?_
    refine tv_ti (v := nI (((30 + 10 * b) + 4) + i)) (nI_add ((30 + 10 * b) + 4) i) ?_
    refine tv_aload_n C dk_L_seen_194 rfl ?_
    refine tv_iload_n C dk_L_seen_195 rfl ?_
    refine tv_iload C dk_L_seen_196 rfl ?_
    refine tx_cV (b := 0) (As := [.int (nI b), .int (nI i)]) C dk_L_seen_198 ml_RL_209 yk_X8_pearl yi_X8_pearl (fun w => tvRx' (m_X8_pearl _ M _ _) (q_pearl' hR hb (j := i) (by omega))) (by decide) rfl rfl rfl rfl (Nat.le_of_ble_eq_true rfl) (Nat.le_of_ble_eq_true rfl) (Nat.le_of_ble_eq_true rfl) (by omega) (by omega) rfl rfl rfl ?_
    refine z_ast (pn_c (n := 30 + 10 * b + 4 + i) (by omega)) C dk_L_seen_201 (vp_in_nI (by omega) (by omega)) ?_
    refine tv_iinc (v := nI (i + 1)) (L' := [_, _, _, _, _]) (hn := by decide) (hlt := (Nat.le_of_ble_eq_true rfl)) (hno := rfl) C dk_L_seen_202 rfl (nI_add i 1) rfl ?_
    refine tv_drop (L2 := [some (.ref (E.G.2.1 + 0)), some (.ref q), some (.int (nI b)), some (.int (nI (30 + 10 * b))), some (.int (nI (i + 1)))]) (by simp [tvSubL]) ?_
    refine tv_goto C dk_L_seen_205 ?_
    exact ih (i + 1) (by omega) _ _ (by omega) (by omega)
theorem w_seen_B {E : tvE} {B : Nat} {M : tvM} {s : Nat → Nat} (C : tvC E RL cL_seen 5 (some (.array .int)) 9 300 2000 []) (hR : pOk B (pV M 1) (pL M 1) s) {q : Nat} {f : Nat → Int32} {k0 l0 : Nat} (nx : ∀ k sl : Nat, k ≤ k0 → sl ≤ l0 → tv_W E (tvPX [zA E.G q (zSB s f (s 10))]) k sl M 214 [some (.ref (E.G.2.1 + 0)), some (.ref q), none, none, none] []) (hk0 : k0 ≤ 290) (hl0 : l0 ≤ 1990) : ∀ j i : Nat, i + j = s 10 → ∀ k sl : Nat, k + 20 * j + 0 ≤ k0 → sl + 120 * j + 0 ≤ l0 → tv_W E (tvPX [zA E.G q (zSB s f i)]) k sl M 120 [some (.ref (E.G.2.1 + 0)), some (.ref q), some (.int (nI i)), none, none] [] := by
  have hs := hR.1.2.1
  have s9 := hs.2.2.2.2.2.2.2.1
  have s10 := hs.2.2.2.2.2.2.2.2.1
  have s11 := hs.2.2.2.2.2.2.2.2.2.1
  intro j
  induction j with
  | zero =>
    intro i hi k sl hk hl
    obtain rfl : i = s 10 := by omega
    refine tv_iload_n C dk_L_seen_120 rfl ?_
    refine tv_aload_n C dk_L_seen_121 rfl ?_
    refine tx_cV (b := 0) (As := []) C dk_L_seen_122 ml_RL_127 yk_X8_boxes yi_X8_boxes (fun w => tvRy (m_X8_boxes _ M) (q_boxes' hR)) (by decide) rfl rfl rfl rfl (Nat.le_of_ble_eq_true rfl) (Nat.le_of_ble_eq_true rfl) (Nat.le_of_ble_eq_true rfl) (by omega) (by omega) rfl rfl rfl ?_
    refine tv_icmp_ge C dk_L_seen_125 (fun _ => ?_) (fun h => absurd ((pn_le (by omega) (by omega)).2 (by omega)) h)
    refine tv_drop (L2 := [some (.ref (E.G.2.1 + 0)), some (.ref q), none, none, none]) (by simp [tvSubL]) ?_
    exact nx _ _ (by omega) (by omega)
  | succ j ih =>
    intro i hi k sl hk hl
    refine tv_iload_n C dk_L_seen_120 rfl ?_
    refine tv_aload_n C dk_L_seen_121 rfl ?_
    refine tx_cV (b := 0) (As := []) C dk_L_seen_122 ml_RL_127 yk_X8_boxes yi_X8_boxes (fun w => tvRy (m_X8_boxes _ M) (q_boxes' hR)) (by decide) rfl rfl rfl rfl (Nat.le_of_ble_eq_true rfl) (Nat.le_of_ble_eq_true rfl) (Nat.le_of_ble_eq_true rfl) (by omega) (by omega) rfl rfl rfl ?_
    refine tv_icmp_ge C dk_L_seen_125 (fun h => absurd h (fun z => by have := (pn_le (by omega) (by omega)).1 z; omega)) (fun _ => ?_)
    have hb : i < s 10 := by omega
    have h5 : s (36 + 13 * i + 7) ≤ 5 := (hR.1.2.2.2.1 i (by omega)).2.2.2.2.1
    refine tv_bipush (v := nI 30) C dk_L_seen_128 (by decide) ?_
    refine tv_bipush (v := nI 10) C dk_L_seen_130 (by decide) ?_
    refine tv_iload_n C dk_L_seen_132 rfl ?_
    refine tv_imul C dk_L_seen_133 ?_
    refine tv_ti (v := nI (10 * i)) (pn_mul 10 i) ?_
    refine tv_iadd C dk_L_seen_134 ?_
    refine tv_ti (v := nI (30 + (10 * i))) (nI_add 30 (10 * i)) ?_
    refine tv_istore_n (L' := [_, _, _, _, _]) (hn := by decide) (hlt := (Nat.le_of_ble_eq_true rfl)) (hno := rfl) C dk_L_seen_135 rfl ?_
    refine tv_aload_n C dk_L_seen_136 rfl ?_
    refine tv_iload_n C dk_L_seen_137 rfl ?_
    refine tv_aload_n C dk_L_seen_138 rfl ?_
    refine tv_iload_n C dk_L_seen_139 rfl ?_
    refine tx_cV (b := 0) (As := [.int (nI i)]) C dk_L_seen_140 ml_RL_199 yk_X8_status yi_X8_status (fun w => tvRx' (m_X8_status _ M _) (q_status' hR hb)) (by decide) rfl rfl rfl rfl (Nat.le_of_ble_eq_true rfl) (Nat.le_of_ble_eq_true rfl) (Nat.le_of_ble_eq_true rfl) (by omega) (by omega) rfl rfl rfl ?_
    refine z_ast (pn_c (n := 30 + 10 * i) (by omega)) C dk_L_seen_143 (vp_in_nI (by omega) (by omega)) ?_
    refine tv_aload_n C dk_L_seen_144 rfl ?_
    refine tv_iload_n C dk_L_seen_145 rfl ?_
    refine tv_iconst (v := nI 1) C dk_L_seen_146 (by decide) ?_
    refine tv_iadd C dk_L_seen_147 ?_
    refine tv_ti (v := nI ((30 + (10 * i)) + 1)) (nI_add (30 + (10 * i)) 1) ?_
    refine tv_aload_n C dk_L_seen_148 rfl ?_
    refine tv_iload_n C dk_L_seen_149 rfl ?_
    refine tx_cSW (As := [.ref (E.G.2.1 + 0), .int (nI i)]) C dk_L_seen_150 ml_RL_202 yw_L_firstHolder yi_L_firstHolder (fun w => m_L_firstHolder _ M _ (z_fh hR hb)) rfl rfl (Nat.le_of_ble_eq_true rfl) (Nat.le_of_ble_eq_true rfl) (Nat.le_of_ble_eq_true rfl) (by omega) (by omega) rfl rfl rfl ?_
    refine z_ast (pn_c (n := 30 + 10 * i + 1) (by omega)) C dk_L_seen_153 (vp_in_nI (by omega) (by omega)) ?_
    refine tv_aload_n C dk_L_seen_154 rfl ?_
    refine tv_iload_n C dk_L_seen_155 rfl ?_
    refine tv_iconst (v := nI 2) C dk_L_seen_156 (by decide) ?_
    refine tv_iadd C dk_L_seen_157 ?_
    refine tv_ti (v := nI ((30 + (10 * i)) + 2)) (nI_add (30 + (10 * i)) 2) ?_
    refine tv_aload_n C dk_L_seen_158 rfl ?_
    refine tv_iload_n C dk_L_seen_159 rfl ?_
    refine tx_cSW (As := [.ref (E.G.2.1 + 0), .int (nI i)]) C dk_L_seen_160 ml_RL_204 yw_L_remainingDelay yi_L_remainingDelay (fun w => m_L_remainingDelay _ M _ (z_rd hR hb)) rfl rfl (Nat.le_of_ble_eq_true rfl) (Nat.le_of_ble_eq_true rfl) (Nat.le_of_ble_eq_true rfl) (by omega) (by omega) rfl rfl rfl ?_
    refine z_ast (pn_c (n := 30 + 10 * i + 2) (by omega)) C dk_L_seen_163 (vp_in_nI (by omega) (by omega)) ?_
    refine tv_aload_n C dk_L_seen_164 rfl ?_
    refine tv_iload_n C dk_L_seen_165 rfl ?_
    refine tv_iconst (v := nI 3) C dk_L_seen_166 (by decide) ?_
    refine tv_iadd C dk_L_seen_167 ?_
    refine tv_ti (v := nI ((30 + (10 * i)) + 3)) (nI_add (30 + (10 * i)) 3) ?_
    refine tv_aload_n C dk_L_seen_168 rfl ?_
    refine tv_iload_n C dk_L_seen_169 rfl ?_
    refine tx_cV (b := 0) (As := [.int (nI i)]) C dk_L_seen_170 ml_RL_206 yk_X8_pearls yi_X8_pearls (fun w => tvRx' (m_X8_pearls _ M _) (q_pearls' hR hb)) (by decide) rfl rfl rfl rfl (Nat.le_of_ble_eq_true rfl) (Nat.le_of_ble_eq_true rfl) (Nat.le_of_ble_eq_true rfl) (by omega) (by omega) rfl rfl rfl ?_
    refine z_ast (pn_c (n := 30 + 10 * i + 3) (by omega)) C dk_L_seen_173 (vp_in_nI (by omega) (by omega)) ?_
    refine tv_iconst (v := nI 0) C dk_L_seen_174 (by decide) ?_
    refine tv_istore (L' := [_, _, _, _, _]) (hn := by decide) (hlt := (Nat.le_of_ble_eq_true rfl)) (hno := rfl) C dk_L_seen_175 rfl ?_
    refine w_seen_P C hR hb (k0 := k + 20) (l0 := sl + 120) (fun k1 l1 hk1 hl1 => ?_) (by omega) (by omega) (s (36 + 13 * i + 7)) 0 (by omega) _ _ (by omega) (by omega)
    refine tv_iinc (v := nI (i + 1)) (L' := [_, _, _, _, _]) (hn := by decide) (hlt := (Nat.le_of_ble_eq_true rfl)) (hno := rfl) C dk_L_seen_208 rfl (nI_add i 1) rfl ?_
    refine tv_drop (L2 := [some (.ref (E.G.2.1 + 0)), some (.ref q), some (.int (nI (i + 1))), none, none]) (by simp [tvSubL]) ?_
    refine tv_goto C dk_L_seen_211 ?_
    exact ih (i + 1) (by omega) _ _ (by omega) (by omega)
theorem w_seen_E {E : tvE} {B : Nat} {M : tvM} {s : Nat → Nat} (C : tvC E RL cL_seen 5 (some (.array .int)) 9 300 2000 []) (hR : pOk B (pV M 1) (pL M 1) s) {q : Nat} {f : Nat → Int32} {k0 l0 : Nat} (nx : ∀ k sl : Nat, k ≤ k0 → sl ≤ l0 → tv_W E (tvPX [zA E.G q (zSE s f (s 11))]) k sl M 272 [some (.ref (E.G.2.1 + 0)), some (.ref q), none, none, none] []) (hk0 : k0 ≤ 290) (hl0 : l0 ≤ 1990) : ∀ j i : Nat, i + j = s 11 → ∀ k sl : Nat, k + 3 * j + 0 ≤ k0 → sl + 18 * j + 0 ≤ l0 → tv_W E (tvPX [zA E.G q (zSE s f i)]) k sl M 216 [some (.ref (E.G.2.1 + 0)), some (.ref q), some (.int (nI i)), none, none] [] := by
  have hs := hR.1.2.1
  have s9 := hs.2.2.2.2.2.2.2.1
  have s10 := hs.2.2.2.2.2.2.2.2.1
  have s11 := hs.2.2.2.2.2.2.2.2.2.1
  intro j
  induction j with
  | zero =>
    intro i hi k sl hk hl
    obtain rfl : i = s 11 := by omega
    refine tv_iload_n C dk_L_seen_216 rfl ?_
    refine tv_aload_n C dk_L_seen_217 rfl ?_
    refine tx_cV (b := 0) (As := []) C dk_L_seen_218 ml_RL_179 yk_X8_events yi_X8_events (fun w => tvRy (m_X8_events _ M) (q_events' hR)) (by decide) rfl rfl rfl rfl (Nat.le_of_ble_eq_true rfl) (Nat.le_of_ble_eq_true rfl) (Nat.le_of_ble_eq_true rfl) (by omega) (by omega) rfl rfl rfl ?_
    refine tv_icmp_ge C dk_L_seen_221 (fun _ => ?_) (fun h => absurd ((pn_le (by omega) (by omega)).2 (by omega)) h)
    refine tv_drop (L2 := [some (.ref (E.G.2.1 + 0)), some (.ref q), none, none, none]) (by simp [tvSubL]) ?_
    exact nx _ _ (by omega) (by omega)
  | succ j ih =>
    intro i hi k sl hk hl
    refine tv_iload_n C dk_L_seen_216 rfl ?_
    refine tv_aload_n C dk_L_seen_217 rfl ?_
    refine tx_cV (b := 0) (As := []) C dk_L_seen_218 ml_RL_179 yk_X8_events yi_X8_events (fun w => tvRy (m_X8_events _ M) (q_events' hR)) (by decide) rfl rfl rfl rfl (Nat.le_of_ble_eq_true rfl) (Nat.le_of_ble_eq_true rfl) (Nat.le_of_ble_eq_true rfl) (by omega) (by omega) rfl rfl rfl ?_
    refine tv_icmp_ge C dk_L_seen_221 (fun h => absurd h (fun z => by have := (pn_le (by omega) (by omega)).1 z; omega)) (fun _ => ?_)
    have hj : i < s 11 := by omega
    refine tv_aload_n C dk_L_seen_224 rfl ?_
    refine tv_sipush (v := nI 140) C dk_L_seen_225 (by decide) ?_
    refine tv_iconst (v := nI 3) C dk_L_seen_228 (by decide) ?_
    refine tv_iload_n C dk_L_seen_229 rfl ?_
    refine tv_imul C dk_L_seen_230 ?_
    refine tv_ti (v := nI (3 * i)) (pn_mul 3 i) ?_
    refine tv_iadd C dk_L_seen_231 ?_
    refine tv_ti (v := nI (140 + (3 * i))) (nI_add 140 (3 * i)) ?_
    refine tv_aload_n C dk_L_seen_232 rfl ?_
    refine tv_iload_n C dk_L_seen_233 rfl ?_
    refine tx_cV (b := 0) (As := [.int (nI i)]) C dk_L_seen_234 ml_RL_212 yk_X8_eventKind yi_X8_eventKind (fun w => tvRx' (m_X8_eventKind _ M _) (q_eventKind' hR hj)) (by decide) rfl rfl rfl rfl (Nat.le_of_ble_eq_true rfl) (Nat.le_of_ble_eq_true rfl) (Nat.le_of_ble_eq_true rfl) (by omega) (by omega) rfl rfl rfl ?_
    refine z_ast (pn_c (n := 140 + 3 * i) (by omega)) C dk_L_seen_237 (vp_in_nI (by omega) (by omega)) ?_
    refine tv_aload_n C dk_L_seen_238 rfl ?_
    refine tv_sipush (v := nI 141) C dk_L_seen_239 (by decide) ?_
    refine tv_iconst (v := nI 3) C dk_L_seen_242 (by decide) ?_
    refine tv_iload_n C dk_L_seen_243 rfl ?_
    refine tv_imul C dk_L_seen_244 ?_
    refine tv_ti (v := nI (3 * i)) (pn_mul 3 i) ?_
    refine tv_iadd C dk_L_seen_245 ?_
    refine tv_ti (v := nI (141 + (3 * i))) (nI_add 141 (3 * i)) ?_
    refine tv_aload_n C dk_L_seen_246 rfl ?_
    refine tv_iload_n C dk_L_seen_247 rfl ?_
    refine tx_cV (b := 0) (As := [.int (nI i)]) C dk_L_seen_248 ml_RL_215 yk_X8_eventTime yi_X8_eventTime (fun w => tvRx' (m_X8_eventTime _ M _) (q_eventTime' hR hj)) (by decide) rfl rfl rfl rfl (Nat.le_of_ble_eq_true rfl) (Nat.le_of_ble_eq_true rfl) (Nat.le_of_ble_eq_true rfl) (by omega) (by omega) rfl rfl rfl ?_
    refine z_ast (pn_c (n := 141 + 3 * i) (by omega)) C dk_L_seen_251 (vp_in_nI (by omega) (by omega)) ?_
    refine tv_aload_n C dk_L_seen_252 rfl ?_
    refine tv_sipush (v := nI 142) C dk_L_seen_253 (by decide) ?_
    refine tv_iconst (v := nI 3) C dk_L_seen_256 (by decide) ?_
    refine tv_iload_n C dk_L_seen_257 rfl ?_
    refine tv_imul C dk_L_seen_258 ?_
    refine tv_ti (v := nI (3 * i)) (pn_mul 3 i) ?_
    refine tv_iadd C dk_L_seen_259 ?_
    refine tv_ti (v := nI (142 + (3 * i))) (nI_add 142 (3 * i)) ?_
    refine tv_aload_n C dk_L_seen_260 rfl ?_
    refine tv_iload_n C dk_L_seen_261 rfl ?_
    refine tx_cV (b := 0) (As := [.int (nI i)]) C dk_L_seen_262 ml_RL_218 yk_X8_eventNumber yi_X8_eventNumber (fun w => tvRx' (m_X8_eventNumber _ M _) (q_eventNumber' hR hj)) (by decide) rfl rfl rfl rfl (Nat.le_of_ble_eq_true rfl) (Nat.le_of_ble_eq_true rfl) (Nat.le_of_ble_eq_true rfl) (by omega) (by omega) rfl rfl rfl ?_
    refine z_ast (pn_c (n := 142 + 3 * i) (by omega)) C dk_L_seen_265 (vp_in_nI (by omega) (by omega)) ?_
    refine tv_iinc (v := nI (i + 1)) (L' := [_, _, _, _, _]) (hn := by decide) (hlt := (Nat.le_of_ble_eq_true rfl)) (hno := rfl) C dk_L_seen_266 rfl (nI_add i 1) rfl ?_
    refine tv_drop (L2 := [some (.ref (E.G.2.1 + 0)), some (.ref q), some (.int (nI (i + 1))), none, none]) (by simp [tvSubL]) ?_
    refine tv_goto C dk_L_seen_269 ?_
    exact ih (i + 1) (by omega) _ _ (by omega) (by omega)
theorem a_L_seen (G : tvG) (M : tvM) {B : Nat} {s : Nat → Nat} (hR : pOk B (pV M 1) (pL M 1) s) : tvRunX G yL_seen (tvWd yL_seen cL_seen 5 (some (.array .int))) 9 300 2000 [] [.ref (G.2.1 + 0)] M (sbR M (fun q X1 => X1 = [zA G q (zSeen s)])) := by
  refine tvRunX.of yk_L_seen rfl [some (.ref (G.2.1 + 0)), none, none, none, none] rfl (Nat.le_of_ble_eq_true rfl) ?_
  intro E hG C hI hQ; subst hG
  have hs := hR.1.2.1
  have s9 := hs.2.2.2.2.2.2.2.1
  have s10 := hs.2.2.2.2.2.2.2.2.1
  have s11 := hs.2.2.2.2.2.2.2.2.2.1
  refine tv_sipush (v := nI 200) C dk_L_seen_0 (by decide) ?_
  refine tx_newarr (t0 := 0) (N := 200) (a0 := (200, .inl (fun _ => 0))) C dk_L_seen_3 xa_int rfl rfl (fun U c h => h) (fun _ => rfl) (pn_neg (by omega)) (pn_c (by omega)) (by decide) (Nat.le_of_ble_eq_true rfl) (Nat.le_of_ble_eq_true rfl) (fun q => ?_)
  show tv_W E (tvPX [zA E.G q (fun _ => 0)]) _ _ _ _ _ _
  refine tv_astore_n (L' := [_, _, _, _, _]) (hn := by decide) (hlt := (Nat.le_of_ble_eq_true rfl)) (hno := rfl) C dk_L_seen_5 rfl ?_
  refine tv_aload_n C dk_L_seen_6 rfl ?_
  refine tv_iconst (v := nI 0) C dk_L_seen_7 (by decide) ?_
  refine tv_aload_n C dk_L_seen_8 rfl ?_
  refine tx_cV (b := 0) (As := []) C dk_L_seen_9 ml_RL_170 yk_X8_time yi_X8_time (fun w => tvRy (m_X8_time _ M) (q_time' hR)) (by decide) rfl rfl rfl rfl (Nat.le_of_ble_eq_true rfl) (Nat.le_of_ble_eq_true rfl) (Nat.le_of_ble_eq_true rfl) (by omega) (by omega) rfl rfl rfl ?_
  refine z_ast (pn_c (n := 0) (by omega)) C dk_L_seen_12 (vp_in_nI (by omega) (by omega)) ?_
  refine tv_aload_n C dk_L_seen_13 rfl ?_
  refine tv_iconst (v := nI 1) C dk_L_seen_14 (by decide) ?_
  refine tv_aload_n C dk_L_seen_15 rfl ?_
  refine tx_cV (b := 0) (As := []) C dk_L_seen_16 ml_RL_173 yk_X8_alarm yi_X8_alarm (fun w => tvRy (m_X8_alarm _ M) (q_alarm' hR)) (by decide) rfl rfl rfl rfl (Nat.le_of_ble_eq_true rfl) (Nat.le_of_ble_eq_true rfl) (Nat.le_of_ble_eq_true rfl) (by omega) (by omega) rfl rfl rfl ?_
  refine z_ast (pn_c (n := 1) (by omega)) C dk_L_seen_19 (vp_in_nI (by omega) (by omega)) ?_
  refine tv_aload_n C dk_L_seen_20 rfl ?_
  refine tv_iconst (v := nI 2) C dk_L_seen_21 (by decide) ?_
  refine tv_aload_n C dk_L_seen_22 rfl ?_
  refine tx_cV (b := 0) (As := []) C dk_L_seen_23 ml_RL_176 yk_X8_holders yi_X8_holders (fun w => tvRy (m_X8_holders _ M) (q_holders' hR)) (by decide) rfl rfl rfl rfl (Nat.le_of_ble_eq_true rfl) (Nat.le_of_ble_eq_true rfl) (Nat.le_of_ble_eq_true rfl) (by omega) (by omega) rfl rfl rfl ?_
  refine z_ast (pn_c (n := 2) (by omega)) C dk_L_seen_26 (vp_in_nI (by omega) (by omega)) ?_
  refine tv_aload_n C dk_L_seen_27 rfl ?_
  refine tv_iconst (v := nI 3) C dk_L_seen_28 (by decide) ?_
  refine tv_aload_n C dk_L_seen_29 rfl ?_
  refine tx_cV (b := 0) (As := []) C dk_L_seen_30 ml_RL_127 yk_X8_boxes yi_X8_boxes (fun w => tvRy (m_X8_boxes _ M) (q_boxes' hR)) (by decide) rfl rfl rfl rfl (Nat.le_of_ble_eq_true rfl) (Nat.le_of_ble_eq_true rfl) (Nat.le_of_ble_eq_true rfl) (by omega) (by omega) rfl rfl rfl ?_
  refine z_ast (pn_c (n := 3) (by omega)) C dk_L_seen_33 (vp_in_nI (by omega) (by omega)) ?_
  refine tv_aload_n C dk_L_seen_34 rfl ?_
  refine tv_iconst (v := nI 4) C dk_L_seen_35 (by decide) ?_
  refine tv_aload_n C dk_L_seen_36 rfl ?_
  refine tx_cV (b := 0) (As := []) C dk_L_seen_37 ml_RL_179 yk_X8_events yi_X8_events (fun w => tvRy (m_X8_events _ M) (q_events' hR)) (by decide) rfl rfl rfl rfl (Nat.le_of_ble_eq_true rfl) (Nat.le_of_ble_eq_true rfl) (Nat.le_of_ble_eq_true rfl) (by omega) (by omega) rfl rfl rfl ?_
  refine z_ast (pn_c (n := 4) (by omega)) C dk_L_seen_40 (vp_in_nI (by omega) (by omega)) ?_
  refine tv_aload_n C dk_L_seen_41 rfl ?_
  refine tv_iconst (v := nI 5) C dk_L_seen_42 (by decide) ?_
  refine tv_aload_n C dk_L_seen_43 rfl ?_
  refine tx_cV (b := 0) (As := []) C dk_L_seen_44 ml_RL_182 yk_X8_totalValueByLedger yi_X8_totalValueByLedger (fun w => tvRyl (m_X8_totalValueByLedger _ M) (q_ledger' hR)) (by decide) rfl rfl rfl rfl (Nat.le_of_ble_eq_true rfl) (Nat.le_of_ble_eq_true rfl) (Nat.le_of_ble_eq_true rfl) (by omega) (by omega) rfl rfl rfl ?_
  refine tv_l2i C dk_L_seen_47 ?_
  refine z_ast (pn_c (n := 5) (by omega)) C dk_L_seen_48 (vp_in_nI (by omega) (by omega)) ?_
  refine tv_aload_n C dk_L_seen_49 rfl ?_
  refine tv_bipush (v := nI 6) C dk_L_seen_50 (by decide) ?_
  refine tv_aload_n C dk_L_seen_52 rfl ?_
  refine tv_sipush (v := nI 400) C dk_L_seen_53 (by decide) ?_
  refine tx_cV (b := 0) (As := [.int (nI 400)]) C dk_L_seen_56 ml_RL_186 yk_X8_lowMinutes yi_X8_lowMinutes (fun w => tvRx' (m_X8_lowMinutes _ M _) ((q_low' hR (n := 400) (by omega)).1)) (by decide) rfl rfl rfl rfl (Nat.le_of_ble_eq_true rfl) (Nat.le_of_ble_eq_true rfl) (Nat.le_of_ble_eq_true rfl) (by omega) (by omega) rfl rfl rfl ?_
  refine z_ast (pn_c (n := 6) (by omega)) C dk_L_seen_59 (vp_in_nI (by omega) (by omega)) ?_
  refine tv_aload_n C dk_L_seen_60 rfl ?_
  refine tv_bipush (v := nI 7) C dk_L_seen_61 (by decide) ?_
  refine tv_aload_n C dk_L_seen_63 rfl ?_
  refine tx_cV (b := 0) (As := []) C dk_L_seen_64 ml_RL_189 yk_X8_isLowTide yi_X8_isLowTide (fun w => tvRy (m_X8_isLowTide _ M) (q_isLow' hR)) (by decide) rfl rfl rfl rfl (Nat.le_of_ble_eq_true rfl) (Nat.le_of_ble_eq_true rfl) (Nat.le_of_ble_eq_true rfl) (by omega) (by omega) rfl rfl rfl ?_
  have key : tv_W E (tvPX [zA E.G q (upd (upd (upd (upd (upd (upd (upd (fun _ => 0) 0 (nI (s 0))) 1 (nI (s 3))) 2 (nI (s 9))) 3 (nI (s 10))) 4 (nI (s 11))) 5 (lN (pSu s)).toInt32) 6 (nI (tvCt (pLc (s 1) (s 2) (s 0)) 400)))]) (0 + 1 + 0 + 0 + 0 + 0 + 0 + 0 + 1 + 0) (0 + 200 + 0 + 0 + 0 + 0 + 0 + 0 + 6 + 0) M 75 [some (.ref (E.G.2.1 + 0)), some (.ref q), none, none, none] [.int (if s 0 % s 1 < s 2 then 1 else 0), .int (nI 7), .ref q] := by
    refine z_ast (pn_c (n := 7) (by omega)) C dk_L_seen_75 (vp_in_nI (by omega) (by omega)) ?_
    refine tv_iconst (v := nI 0) C dk_L_seen_76 (by decide) ?_
    refine tv_istore_n (L' := [_, _, _, _, _]) (hn := by decide) (hlt := (Nat.le_of_ble_eq_true rfl)) (hno := rfl) C dk_L_seen_77 rfl ?_
    refine w_seen_H (f := zS0 s) C hR (k0 := 18) (l0 := 302) (fun k1 l1 hk1 hl1 => ?_) (by omega) (by omega) (s 9) 0 (by omega) _ _ (by omega) (by omega)
    refine tv_iconst (v := nI 0) C dk_L_seen_118 (by decide) ?_
    refine tv_istore_n (L' := [_, _, _, _, _]) (hn := by decide) (hlt := (Nat.le_of_ble_eq_true rfl)) (hno := rfl) C dk_L_seen_119 rfl ?_
    refine w_seen_B C hR (k0 := 218) (l0 := 1502) (fun k1 l1 hk1 hl1 => ?_) (by omega) (by omega) (s 10) 0 (by omega) _ _ (by omega) (by omega)
    refine tv_iconst (v := nI 0) C dk_L_seen_214 (by decide) ?_
    refine tv_istore_n (L' := [_, _, _, _, _]) (hn := by decide) (hlt := (Nat.le_of_ble_eq_true rfl)) (hno := rfl) C dk_L_seen_215 rfl ?_
    refine w_seen_E C hR (k0 := 254) (l0 := 1718) (fun k1 l1 hk1 hl1 => ?_) (by omega) (by omega) (s 11) 0 (by omega) _ _ (by omega) (by omega)
    refine tv_aload_n C dk_L_seen_272 rfl ?_
    exact tx_aret C (Or.inr ⟨_, rfl⟩) hQ dk_L_seen_273 ⟨q, rfl, rfl, rfl⟩ (by omega) (by omega)
  by_cases hlow : s 0 % s 1 < s 2
  · skip
    rw [if_pos hlow] at key ⊢
    refine tv_if_eq C dk_L_seen_67 (fun h => absurd h (by decide)) (fun _ => ?_)
    refine tv_iconst (v := nI 1) C dk_L_seen_70 (by decide) ?_
    refine tv_goto C dk_L_seen_71 ?_
    exact key
  · skip
    rw [if_neg hlow] at key ⊢
    refine tv_if_eq C dk_L_seen_67 (fun _ => ?_) (fun h => absurd rfl h)
    refine tv_iconst (v := nI 0) C dk_L_seen_74 (by decide) ?_
    exact key
theorem a_L_areAlike (G : tvG) (X : va_W) (M : tvM) {i j qa qb : Nat} {f : Nat → Int32} (hi : X[i]? = some (zA G qa f)) (hj : X[j]? = some (zA G qb f)) : tvRunX G yL_areAlike (tvWd yL_areAlike cL_areAlike 3 (some .boolean)) 1 0 0 X [.ref qa, .ref qb] M (sbV (some (.int 1)) M (fun X1 => X1 = X)) := by
  refine tvRunX.of yk_L_areAlike rfl [some (.ref qa), some (.ref qb), none] rfl (Nat.le_of_ble_eq_true rfl) ?_
  intro E hG C hI hQ; subst hG
  refine tv_iconst (v := nI 0) C dk_L_areAlike_0 (by decide) ?_
  refine tv_istore_n (L' := [_, _, _]) (hn := by decide) (hlt := (Nat.le_of_ble_eq_true rfl)) (hno := rfl) C dk_L_areAlike_1 rfl ?_
  have key : ∀ r t : Nat, t + r = 200 → tv_W E (tvPX X) 0 0 M 2 [some (.ref qa), some (.ref qb), some (.int (nI t))] [] := by
    intro r
    induction r with
    | zero =>
      intro t ht
      refine tv_iload_n C dk_L_areAlike_2 rfl ?_
      refine tv_aload_n C dk_L_areAlike_3 rfl ?_
      refine tx_alen C dk_L_areAlike_4 hi ?_
      refine tv_icmp_ge C dk_L_areAlike_5 (fun _ => ?_) (fun h => absurd ((pn_le (by omega) (by omega)).2 (by omega)) h)
      refine tv_iconst (v := nI 1) C dk_L_areAlike_25 (by decide) ?_
      exact tx_iret C hQ dk_L_areAlike_26 rfl ⟨rfl, rfl, rfl⟩ (by omega) (by omega)
    | succ r ih =>
      intro t ht
      refine tv_iload_n C dk_L_areAlike_2 rfl ?_
      refine tv_aload_n C dk_L_areAlike_3 rfl ?_
      refine tx_alen C dk_L_areAlike_4 hi ?_
      refine tv_icmp_ge C dk_L_areAlike_5 (fun h => absurd h (fun z => by have := (pn_le (a := 200) (b := t) (by omega) (by omega)).1 z; omega)) (fun _ => ?_)
      refine tv_aload_n C dk_L_areAlike_8 rfl ?_
      refine tv_iload_n C dk_L_areAlike_9 rfl ?_
      refine tx_iald (pn_c (n := t) (by omega)) C dk_L_areAlike_10 hi (vp_in_nI (by omega) (by omega)) ?_
      refine tv_aload_n C dk_L_areAlike_11 rfl ?_
      refine tv_iload_n C dk_L_areAlike_12 rfl ?_
      refine tx_iald (pn_c (n := t) (by omega)) C dk_L_areAlike_13 hj (vp_in_nI (by omega) (by omega)) ?_
      refine tv_icmp_eq C dk_L_areAlike_14 (fun _ => ?_) (fun h => absurd rfl h)
      refine tv_iinc (v := nI (t + 1)) (L' := [_, _, _]) (hn := by decide) (hlt := (Nat.le_of_ble_eq_true rfl)) (hno := rfl) C dk_L_areAlike_19 rfl (nI_add t 1) rfl ?_
      refine tv_goto C dk_L_areAlike_22 ?_
      exact ih (t + 1) (by omega)
  exact key 200 0 (by omega)
