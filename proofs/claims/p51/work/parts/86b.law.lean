theorem a_L_acts (G : tvG) (M : tvM) {i : Nat} (hi : i < 1000) {B : Nat} {s : Nat → Nat} {x n0 : Nat} {S : Nat → Nat → Nat} (hG : pG B M s x n0 S) (h9 : 4 ≤ s 9) (h0 : zE M) (hB : B + 14400 ≤ 10000000) : tvRunX G yL_acts (tvWd yL_acts cL_acts 6 (some .int)) 12 300 6000 [] [.ref (G.2.1 + 0), .ref G.sb, .int (nI i)] M (aP (B + 14400) s) := by
  refine tvRunX.of yk_L_acts rfl [some (.ref (G.2.1 + 0)), some (.ref G.sb), some (.int (nI i)), none, none, none] rfl (Nat.le_of_ble_eq_true rfl) ?_
  intro E hG C hI hQ; subst hG
  refine tv_aload_n C dk_L_acts_0 rfl ?_
  refine tv_iload_n C dk_L_acts_1 rfl ?_
  refine tv_iconst (v := nI 1) C dk_L_acts_2 (by decide) ?_
  refine tv_iadd C dk_L_acts_3 ?_
  refine tv_ti (v := nI (i + 1)) (nI_add i 1) ?_
  refine tv_iconst (v := nI 5) C dk_L_acts_4 (by decide) ?_
  refine tx_callS (As := [.ref E.G.sb, .int (nI (i + 1)), .int (nI 5)]) C dk_L_acts_5 ml_RL_109 yk_L_in yi_L_in (fun w => a_L_in _ M (i + 1) 5 (by omega) (by omega) (by omega)) rfl rfl (Nat.le_of_ble_eq_true rfl) (Nat.le_of_ble_eq_true rfl) (Nat.le_of_ble_eq_true rfl) (by omega) (by omega) (fun v1 X9 M9 h1 => ?_) (fun e X1 M1 h => by obtain ⟨_, _, h, _⟩ := h; cases h)
  obtain ⟨a, h_a, e1, e2, e3⟩ := h1
  cases e1
  rw [e2, e3, List.append_nil]
  show tv_W E _ _ _ _ _ _ [.int (nI a)]
  refine tv_istore_n (L' := [_, _, _, _, _, _]) (hn := by decide) (hlt := (Nat.le_of_ble_eq_true rfl)) (hno := rfl) C dk_L_acts_8 rfl ?_
  refine tv_aload_n C dk_L_acts_9 rfl ?_
  refine tv_iload_n C dk_L_acts_10 rfl ?_
  refine tv_iconst (v := nI 2) C dk_L_acts_11 (by decide) ?_
  refine tv_iadd C dk_L_acts_12 ?_
  refine tv_ti (v := nI (i + 2)) (nI_add i 2) ?_
  refine tv_iconst (v := nI 5) C dk_L_acts_13 (by decide) ?_
  refine tx_callS (As := [.ref E.G.sb, .int (nI (i + 2)), .int (nI 5)]) C dk_L_acts_14 ml_RL_109 yk_L_in yi_L_in (fun w => a_L_in _ M (i + 2) 5 (by omega) (by omega) (by omega)) rfl rfl (Nat.le_of_ble_eq_true rfl) (Nat.le_of_ble_eq_true rfl) (Nat.le_of_ble_eq_true rfl) (by omega) (by omega) (fun v1 X9 M9 h1 => ?_) (fun e X1 M1 h => by obtain ⟨_, _, h, _⟩ := h; cases h)
  obtain ⟨b, h_b, e1, e2, e3⟩ := h1
  cases e1
  rw [e2, e3, List.append_nil]
  show tv_W E _ _ _ _ _ _ [.int (nI b)]
  refine tv_istore (L' := [_, _, _, _, _, _]) (hn := by decide) (hlt := (Nat.le_of_ble_eq_true rfl)) (hno := rfl) C dk_L_acts_17 rfl ?_
  refine tv_aload_n C dk_L_acts_19 rfl ?_
  refine tv_iload_n C dk_L_acts_20 rfl ?_
  refine tv_iconst (v := nI 3) C dk_L_acts_21 (by decide) ?_
  refine tv_iadd C dk_L_acts_22 ?_
  refine tv_ti (v := nI (i + 3)) (nI_add i 3) ?_
  refine tv_bipush (v := nI 60) C dk_L_acts_23 (by decide) ?_
  refine tx_callS (As := [.ref E.G.sb, .int (nI (i + 3)), .int (nI 60)]) C dk_L_acts_25 ml_RL_109 yk_L_in yi_L_in (fun w => a_L_in _ M (i + 3) 60 (by omega) (by omega) (by omega)) rfl rfl (Nat.le_of_ble_eq_true rfl) (Nat.le_of_ble_eq_true rfl) (Nat.le_of_ble_eq_true rfl) (by omega) (by omega) (fun v1 X9 M9 h1 => ?_) (fun e X1 M1 h => by obtain ⟨_, _, h, _⟩ := h; cases h)
  obtain ⟨c, h_c, e1, e2, e3⟩ := h1
  cases e1
  rw [e2, e3, List.append_nil]
  show tv_W E _ _ _ _ _ _ [.int (nI c)]
  refine tv_istore (L' := [_, _, _, _, _, _]) (hn := by decide) (hlt := (Nat.le_of_ble_eq_true rfl)) (hno := rfl) C dk_L_acts_28 rfl ?_
  refine tv_aload_n C dk_L_acts_30 rfl ?_
  refine tv_iload_n C dk_L_acts_31 rfl ?_
  refine tv_bipush (v := nI 26) C dk_L_acts_32 (by decide) ?_
  refine tx_callS (As := [.ref E.G.sb, .int (nI i), .int (nI 26)]) C dk_L_acts_34 ml_RL_109 yk_L_in yi_L_in (fun w => a_L_in _ M i 26 (by omega) (by omega) (by omega)) rfl rfl (Nat.le_of_ble_eq_true rfl) (Nat.le_of_ble_eq_true rfl) (Nat.le_of_ble_eq_true rfl) (by omega) (by omega) (fun v1 X9 M9 h1 => ?_) (fun e X1 M1 h => by obtain ⟨_, _, h, _⟩ := h; cases h)
  obtain ⟨d, h_d, e1, e2, e3⟩ := h1
  cases e1
  rw [e2, e3, List.append_nil]
  show tv_W E _ _ _ _ _ _ [.int (nI d)]
  have hR := hG.1.1
  have hX := hG.1.2
  have hB4 : B + 240 ≤ 10000000 := by omega
  rcases (show (0 ≤ d ∧ d ≤ 0) ∨ (1 ≤ d ∧ d ≤ 1) ∨ (2 ≤ d ∧ d ≤ 2) ∨ (3 ≤ d ∧ d ≤ 8) ∨ (9 ≤ d ∧ d ≤ 11) ∨ (12 ≤ d ∧ d ≤ 12) ∨ (13 ≤ d ∧ d ≤ 15) ∨ (16 ≤ d ∧ d ≤ 17) ∨ (18 ≤ d ∧ d ≤ 18) ∨ (19 ≤ d ∧ d ≤ 21) ∨ (22 ≤ d ∧ d ≤ 25) by omega) with ⟨d1, d2⟩ | ⟨d1, d2⟩ | ⟨d1, d2⟩ | ⟨d1, d2⟩ | ⟨d1, d2⟩ | ⟨d1, d2⟩ | ⟨d1, d2⟩ | ⟨d1, d2⟩ | ⟨d1, d2⟩ | ⟨d1, d2⟩ | ⟨d1, d2⟩
  · skip
    refine tv_swd C (zsw_0 d1 d2) ?_
    refine tv_aload_n C dk_L_acts_140 rfl ?_
    refine tv_bipush (v := nI 20) C dk_L_acts_141 (by decide) ?_
    refine tv_iload C dk_L_acts_143 rfl ?_
    refine tv_imul C dk_L_acts_145 ?_
    refine tv_ti (v := nI (20 * c)) (pn_mul 20 c) ?_
    obtain ⟨y, M1, hw9, hk9⟩ := k_addHolder hB4 hG (nI (20 * c)) (fun q => absurd q (by omega))
    refine tx_cSW (As := [.ref (E.G.2.1 + 0), .int (nI (20 * c))]) C dk_L_acts_146 ml_RL_106 yw_L_addHolder yi_L_addHolder (fun w => m_L_addHolder _ M _ hw9) rfl rfl (Nat.le_of_ble_eq_true rfl) (Nat.le_of_ble_eq_true rfl) (Nat.le_of_ble_eq_true rfl) (by omega) (by omega) rfl rfl rfl ?_
    exact tx_iret C hQ dk_L_acts_149 rfl (aP_of hG h0 (by omega) (by omega) hB hk9) (by omega) (by omega)
  · skip
    refine tv_swd C (zsw_1 d1 d2) ?_
    refine tv_aload_n C dk_L_acts_150 rfl ?_
    refine tv_iload_n C dk_L_acts_151 rfl ?_
    refine tv_iload C dk_L_acts_152 rfl ?_
    refine tv_iload C dk_L_acts_154 rfl ?_
    refine tv_iconst (v := nI 3) C dk_L_acts_156 (by decide) ?_
    refine tv_iadd C dk_L_acts_157 ?_
    refine tv_ti (v := nI (c + 3)) (nI_add c 3) ?_
    obtain ⟨y, M1, hw9, hk9⟩ := k_addBox hB4 hG (nI a) (nI b) (nI (c + 3))
    refine tx_cSW (As := [.ref (E.G.2.1 + 0), .int (nI a), .int (nI b), .int (nI (c + 3))]) C dk_L_acts_158 ml_RL_113 yw_L_addBox yi_L_addBox (fun w => m_L_addBox _ M _ _ _ hw9) rfl rfl (Nat.le_of_ble_eq_true rfl) (Nat.le_of_ble_eq_true rfl) (Nat.le_of_ble_eq_true rfl) (by omega) (by omega) rfl rfl rfl ?_
    exact tx_iret C hQ dk_L_acts_161 rfl (aP_of hG h0 (by omega) (by omega) hB hk9) (by omega) (by omega)
  · skip
    refine tv_swd C (zsw_2 d1 d2) ?_
    refine tv_aload_n C dk_L_acts_162 rfl ?_
    refine tv_bipush (v := nI 8) C dk_L_acts_163 (by decide) ?_
    refine tv_iload C dk_L_acts_165 rfl ?_
    refine tv_imul C dk_L_acts_167 ?_
    refine tv_ti (v := nI (8 * c)) (pn_mul 8 c) ?_
    refine tv_bipush (v := nI 40) C dk_L_acts_168 (by decide) ?_
    refine tv_iadd C dk_L_acts_170 ?_
    refine tv_ti (v := nI ((8 * c) + 40)) (nI_add (8 * c) 40) ?_
    refine tv_iconst (v := nI 3) C dk_L_acts_171 (by decide) ?_
    refine tv_iload C dk_L_acts_172 rfl ?_
    refine tv_imul C dk_L_acts_174 ?_
    refine tv_ti (v := nI (3 * c)) (pn_mul 3 c) ?_
    obtain ⟨y, M1, hw9, hk9⟩ := k_setTide hB4 hG (nI (8 * c + 40)) (nI (3 * c))
    refine tx_cSW (As := [.ref (E.G.2.1 + 0), .int (nI ((8 * c) + 40)), .int (nI (3 * c))]) C dk_L_acts_175 ml_RL_116 yw_L_setTide yi_L_setTide (fun w => m_L_setTide _ M _ _ hw9) rfl rfl (Nat.le_of_ble_eq_true rfl) (Nat.le_of_ble_eq_true rfl) (Nat.le_of_ble_eq_true rfl) (by omega) (by omega) rfl rfl rfl ?_
    exact tx_iret C hQ dk_L_acts_178 rfl (aP_of hG h0 (by omega) (by omega) hB hk9) (by omega) (by omega)
  · skip
    refine tv_swd C (zsw_3 d1 d2) ?_
    refine tv_aload_n C dk_L_acts_179 rfl ?_
    refine tv_iload_n C dk_L_acts_180 rfl ?_
    refine tv_iload C dk_L_acts_181 rfl ?_
    refine tv_iload C dk_L_acts_183 rfl ?_
    obtain ⟨y, M1, hw9, hk9⟩ := k_turnKey hB4 hG (nI a) (nI b) (nI (if c % 7 = 0 then 500 + c else 7 * b))
    refine tx_callS (As := [.ref (E.G.2.1 + 0), .int (nI a), .int (nI b), .int (nI c)]) C dk_L_acts_185 ml_RL_124 yk_L_turns yi_L_turns (fun w => a_L_turns _ M a b c (by omega) (by omega) (by omega) hw9) rfl rfl (Nat.le_of_ble_eq_true rfl) (Nat.le_of_ble_eq_true rfl) (Nat.le_of_ble_eq_true rfl) (by omega) (by omega) (fun v1 X9 M9 h1 => ?_) (fun e X9 M9 h9 => by cases h9.1)
    obtain ⟨e1, e2, e3⟩ := h1
    cases e1
    rw [e2, e3, List.append_nil]
    show tv_W E _ _ _ _ _ _ [.int y]
    exact tx_iret C hQ dk_L_acts_188 rfl (aP_of hG h0 (by omega) (by omega) hB hk9) (by omega) (by omega)
  · skip
    refine tv_swd C (zsw_9 d1 d2) ?_
    have key : ∀ kk ll : Nat, kk ≤ 2 → ll ≤ 12 → tv_W E (tvPX []) kk ll M 227 [some (.ref (E.G.2.1 + 0)), some (.ref E.G.sb), some (.int (nI i)), some (.int (nI a)), some (.int (nI b)), some (.int (nI c))] [] := by
      intro kk ll hkk hll
      refine tv_aload_n C dk_L_acts_227 rfl ?_
      refine tv_iload_n C dk_L_acts_228 rfl ?_
      refine tv_iload C dk_L_acts_229 rfl ?_
      refine tv_bipush (v := nI 7) C dk_L_acts_231 (by decide) ?_
      obtain ⟨y, M1, hw9, hk9⟩ := k_turnKey hB4 hG (nI a) (nI b) (nI (if 7 % 7 = 0 then 500 + 7 else 7 * b))
      refine tx_callS (As := [.ref (E.G.2.1 + 0), .int (nI a), .int (nI b), .int (nI 7)]) C dk_L_acts_233 ml_RL_124 yk_L_turns yi_L_turns (fun w => a_L_turns _ M a b 7 (by omega) (by omega) (by omega) hw9) rfl rfl (Nat.le_of_ble_eq_true rfl) (Nat.le_of_ble_eq_true rfl) (Nat.le_of_ble_eq_true rfl) (by omega) (by omega) (fun v1 X9 M9 h1 => ?_) (fun e X9 M9 h9 => by cases h9.1)
      obtain ⟨e1, e2, e3⟩ := h1
      cases e1
      rw [e2, e3, List.append_nil]
      show tv_W E _ _ _ _ _ _ [.int y]
      exact tx_iret C hQ dk_L_acts_236 rfl (aP_of hG h0 (by omega) (by omega) hB hk9) (by omega) (by omega)
    refine tv_iload_n C dk_L_acts_189 rfl ?_
    refine tv_aload_n C dk_L_acts_190 rfl ?_
    refine tx_cV (b := 0) (As := []) C dk_L_acts_191 ml_RL_127 yk_X8_boxes yi_X8_boxes (fun w => tvRy (m_X8_boxes _ M) (q_boxes' hR)) (by decide) rfl rfl rfl rfl (Nat.le_of_ble_eq_true rfl) (Nat.le_of_ble_eq_true rfl) (Nat.le_of_ble_eq_true rfl) (by omega) (by omega) rfl rfl rfl ?_
    have s10 := hR.1.2.1.2.2.2.2.2.2.2.2.1
    by_cases q : s 10 ≤ a
    · skip
      refine tv_icmp_ge C dk_L_acts_194 (fun _ => ?_) (fun h => absurd ((pn_le (by omega) (by omega)).2 q) h)
      exact key _ _ (by omega) (by omega)
    · skip
      refine tv_icmp_ge C dk_L_acts_194 (fun h => absurd h (fun e => q ((pn_le (by omega) (by omega)).1 e))) (fun _ => ?_)
      refine tv_aload_n C dk_L_acts_197 rfl ?_
      refine tv_iload_n C dk_L_acts_198 rfl ?_
      refine tv_aload_n C dk_L_acts_199 rfl ?_
      refine tv_iload_n C dk_L_acts_200 rfl ?_
      refine tv_iconst (v := nI 2) C dk_L_acts_201 (by decide) ?_
      refine tv_iadd C dk_L_acts_202 ?_
      refine tv_ti (v := nI (i + 2)) (nI_add i 2) ?_
      refine tv_iconst (v := nI 4) C dk_L_acts_203 (by decide) ?_
      refine tx_callS (As := [.ref E.G.sb, .int (nI (i + 2)), .int (nI 4)]) C dk_L_acts_204 ml_RL_109 yk_L_in yi_L_in (fun w => a_L_in _ M (i + 2) 4 (by omega) (by omega) (by omega)) rfl rfl (Nat.le_of_ble_eq_true rfl) (Nat.le_of_ble_eq_true rfl) (Nat.le_of_ble_eq_true rfl) (by omega) (by omega) (fun v1 X9 M9 h1 => ?_) (fun e X1 M1 h => by obtain ⟨_, _, h, _⟩ := h; cases h)
      obtain ⟨h, h_h, e1, e2, e3⟩ := h1
      cases e1
      rw [e2, e3, List.append_nil]
      show tv_W E _ _ _ _ _ _ [.int (nI h), .int (nI a), .ref (E.G.2.1 + 0)]
      refine tv_iconst (v := nI 1) C dk_L_acts_207 (by decide) ?_
      obtain ⟨y, M1, hw9, hk9⟩ := k_turnKey hB4 hG (nI a) (nI h) (nI (if 1 % 7 = 0 then 500 + 1 else 7 * h))
      refine tx_callS (As := [.ref (E.G.2.1 + 0), .int (nI a), .int (nI h), .int (nI 1)]) C dk_L_acts_208 ml_RL_124 yk_L_turns yi_L_turns (fun w => a_L_turns _ M a h 1 (by omega) (by omega) (by omega) hw9) rfl rfl (Nat.le_of_ble_eq_true rfl) (Nat.le_of_ble_eq_true rfl) (Nat.le_of_ble_eq_true rfl) (by omega) (by omega) (fun v1 X9 M9 h1 => ?_) (fun e X9 M9 h9 => by cases h9.1)
      obtain ⟨e1, e2, e3⟩ := h1
      cases e1
      rw [e2, e3, List.append_nil]
      show tv_W E _ _ _ _ _ _ [.int y]
      rcases hk9 with ⟨v, s', x', n', S', t1, t2, t3, t4, t5, t6, t7, t8⟩ | ⟨t1, t2⟩ | ⟨t1, -⟩
      · skip
        rw [t3]
        refine tv_if_le C dk_L_acts_211 (fun e => absurd ((pn_le (a := v) (b := 0) (by omega) (by omega)).1 e) (by omega)) (fun _ => ?_)
        refine tv_aload_n C dk_L_acts_214 rfl ?_
        refine tv_iconst (v := nI 1) C dk_L_acts_215 (by decide) ?_
        refine tv_iload C dk_L_acts_216 rfl ?_
        refine tv_iconst (v := nI 4) C dk_L_acts_218 (by decide) ?_
        refine tv_irem C dk_L_acts_219 (by decide) ?_
        refine tv_ti (v := nI (c % 4)) (pn_rem (by omega) (by omega) (by omega)) ?_
        refine tv_iadd C dk_L_acts_220 ?_
        refine tv_ti (v := nI (1 + (c % 4))) (nI_add 1 (c % 4)) ?_
        obtain ⟨v2, M2, s2, ⟨u1, u2, u3⟩, u4, u5, u6, u7⟩ := z_wait (m := 1 + c % 4) (by omega) t6 (by omega) (by omega)
        refine tx_cSW (As := [.ref (E.G.2.1 + 0), .int (nI (1 + (c % 4)))]) C dk_L_acts_221 ml_RL_119 yw_L_pass yi_L_pass (fun w => m_L_pass _ M1 _ (wOut_ok u5)) rfl rfl (Nat.le_of_ble_eq_true rfl) (Nat.le_of_ble_eq_true rfl) (Nat.le_of_ble_eq_true rfl) (by omega) (by omega) rfl rfl rfl ?_
        refine tv_goto C dk_L_acts_224 ?_
        have h01 : zE M1 := (congrFun (t8.1 243 (by omega)) 1).trans h0
        exact tx_iret C hQ dk_L_acts_236 rfl ⟨_, rfl, rfl, (congrFun (u7.1 243 (by omega)) 1).trans h01, Or.inl ⟨v2, s2, _, _, _, rfl, u4, by omega, by omega, u6.up (by omega) hB⟩⟩ (by omega) (by omega)
      · skip
        rw [t2]
        have hle : y ≤ 0 := by rcases t1 with rfl | rfl | rfl <;> decide
        refine tv_if_le C dk_L_acts_211 (fun _ => ?_) (fun e => absurd hle e)
        exact key _ _ (by omega) (by omega)
      · skip
        exact absurd t1 (z_right hR hX (nI a) h_h)
  · skip
    refine tv_swd C (zsw_12 d1 d2) ?_
    refine tv_aload_n C dk_L_acts_237 rfl ?_
    refine tv_iload C dk_L_acts_238 rfl ?_
    refine tv_iload C dk_L_acts_240 rfl ?_
    refine tv_iconst (v := nI 3) C dk_L_acts_242 (by decide) ?_
    refine tv_irem C dk_L_acts_243 (by decide) ?_
    refine tv_ti (v := nI (c % 3)) (pn_rem (by omega) (by omega) (by omega)) ?_
    have key : ∀ v : Nat, v < 1000 → tv_W E (tvPX []) (0 + 0 + 0 + 0 + 0) (0 + 0 + 0 + 0 + 0) M 257 [some (.ref (E.G.2.1 + 0)), some (.ref E.G.sb), some (.int (nI i)), some (.int (nI a)), some (.int (nI b)), some (.int (nI c))] [.int (nI v), .int (nI b), .ref (E.G.2.1 + 0)] := by
      intro v hv
      refine tv_bipush (v := nI 7) C dk_L_acts_257 (by decide) ?_
      refine tv_iload C dk_L_acts_259 rfl ?_
      refine tv_imul C dk_L_acts_261 ?_
      refine tv_ti (v := nI (7 * b)) (pn_mul 7 b) ?_
      obtain ⟨y, M1, hw9, hk9⟩ := k_changeCode hB4 hG (nI b) (nI v) (nI (7 * b)) (fun h _ e => by rw [(pn_eq (by omega) (by omega)).1 e])
      refine tx_cSW (As := [.ref (E.G.2.1 + 0), .int (nI b), .int (nI v), .int (nI (7 * b))]) C dk_L_acts_262 ml_RL_130 yw_L_changeCode yi_L_changeCode (fun w => m_L_changeCode _ M _ _ _ hw9) rfl rfl (Nat.le_of_ble_eq_true rfl) (Nat.le_of_ble_eq_true rfl) (Nat.le_of_ble_eq_true rfl) (by omega) (by omega) rfl rfl rfl ?_
      exact tx_iret C hQ dk_L_acts_265 rfl (aP_of hG h0 (by omega) (by omega) hB hk9) (by omega) (by omega)
    by_cases q : c % 3 = 0
    · skip
      refine tv_if_ne C dk_L_acts_244 (fun h => absurd (by rw [q]; rfl) h) (fun _ => ?_)
      refine tv_iload C dk_L_acts_247 rfl ?_
      refine tv_goto C dk_L_acts_249 ?_
      exact key c (by omega)
    · skip
      refine tv_if_ne C dk_L_acts_244 (fun _ => ?_) (fun h => absurd ((pn_eq (a := c % 3) (b := 0) (by omega) (by omega)).1 h) q)
      refine tv_bipush (v := nI 7) C dk_L_acts_252 (by decide) ?_
      refine tv_iload C dk_L_acts_254 rfl ?_
      refine tv_imul C dk_L_acts_256 ?_
      refine tv_ti (v := nI (7 * b)) (pn_mul 7 b) ?_
      exact key (7 * b) (by omega)
  · skip
    refine tv_swd C (zsw_13 d1 d2) ?_
    refine tv_aload_n C dk_L_acts_266 rfl ?_
    refine tv_iload_n C dk_L_acts_267 rfl ?_
    refine tv_iconst (v := nI 2) C dk_L_acts_268 (by decide) ?_
    refine tv_iload C dk_L_acts_269 rfl ?_
    refine tv_imul C dk_L_acts_271 ?_
    refine tv_ti (v := nI (2 * c)) (pn_mul 2 c) ?_
    obtain ⟨y, M1, hw9, hk9⟩ := k_deposit hB4 hG (nI a) (nI (2 * c))
    refine tx_cSW (As := [.ref (E.G.2.1 + 0), .int (nI a), .int (nI (2 * c))]) C dk_L_acts_272 ml_RL_132 yw_L_deposit yi_L_deposit (fun w => m_L_deposit _ M _ _ hw9) rfl rfl (Nat.le_of_ble_eq_true rfl) (Nat.le_of_ble_eq_true rfl) (Nat.le_of_ble_eq_true rfl) (by omega) (by omega) rfl rfl rfl ?_
    exact tx_iret C hQ dk_L_acts_275 rfl (aP_of hG h0 (by omega) (by omega) hB hk9) (by omega) (by omega)
  · skip
    refine tv_swd C (zsw_16 d1 d2) ?_
    refine tv_aload_n C dk_L_acts_276 rfl ?_
    refine tv_iload_n C dk_L_acts_277 rfl ?_
    obtain ⟨y, M1, hw9, hk9⟩ := k_withdraw hB4 hG (nI a)
    refine tx_cSW (As := [.ref (E.G.2.1 + 0), .int (nI a)]) C dk_L_acts_278 ml_RL_134 yw_L_withdraw yi_L_withdraw (fun w => m_L_withdraw _ M _ hw9) rfl rfl (Nat.le_of_ble_eq_true rfl) (Nat.le_of_ble_eq_true rfl) (Nat.le_of_ble_eq_true rfl) (by omega) (by omega) rfl rfl rfl ?_
    exact tx_iret C hQ dk_L_acts_281 rfl (aP_of hG h0 (by omega) (by omega) hB hk9) (by omega) (by omega)
  · skip
    refine tv_swd C (zsw_18 d1 d2) ?_
    refine tv_aload_n C dk_L_acts_282 rfl ?_
    refine tv_iload_n C dk_L_acts_283 rfl ?_
    obtain ⟨y, M1, hw9, hk9⟩ := k_close hB4 hG (nI a)
    refine tx_cSW (As := [.ref (E.G.2.1 + 0), .int (nI a)]) C dk_L_acts_284 ml_RL_136 yw_L_close yi_L_close (fun w => m_L_close _ M _ hw9) rfl rfl (Nat.le_of_ble_eq_true rfl) (Nat.le_of_ble_eq_true rfl) (Nat.le_of_ble_eq_true rfl) (by omega) (by omega) rfl rfl rfl ?_
    exact tx_iret C hQ dk_L_acts_287 rfl (aP_of hG h0 (by omega) (by omega) hB hk9) (by omega) (by omega)
  · skip
    refine tv_swd C (zsw_19 d1 d2) ?_
    refine tv_aload_n C dk_L_acts_288 rfl ?_
    refine tv_iload C dk_L_acts_289 rfl ?_
    refine tv_iconst (v := nI 3) C dk_L_acts_291 (by decide) ?_
    refine tv_irem C dk_L_acts_292 (by decide) ?_
    refine tv_ti (v := nI (c % 3)) (pn_rem (by omega) (by omega) (by omega)) ?_
    have key : ∀ v : Nat, v < 1000 → tv_W E (tvPX []) (0 + 0 + 0 + 0 + 0) (0 + 0 + 0 + 0 + 0) M 308 [some (.ref (E.G.2.1 + 0)), some (.ref E.G.sb), some (.int (nI i)), some (.int (nI a)), some (.int (nI b)), some (.int (nI c))] [.int (nI v), .ref (E.G.2.1 + 0)] := by
      intro v hv
      obtain ⟨y, M1, hw9, hk9⟩ := k_pass hB4 hG (nI v)
      refine tx_cSW (As := [.ref (E.G.2.1 + 0), .int (nI v)]) C dk_L_acts_308 ml_RL_119 yw_L_pass yi_L_pass (fun w => m_L_pass _ M _ hw9) rfl rfl (Nat.le_of_ble_eq_true rfl) (Nat.le_of_ble_eq_true rfl) (Nat.le_of_ble_eq_true rfl) (by omega) (by omega) rfl rfl rfl ?_
      exact tx_iret C hQ dk_L_acts_311 rfl (aP_of hG h0 (by omega) (by omega) hB hk9) (by omega) (by omega)
    by_cases q : c % 3 = 0
    · skip
      refine tv_if_ne C dk_L_acts_293 (fun h => absurd (by rw [q]; rfl) h) (fun _ => ?_)
      refine tv_iconst (v := nI 3) C dk_L_acts_296 (by decide) ?_
      refine tv_iload C dk_L_acts_297 rfl ?_
      refine tv_imul C dk_L_acts_299 ?_
      refine tv_ti (v := nI (3 * c)) (pn_mul 3 c) ?_
      refine tv_goto C dk_L_acts_300 ?_
      exact key (3 * c) (by omega)
    · skip
      refine tv_if_ne C dk_L_acts_293 (fun _ => ?_) (fun h => absurd ((pn_eq (a := c % 3) (b := 0) (by omega) (by omega)).1 h) q)
      refine tv_iload C dk_L_acts_303 rfl ?_
      refine tv_bipush (v := nI 9) C dk_L_acts_305 (by decide) ?_
      refine tv_irem C dk_L_acts_307 (by decide) ?_
      refine tv_ti (v := nI (c % 9)) (pn_rem (by omega) (by omega) (by omega)) ?_
      exact key (c % 9) (by omega)
  · skip
    refine tv_swd C (zsw_22 d1 d2) ?_
    exact w_acts_d C hG h0 hB hQ h_a h_b h_c
