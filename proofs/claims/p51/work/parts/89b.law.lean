theorem w_law_r {E : tvE} (C : tvC E RL cL_law 6 (some .boolean) 1000 150000 1500000 []) {i : Nat} (hi : i < 10) {B : Nat} {M : tvM} (hB : B + 14400 + 3840 ≤ 10000000) (hv : zInv B M) {k sl : Nat} (hk : k + 3400 ≤ 150000) (hl : sl + 25000 ≤ 1500000) (nx : ∀ (k1 l1 : Nat) (M1 : tvM), k1 ≤ k + 3400 → l1 ≤ sl + 25000 → zInv (B + 14400) M1 → tv_W E (tvPX []) k1 l1 M1 20 [some (.ref E.G.sb), some (.ref (E.G.2.1 + 0)), some (.int (nI (i + 1))), none, none, none] []) : tv_W E (tvPX []) k sl M 26 [some (.ref E.G.sb), some (.ref (E.G.2.1 + 0)), some (.int (nI i)), none, none, none] [] := by
  obtain ⟨s, x, m, S, hG, h9, h10, h0⟩ := hv
  refine tv_aload_n C dk_L_law_26 rfl ?_
  refine tx_callS (As := [.ref (E.G.2.1 + 0)]) (post := sbR M (fun q X1 => X1 = [zA E.G q (zSeen s)])) C dk_L_law_27 ml_RL_252 yk_L_seen yi_L_seen (fun w => a_L_seen _ M hG.1.1) rfl rfl (Nat.le_of_ble_eq_true rfl) (Nat.le_of_ble_eq_true rfl) (Nat.le_of_ble_eq_true rfl) (by omega) (by omega) (fun v1 X9 M9 h1 => ?_) (fun e X9 M9 h => by obtain ⟨_, h, _⟩ := h; cases h)
  obtain ⟨q, e1, e2, e3⟩ := h1
  cases e1
  rw [e2, e3]
  show tv_W E _ _ _ _ _ _ [.ref q]
  refine tv_astore_n (L' := [_, _, _, _, _, _]) (hn := by decide) (hlt := (Nat.le_of_ble_eq_true rfl)) (hno := rfl) C dk_L_law_30 rfl ?_
  refine tv_aload_n C dk_L_law_31 rfl ?_
  refine tv_aload_n C dk_L_law_32 rfl ?_
  refine tv_bipush (v := nI 15) C dk_L_law_33 (by decide) ?_
  refine tv_iconst (v := nI 4) C dk_L_law_35 (by decide) ?_
  refine tv_iload_n C dk_L_law_36 rfl ?_
  refine tv_imul C dk_L_law_37 ?_
  refine tv_ti (v := nI (4 * i)) (pn_mul 4 i) ?_
  refine tv_iadd C dk_L_law_38 ?_
  refine tv_ti (v := nI (15 + (4 * i))) (nI_add 15 (4 * i)) ?_
  refine tx_callS (As := [.ref (E.G.2.1 + 0), .ref E.G.sb, .int (nI (15 + (4 * i)))]) C dk_L_law_39 ml_RL_256 yk_L_acts yi_L_acts (fun w => a_L_acts _ M (i := 15 + 4 * i) (by omega) hG h9 h0 (by omega)) rfl rfl (Nat.le_of_ble_eq_true rfl) (Nat.le_of_ble_eq_true rfl) (Nat.le_of_ble_eq_true rfl) (by omega) (by omega) (fun v1 X9 M1 h1 => ?_) (fun e X9 M9 h => by obtain ⟨_, h, _⟩ := h; cases h)
  obtain ⟨z, e1, e2, h01, hz⟩ := h1
  cases e1
  rw [e2, List.append_nil]
  show tv_W E _ _ _ _ _ _ [.int z]
  refine tv_istore (L' := [_, _, _, _, _, _]) (hn := by decide) (hlt := (Nat.le_of_ble_eq_true rfl)) (hno := rfl) C dk_L_law_42 rfl ?_
  refine tv_iload C dk_L_law_44 rfl ?_
  refine tv_ldcI (v := -900004) C dk_L_law_46 kc_38 ?_
  rcases hz with ⟨v, s1, x1, n1, S1, rfl, g1, g9, g10, hG1⟩ | ⟨hz, x1, n1, S1, hG1⟩ | ⟨rfl, s1, x1, n1, S1, g3, g9, g10, hG1, gn, gS⟩
  · skip
    have hz1 : ¬ nI v = -900004 ∧ ¬ nI v = -900009 ∧ -900000 < nI v := by
      have g : (nI v).toInt = v := nI_toInt (by omega)
      refine ⟨fun e => ?_, fun e => ?_, ?_⟩
      · rw [e] at g; rw [show (-900004 : Int32).toInt = -900004 from by decide] at g; omega
      · rw [e] at g; rw [show (-900009 : Int32).toInt = -900009 from by decide] at g; omega
      · rw [Int32.lt_iff_toInt_lt, g, show (-900000 : Int32).toInt = -900000 from by decide]; omega
    refine tv_icmp_ne C dk_L_law_48 (fun _ => ?_) (fun h => absurd h hz1.1)
    refine tv_iconst (v := nI 0) C dk_L_law_55 (by decide) ?_
    refine tv_istore (L' := [_, _, _, _, _, _]) (hn := by decide) (hlt := (Nat.le_of_ble_eq_true rfl)) (hno := rfl) C dk_L_law_56 rfl ?_
    refine tv_aload_n C dk_L_law_58 rfl ?_
    refine tx_callS (As := [.ref (E.G.2.1 + 0)]) C dk_L_law_59 ml_RL_248 yk_L_isWell yi_L_isWell (fun w => a_L_isWell _ M1 hG1.1.1 (by omega) hG1.1.2) rfl rfl (Nat.le_of_ble_eq_true rfl) (Nat.le_of_ble_eq_true rfl) (Nat.le_of_ble_eq_true rfl) (by omega) (by omega) (fun v1 X9 M2 h1 => ?_) (fun e X9 M9 h => by cases h.1)
    obtain ⟨e1, e2, hzM2⟩ := h1
    cases e1
    rw [e2, List.append_nil]
    show tv_W E _ _ _ _ _ _ [.int (nI 1)]
    have hG2 := zM_G hzM2 hG1
    have h02 := zM_E hzM2 h01
    refine tv_if_eq C dk_L_law_62 (fun h => absurd h (by decide)) (fun _ => ?_)
    refine tv_iload C dk_L_law_65 rfl ?_
    refine tv_ldcI (v := -900009) C dk_L_law_67 kc_101 ?_
    refine tv_icmp_eq C dk_L_law_69 (fun h => absurd h hz1.2.1) (fun _ => ?_)
    refine tv_iload C dk_L_law_72 rfl ?_
    refine tv_ldcwI (v := -900000) C dk_L_law_74 kc_260 ?_
    refine tv_icmp_gt C dk_L_law_77 (fun _ => ?_) (fun h => absurd hz1.2.2 h)
    refine tv_iload C dk_L_law_98 rfl ?_
    refine tv_if_eq C dk_L_law_100 (fun _ => ?_) (fun h => absurd rfl h)
    refine tv_iinc (v := nI (i + 1)) (L' := [_, _, _, _, _, _]) (hn := by decide) (hlt := (Nat.le_of_ble_eq_true rfl)) (hno := rfl) C dk_L_law_133 rfl (nI_add i 1) rfl ?_
    refine tx_drop0 ?_
    refine tv_drop (L2 := [some (.ref E.G.sb), some (.ref (E.G.2.1 + 0)), some (.int (nI (i + 1))), none, none, none]) (by simp [tvSubL]) ?_
    refine tv_goto C dk_L_law_136 ?_
    exact nx _ _ _ (by omega) (by omega) ⟨s1, x1, n1, S1, hG2, by omega, by omega, h02⟩
  · skip
    have hz1 : ¬ z = -900004 ∧ ¬ z = -900009 ∧ ¬ -900000 < z := by rcases hz with rfl | rfl | rfl <;> decide
    refine tv_icmp_ne C dk_L_law_48 (fun _ => ?_) (fun h => absurd h hz1.1)
    refine tv_iconst (v := nI 0) C dk_L_law_55 (by decide) ?_
    refine tv_istore (L' := [_, _, _, _, _, _]) (hn := by decide) (hlt := (Nat.le_of_ble_eq_true rfl)) (hno := rfl) C dk_L_law_56 rfl ?_
    refine tv_aload_n C dk_L_law_58 rfl ?_
    refine tx_callS (As := [.ref (E.G.2.1 + 0)]) C dk_L_law_59 ml_RL_248 yk_L_isWell yi_L_isWell (fun w => a_L_isWell _ M1 hG1.1.1 (by omega) hG1.1.2) rfl rfl (Nat.le_of_ble_eq_true rfl) (Nat.le_of_ble_eq_true rfl) (Nat.le_of_ble_eq_true rfl) (by omega) (by omega) (fun v1 X9 M2 h1 => ?_) (fun e X9 M9 h => by cases h.1)
    obtain ⟨e1, e2, hzM2⟩ := h1
    cases e1
    rw [e2, List.append_nil]
    show tv_W E _ _ _ _ _ _ [.int (nI 1)]
    have hG2 := zM_G hzM2 hG1
    have h02 := zM_E hzM2 h01
    refine tv_if_eq C dk_L_law_62 (fun h => absurd h (by decide)) (fun _ => ?_)
    refine tv_iload C dk_L_law_65 rfl ?_
    refine tv_ldcI (v := -900009) C dk_L_law_67 kc_101 ?_
    refine tv_icmp_eq C dk_L_law_69 (fun h => absurd h hz1.2.1) (fun _ => ?_)
    refine tv_iload C dk_L_law_72 rfl ?_
    refine tv_ldcwI (v := -900000) C dk_L_law_74 kc_260 ?_
    refine tv_icmp_gt C dk_L_law_77 (fun h => absurd h hz1.2.2) (fun _ => ?_)
    refine tv_iload C dk_L_law_80 rfl ?_
    refine tv_if_ne C dk_L_law_82 (fun h => absurd rfl h) (fun _ => ?_)
    refine tv_aload_n C dk_L_law_85 rfl ?_
    refine tv_aload_n C dk_L_law_86 rfl ?_
    refine tx_callS (As := [.ref (E.G.2.1 + 0)]) (post := sbR M2 (fun q X1 => X1 = [zA E.G q (zSeen s)])) C dk_L_law_87 ml_RL_252 yk_L_seen yi_L_seen (fun w => a_L_seen _ M2 hG2.1.1) rfl rfl (Nat.le_of_ble_eq_true rfl) (Nat.le_of_ble_eq_true rfl) (Nat.le_of_ble_eq_true rfl) (by omega) (by omega) (fun v1 X9 M9 h1 => ?_) (fun e X9 M9 h => by obtain ⟨_, h, _⟩ := h; cases h)
    obtain ⟨q2, e1, e2, e3⟩ := h1
    cases e1
    rw [e2, e3]
    show tv_W E _ _ _ _ _ _ [.ref q2, .ref q]
    refine tx_pS (As := [.ref q, .ref q2]) C dk_L_law_90 ml_RL_261 yk_L_areAlike yi_L_areAlike (a_L_areAlike _ _ M2 (i := 0) (j := 1) rfl rfl) sbV_no rfl rfl (Nat.le_of_ble_eq_true rfl) (Nat.le_of_ble_eq_true rfl) (Nat.le_of_ble_eq_true rfl) (by omega) (by omega) (fun v1 X9 M9 h1 => ?_)
    obtain ⟨e1, e2, e3⟩ := h1
    cases e1
    rw [e2, e3]
    show tv_W E _ _ _ _ _ _ [.int (nI 1)]
    refine tv_if_ne C dk_L_law_93 (fun _ => ?_) (fun h => absurd h (by decide))
    refine tv_iload C dk_L_law_98 rfl ?_
    refine tv_if_eq C dk_L_law_100 (fun _ => ?_) (fun h => absurd rfl h)
    refine tv_iinc (v := nI (i + 1)) (L' := [_, _, _, _, _, _]) (hn := by decide) (hlt := (Nat.le_of_ble_eq_true rfl)) (hno := rfl) C dk_L_law_133 rfl (nI_add i 1) rfl ?_
    refine tx_drop0 ?_
    refine tv_drop (L2 := [some (.ref E.G.sb), some (.ref (E.G.2.1 + 0)), some (.int (nI (i + 1))), none, none, none]) (by simp [tvSubL]) ?_
    refine tv_goto C dk_L_law_136 ?_
    exact nx _ _ _ (by omega) (by omega) ⟨s, x1, n1, S1, hG2, h9, h10, h02⟩
  · skip
    refine tv_icmp_ne C dk_L_law_48 (fun h => absurd rfl h) (fun _ => ?_)
    refine tv_iconst (v := nI 1) C dk_L_law_51 (by decide) ?_
    refine tv_goto C dk_L_law_52 ?_
    refine tv_istore (L' := [_, _, _, _, _, _]) (hn := by decide) (hlt := (Nat.le_of_ble_eq_true rfl)) (hno := rfl) C dk_L_law_56 rfl ?_
    refine tv_aload_n C dk_L_law_58 rfl ?_
    refine tx_callS (As := [.ref (E.G.2.1 + 0)]) C dk_L_law_59 ml_RL_248 yk_L_isWell yi_L_isWell (fun w => a_L_isWell _ M1 hG1.1.1 (by omega) hG1.1.2) rfl rfl (Nat.le_of_ble_eq_true rfl) (Nat.le_of_ble_eq_true rfl) (Nat.le_of_ble_eq_true rfl) (by omega) (by omega) (fun v1 X9 M2 h1 => ?_) (fun e X9 M9 h => by cases h.1)
    obtain ⟨e1, e2, hzM2⟩ := h1
    cases e1
    rw [e2, List.append_nil]
    show tv_W E _ _ _ _ _ _ [.int (nI 1)]
    have hG2 := zM_G hzM2 hG1
    have h02 := zM_E hzM2 h01
    refine tv_if_eq C dk_L_law_62 (fun h => absurd h (by decide)) (fun _ => ?_)
    refine tv_iload C dk_L_law_65 rfl ?_
    refine tv_ldcI (v := -900009) C dk_L_law_67 kc_101 ?_
    refine tv_icmp_eq C dk_L_law_69 (fun h => absurd h (by decide)) (fun _ => ?_)
    refine tv_iload C dk_L_law_72 rfl ?_
    refine tv_ldcwI (v := -900000) C dk_L_law_74 kc_260 ?_
    refine tv_icmp_gt C dk_L_law_77 (fun h => absurd h (by decide)) (fun _ => ?_)
    refine tv_iload C dk_L_law_80 rfl ?_
    refine tv_if_ne C dk_L_law_82 (fun _ => ?_) (fun h => absurd h (by decide))
    refine tv_iload C dk_L_law_98 rfl ?_
    refine tv_if_eq C dk_L_law_100 (fun h => absurd h (by decide)) (fun _ => ?_)
    refine tv_aload_n C dk_L_law_103 rfl ?_
    refine tx_cV (b := 0) (As := []) C dk_L_law_104 ml_RL_173 yk_X8_alarm yi_X8_alarm (fun w => tvRy (m_X8_alarm _ M2) (q_alarm' hG2.1.1)) (by decide) rfl rfl rfl rfl (Nat.le_of_ble_eq_true rfl) (Nat.le_of_ble_eq_true rfl) (Nat.le_of_ble_eq_true rfl) (by omega) (by omega) rfl rfl rfl ?_
    refine tv_aload_n C dk_L_law_107 rfl ?_
    refine tv_iconst (v := nI 1) C dk_L_law_108 (by decide) ?_
    refine tx_iald (i := 0) (pn_c (n := 1) (by omega)) C dk_L_law_109 rfl (vp_in_nI (by omega) (by omega)) ?_
    refine tv_ti (v := nI (s 3)) (zSeen_1 s) ?_
    refine tv_icmp_lt C dk_L_law_110 (fun h => absurd h (fun e => by have h3 := hG2.1.1.1.1; have := (pn_lt (h3 3) (hG.1.1.1.1 3)).1 e; omega)) (fun _ => ?_)
    refine tv_aload_n C dk_L_law_113 rfl ?_
    obtain ⟨M3, x3, n3, S3, hu, hG3, hF3⟩ := pUndo' hG2 gn gS
    refine tx_cSW (As := [.ref (E.G.2.1 + 0)]) C dk_L_law_114 ml_RL_265 yw_L_undo yi_L_undo (fun w => m_L_undo _ M2 (wOut_ok hu)) rfl rfl (Nat.le_of_ble_eq_true rfl) (Nat.le_of_ble_eq_true rfl) (Nat.le_of_ble_eq_true rfl) (by omega) (by omega) rfl rfl rfl ?_
    have hn8 : n1 ≤ 8 := hG2.2.1.2.1
    refine tv_if_lt C dk_L_law_117 (fun h => absurd h (pn_neg (by omega))) (fun _ => ?_)
    refine tv_aload_n C dk_L_law_120 rfl ?_
    refine tv_aload_n C dk_L_law_121 rfl ?_
    refine tx_callS (As := [.ref (E.G.2.1 + 0)]) (post := sbR M3 (fun q X1 => X1 = [zA E.G q (zSeen s)])) C dk_L_law_122 ml_RL_252 yk_L_seen yi_L_seen (fun w => a_L_seen _ M3 hG3.1.1) rfl rfl (Nat.le_of_ble_eq_true rfl) (Nat.le_of_ble_eq_true rfl) (Nat.le_of_ble_eq_true rfl) (by omega) (by omega) (fun v1 X9 M9 h1 => ?_) (fun e X9 M9 h => by obtain ⟨_, h, _⟩ := h; cases h)
    obtain ⟨q2, e1, e2, e3⟩ := h1
    cases e1
    rw [e2, e3]
    show tv_W E _ _ _ _ _ _ [.ref q2, .ref q]
    refine tx_pS (As := [.ref q, .ref q2]) C dk_L_law_125 ml_RL_261 yk_L_areAlike yi_L_areAlike (a_L_areAlike _ _ M3 (i := 0) (j := 1) rfl rfl) sbV_no rfl rfl (Nat.le_of_ble_eq_true rfl) (Nat.le_of_ble_eq_true rfl) (Nat.le_of_ble_eq_true rfl) (by omega) (by omega) (fun v1 X9 M9 h1 => ?_)
    obtain ⟨e1, e2, e3⟩ := h1
    cases e1
    rw [e2, e3]
    show tv_W E _ _ _ _ _ _ [.int (nI 1)]
    refine tv_if_ne C dk_L_law_128 (fun _ => ?_) (fun h => absurd h (by decide))
    refine tv_iinc (v := nI (i + 1)) (L' := [_, _, _, _, _, _]) (hn := by decide) (hlt := (Nat.le_of_ble_eq_true rfl)) (hno := rfl) C dk_L_law_133 rfl (nI_add i 1) rfl ?_
    refine tx_drop0 ?_
    refine tv_drop (L2 := [some (.ref E.G.sb), some (.ref (E.G.2.1 + 0)), some (.int (nI (i + 1))), none, none, none]) (by simp [tvSubL]) ?_
    refine tv_goto C dk_L_law_136 ?_
    exact nx _ _ _ (by omega) (by omega) ⟨s, x3, n3, S3, hG3, h9, h10, (congrFun (hF3.1 243 (by omega)) 1).trans h02⟩
theorem w_law_l {E : tvE} (C : tvC E RL cL_law 6 (some .boolean) 1000 150000 1500000 []) (nx : ∀ (k sl : Nat) (M : tvM), k ≤ 40000 → sl ≤ 300000 → zInv 146400 M → tv_W E (tvPX []) k sl M 139 [some (.ref E.G.sb), some (.ref (E.G.2.1 + 0)), none, none, none, none] []) : ∀ j i : Nat, i + j = 10 → ∀ (k sl : Nat) (M : tvM), k + 3400 * j ≤ 40000 → sl + 25000 * j ≤ 300000 → zInv (2400 + 14400 * i) M → tv_W E (tvPX []) k sl M 20 [some (.ref E.G.sb), some (.ref (E.G.2.1 + 0)), some (.int (nI i)), none, none, none] [] := by
  intro j
  induction j with
  | zero =>
    intro i hi k sl M hk hl hv
    refine tv_iload_n C dk_L_law_20 rfl ?_
    refine tv_bipush (v := nI 10) C dk_L_law_21 (by decide) ?_
    obtain rfl : i = 10 := by omega
    refine tv_icmp_ge C dk_L_law_23 (fun _ => ?_) (fun h => absurd ((pn_le (a := 10) (b := 10) (by omega) (by omega)).2 (by omega)) h)
    refine tv_drop (L2 := [some (.ref E.G.sb), some (.ref (E.G.2.1 + 0)), none, none, none, none]) (by simp [tvSubL]) ?_
    exact nx _ _ _ (by omega) (by omega) hv
  | succ j ih =>
    intro i hi k sl M hk hl hv
    refine tv_iload_n C dk_L_law_20 rfl ?_
    refine tv_bipush (v := nI 10) C dk_L_law_21 (by decide) ?_
    refine tv_icmp_ge C dk_L_law_23 (fun h => absurd h (fun z => by have := (pn_le (a := 10) (b := i) (by omega) (by omega)).1 z; omega)) (fun _ => ?_)
    rw [show 3400 * (j + 1) = 3400 * j + 3400 from Nat.mul_succ 3400 j] at hk
    rw [show 25000 * (j + 1) = 25000 * j + 25000 from Nat.mul_succ 25000 j] at hl
    have i9 : i ≤ 9 := by omega
    refine w_law_r C (i := i) (B := 2400 + 14400 * i) (by omega) (Nat.le_trans (Nat.add_le_add_right (Nat.add_le_add_right (Nat.add_le_add_left (Nat.mul_le_mul_left 14400 i9) 2400) 14400) 3840) (Nat.le_of_ble_eq_true rfl)) hv (Nat.le_trans (Nat.le_trans (Nat.add_le_add_left (Nat.le_add_left 3400 (3400 * j)) k) hk) (Nat.le_of_ble_eq_true rfl)) (Nat.le_trans (Nat.le_trans (Nat.add_le_add_left (Nat.le_add_left 25000 (25000 * j)) sl) hl) (Nat.le_of_ble_eq_true rfl)) (fun k1 l1 M1 hk1 hl1 hv1 => ih (i + 1) (by omega) _ _ M1 (by omega) (by omega) ?_)
    rw [show 2400 + 14400 * (i + 1) = 2400 + 14400 * i + 14400 by omega]
    exact hv1
theorem w_law_e {E : tvE} (C : tvC E RL cL_law 6 (some .boolean) 1000 150000 1500000 []) (hend : ∀ (k sl : Nat) (M : tvM) (X : va_W) (L : List (Option Value)), k ≤ 150000 → sl ≤ 1500000 → tv_W E (tvPX X) k sl M 311 L [.int 1]) {M : tvM} (hv : zInv 150000 M) {k sl : Nat} (hk : k ≤ 100000) (hl : sl ≤ 1000000) : tv_W E (tvPX []) k sl M 174 [some (.ref E.G.sb), some (.ref (E.G.2.1 + 0)), none, none, none, none] [] := by
  obtain ⟨s, x, m, S, hG, h9, h10, h0⟩ := hv
  refine tv_aload_n C dk_L_law_174 rfl ?_
  refine tx_callS (As := [.ref (E.G.2.1 + 0)]) (post := sbR M (fun q X1 => X1 = [zA E.G q (zSeen s)])) C dk_L_law_175 ml_RL_252 yk_L_seen yi_L_seen (fun w => a_L_seen _ M hG.1.1) rfl rfl (Nat.le_of_ble_eq_true rfl) (Nat.le_of_ble_eq_true rfl) (Nat.le_of_ble_eq_true rfl) (by omega) (by omega) (fun v1 X9 M9 h1 => ?_) (fun e X9 M9 h => by obtain ⟨_, h, _⟩ := h; cases h)
  obtain ⟨q, e1, e2, e3⟩ := h1
  cases e1
  rw [e2, e3]
  show tv_W E _ _ _ _ _ _ [.ref q]
  refine tv_astore_n (L' := [_, _, _, _, _, _]) (hn := by decide) (hlt := (Nat.le_of_ble_eq_true rfl)) (hno := rfl) C dk_L_law_178 rfl ?_
  refine tv_aload_n C dk_L_law_179 rfl ?_
  obtain ⟨M1, e8, hG1, hK1, ho1⟩ := pSave hG
  refine tx_cV (b := 0) (As := []) C dk_L_law_180 ml_RL_267 yk_X8_save yi_X8_save (fun w => tvRxz (m_X8_save _ M) e8) (by decide) rfl rfl rfl rfl (Nat.le_of_ble_eq_true rfl) (Nat.le_of_ble_eq_true rfl) (Nat.le_of_ble_eq_true rfl) (by omega) (by omega) rfl rfl rfl ?_
  have h01 : zE M1 := (congrFun (ho1 243 (by omega)) 1).trans h0
  refine tv_istore (L' := [_, _, _, _, _, _]) (hn := by decide) (hlt := (Nat.le_of_ble_eq_true rfl)) (hno := rfl) C dk_L_law_183 rfl ?_
  refine tv_aload_n C dk_L_law_185 rfl ?_
  refine tv_iconst (v := nI 0) C dk_L_law_186 (by decide) ?_
  have hR1 := hG1.1.1
  have hb : 0 < s 10 := by omega
  obtain ⟨u, hw, hu⟩ := z_until hR1 hb
  refine tx_cSW (As := [.ref (E.G.2.1 + 0), .int (nI 0)]) C dk_L_law_187 ml_RL_221 yw_L_minutesUntilOpen yi_L_minutesUntilOpen (fun w => m_L_minutesUntilOpen _ M1 _ hw) rfl rfl (Nat.le_of_ble_eq_true rfl) (Nat.le_of_ble_eq_true rfl) (Nat.le_of_ble_eq_true rfl) (by omega) (by omega) rfl rfl rfl ?_
  have hzu : zI u 1 := by
    rcases hu with ⟨_, h⟩ | ⟨_, K, hK, h⟩
    · rw [h]; exact zI_e.2.1
    · rw [h]; have := hK.2.1; exact zI_n (by omega)
  refine tv_aload_n C dk_L_law_190 rfl ?_
  refine tv_iconst (v := nI 0) C dk_L_law_191 (by decide) ?_
  obtain ⟨v1, hv1, hq1⟩ := q_byValue hR1 hb
  refine tx_cSW (As := [.ref (E.G.2.1 + 0), .int (nI 0)]) C dk_L_law_192 ml_RL_270 yw_L_boxByValue yi_L_boxByValue (fun w => m_L_boxByValue _ M1 _ (wOut_ok hq1)) rfl rfl (Nat.le_of_ble_eq_true rfl) (Nat.le_of_ble_eq_true rfl) (Nat.le_of_ble_eq_true rfl) (by omega) (by omega) rfl rfl rfl ?_
  refine tv_iadd C dk_L_law_195 ?_
  refine tv_aload_n C dk_L_law_196 rfl ?_
  refine tv_iconst (v := nI 0) C dk_L_law_197 (by decide) ?_
  obtain ⟨v2, M2, hv2, hq2, ho2, hl2⟩ := q_writeBox hR1 hb
  refine tx_cV (b := 0) (As := [.int (nI 0)]) C dk_L_law_198 ml_RL_272 yk_X8_writeBox yi_X8_writeBox (fun w => tvRx (n_X8_writeBox _ M1 (nI 0)) hq2) (by decide) rfl rfl rfl rfl (Nat.le_of_ble_eq_true rfl) (Nat.le_of_ble_eq_true rfl) (Nat.le_of_ble_eq_true rfl) (by omega) (by omega) rfl rfl rfl ?_
  refine tv_iadd C dk_L_law_201 ?_
  refine tv_aload_n C dk_L_law_202 rfl ?_
  have hG2 : pG 150000 M2 s x m S := pG_c hG1 (fun a q => ho2 a (by omega) (by omega)) (fun a _ => by rw [hl2])
  have hK2 : pKd 150000 M2 s := pKd_c hK1 (fun a q => ho2 a (by omega) (by omega)) (by rw [hl2]) (by omega) (by omega)
  have h02 : zE M2 := (congrFun (ho2 243 (by omega) (by omega)) 1).trans h01
  obtain ⟨v3, M3, hv3, hq3, ho3, hl3⟩ := q_writeEvents M2
  refine tx_cV (b := 0) (As := []) C dk_L_law_203 ml_RL_275 yk_X8_writeEvents yi_X8_writeEvents (fun w => tvRxz (n_X8_writeEvents _ M2) hq3) (by decide) rfl rfl rfl rfl (Nat.le_of_ble_eq_true rfl) (Nat.le_of_ble_eq_true rfl) (Nat.le_of_ble_eq_true rfl) (by omega) (by omega) rfl rfl rfl ?_
  refine tv_iadd C dk_L_law_206 ?_
  refine tv_aload_n C dk_L_law_207 rfl ?_
  refine tv_bipush (v := nI 77) C dk_L_law_208 (by decide) ?_
  have hG3 : pG 150000 M3 s x m S := pG_c hG2 (fun a q => ho3 a (by omega) (by omega)) (fun a _ => by rw [hl3])
  have hK3 : pKd 150000 M3 s := pKd_c hK2 (fun a q => ho3 a (by omega) (by omega)) (by rw [hl3]) (by omega) (by omega)
  have h03 : zE M3 := (congrFun (ho3 243 (by omega) (by omega)) 1).trans h02
  refine tx_cV (b := 0) (As := [.int (nI 77)]) C dk_L_law_210 ml_RL_186 yk_X8_lowMinutes yi_X8_lowMinutes (fun w => tvRx' (m_X8_lowMinutes _ M3 _) ((q_low' hG3.1.1 (n := 77) (by omega)).1)) (by decide) rfl rfl rfl rfl (Nat.le_of_ble_eq_true rfl) (Nat.le_of_ble_eq_true rfl) (Nat.le_of_ble_eq_true rfl) (by omega) (by omega) rfl rfl rfl ?_
  have hct := tvCt_le (pLc (s 1) (s 2) (s 0)) 77
  refine tv_iadd C dk_L_law_213 ?_
  refine tv_istore (L' := [_, _, _, _, _, _]) (hn := by decide) (hlt := (Nat.le_of_ble_eq_true rfl)) (hno := rfl) C dk_L_law_214 rfl ?_
  refine tv_aload_n C dk_L_law_216 rfl ?_
  refine tv_aload_n C dk_L_law_217 rfl ?_
  have hz5 : zI (u + nI v1 + nI v2 + nI v3 + nI (tvCt (pLc (s 1) (s 2) (s 0)) 77)) 5 := zI_add (zI_add (zI_add (zI_add hzu (zI_n (by omega)) (by omega)) (zI_n (by omega)) (by omega)) (zI_n (by omega)) (by omega)) (zI_n (by omega)) (by omega)
  generalize u + nI v1 + nI v2 + nI v3 + nI (tvCt (pLc (s 1) (s 2) (s 0)) 77) = y5 at hz5 ⊢
  refine tx_callS (As := [.ref (E.G.2.1 + 0)]) (post := sbR M3 (fun q X1 => X1 = [zA E.G q (zSeen s)])) C dk_L_law_218 ml_RL_252 yk_L_seen yi_L_seen (fun w => a_L_seen _ M3 hG3.1.1) rfl rfl (Nat.le_of_ble_eq_true rfl) (Nat.le_of_ble_eq_true rfl) (Nat.le_of_ble_eq_true rfl) (by omega) (by omega) (fun v1 X9 M9 h1 => ?_) (fun e X9 M9 h => by obtain ⟨_, h, _⟩ := h; cases h)
  obtain ⟨q2, e1, e2, e3⟩ := h1
  cases e1
  rw [e2, e3]
  show tv_W E _ _ _ _ _ _ [.ref q2, .ref q]
  refine tx_pS (As := [.ref q, .ref q2]) C dk_L_law_221 ml_RL_261 yk_L_areAlike yi_L_areAlike (a_L_areAlike _ _ M3 (i := 0) (j := 1) rfl rfl) sbV_no rfl rfl (Nat.le_of_ble_eq_true rfl) (Nat.le_of_ble_eq_true rfl) (Nat.le_of_ble_eq_true rfl) (by omega) (by omega) (fun v1 X9 M9 h1 => ?_)
  obtain ⟨e1, e2, e3⟩ := h1
  cases e1
  rw [e2, e3]
  show tv_W E _ _ _ _ _ _ [.int (nI 1)]
  refine tv_if_ne C dk_L_law_224 (fun _ => ?_) (fun h => absurd h (by decide))
  refine tv_iload C dk_L_law_229 rfl ?_
  refine tv_aload_n C dk_L_law_231 rfl ?_
  refine tv_bipush (v := nI 20) C dk_L_law_232 (by decide) ?_
  obtain ⟨y60, N0, hw0, hk0⟩ := k_pass (by omega) hG3 (nI 20)
  refine tx_cSW (As := [.ref (E.G.2.1 + 0), .int (nI 20)]) C dk_L_law_234 ml_RL_119 yw_L_pass yi_L_pass (fun w => m_L_pass _ M3 _ hw0) rfl rfl (Nat.le_of_ble_eq_true rfl) (Nat.le_of_ble_eq_true rfl) (Nat.le_of_ble_eq_true rfl) (by omega) (by omega) rfl rfl rfl ?_
  have kd0 : pKd 152000 N0 s := kOut_kd hk0 (pKd_c hK3 (fun _ _ => rfl) rfl (by omega) (by omega))
  obtain ⟨s0, x0, n0, S0, G0, a0, b0, c0⟩ := kOut_inv (B := 150240) hG3 h9 h10 h03 (by omega) (by omega) (by omega) hk0
  refine tv_aload_n C dk_L_law_237 rfl ?_
  refine tv_bipush (v := nI 100) C dk_L_law_238 (by decide) ?_
  refine tv_bipush (v := nI 30) C dk_L_law_240 (by decide) ?_
  obtain ⟨y61, N1, hw1, hk1⟩ := k_setTide (by omega) G0 (nI 100) (nI 30)
  refine tx_cSW (As := [.ref (E.G.2.1 + 0), .int (nI 100), .int (nI 30)]) C dk_L_law_242 ml_RL_116 yw_L_setTide yi_L_setTide (fun w => m_L_setTide _ N0 _ _ hw1) rfl rfl (Nat.le_of_ble_eq_true rfl) (Nat.le_of_ble_eq_true rfl) (Nat.le_of_ble_eq_true rfl) (by omega) (by omega) rfl rfl rfl ?_
  have kd1 : pKd 152000 N1 s := kOut_kd hk1 kd0
  obtain ⟨s1, x1, n1, S1, G1, a1, b1, c1⟩ := kOut_inv (B := 150480) G0 a0 b0 c0 (by omega) (by omega) (by omega) hk1
  refine tv_iadd C dk_L_law_245 ?_
  refine tv_aload_n C dk_L_law_246 rfl ?_
  refine tv_iconst (v := nI 1) C dk_L_law_247 (by decide) ?_
  refine tv_iconst (v := nI 1) C dk_L_law_248 (by decide) ?_
  refine tv_bipush (v := nI 7) C dk_L_law_249 (by decide) ?_
  obtain ⟨y62, N2, hw2, hk2⟩ := k_turnKey (by omega) G1 (nI 1) (nI 1) (nI (if 7 % 7 = 0 then 500 + 7 else 7 * 1))
  refine tx_callS (As := [.ref (E.G.2.1 + 0), .int (nI 1), .int (nI 1), .int (nI 7)]) C dk_L_law_251 ml_RL_124 yk_L_turns yi_L_turns (fun w => a_L_turns _ N1 1 1 7 (by omega) (by omega) (by omega) hw2) rfl rfl (Nat.le_of_ble_eq_true rfl) (Nat.le_of_ble_eq_true rfl) (Nat.le_of_ble_eq_true rfl) (by omega) (by omega) (fun v1 X9 M9 h1 => ?_) (fun e X9 M9 h9 => by cases h9.1)
  obtain ⟨e1, e2, e3⟩ := h1
  cases e1
  rw [e2, e3, List.append_nil]
  show tv_W E _ _ _ _ _ _ [.int y62, .int (y60 + y61), .int y5]
  have kd2 : pKd 152000 N2 s := kOut_kd hk2 kd1
  obtain ⟨s2, x2, n2, S2, G2, a2, b2, c2⟩ := kOut_inv (B := 150720) G1 a1 b1 c1 (by omega) (by omega) (by omega) hk2
  refine tv_iadd C dk_L_law_254 ?_
  refine tv_aload_n C dk_L_law_255 rfl ?_
  refine tv_iconst (v := nI 5) C dk_L_law_256 (by decide) ?_
  obtain ⟨y63, N3, hw3, hk3⟩ := k_addHolder (by omega) G2 (nI 5) (fun q => absurd q (by omega))
  refine tx_cSW (As := [.ref (E.G.2.1 + 0), .int (nI 5)]) C dk_L_law_257 ml_RL_106 yw_L_addHolder yi_L_addHolder (fun w => m_L_addHolder _ N2 _ hw3) rfl rfl (Nat.le_of_ble_eq_true rfl) (Nat.le_of_ble_eq_true rfl) (Nat.le_of_ble_eq_true rfl) (by omega) (by omega) rfl rfl rfl ?_
  have kd3 : pKd 152000 N3 s := kOut_kd hk3 kd2
  obtain ⟨s3, x3, n3, S3, G3, a3, b3, c3⟩ := kOut_inv (B := 150960) G2 a2 b2 c2 (by omega) (by omega) (by omega) hk3
  refine tv_iadd C dk_L_law_260 ?_
  refine tv_aload_n C dk_L_law_261 rfl ?_
  refine tv_iconst (v := nI 2) C dk_L_law_262 (by decide) ?_
  obtain ⟨y64, N4, hw4, hk4⟩ := k_close (by omega) G3 (nI 2)
  refine tx_cSW (As := [.ref (E.G.2.1 + 0), .int (nI 2)]) C dk_L_law_263 ml_RL_136 yw_L_close yi_L_close (fun w => m_L_close _ N3 _ hw4) rfl rfl (Nat.le_of_ble_eq_true rfl) (Nat.le_of_ble_eq_true rfl) (Nat.le_of_ble_eq_true rfl) (by omega) (by omega) rfl rfl rfl ?_
  have kd4 : pKd 152000 N4 s := kOut_kd hk4 kd3
  obtain ⟨s4, x4, n4, S4, G4, a4, b4, c4⟩ := kOut_inv (B := 151200) G3 a3 b3 c3 (by omega) (by omega) (by omega) hk4
  refine tv_iadd C dk_L_law_266 ?_
  refine tv_iadd C dk_L_law_267 ?_
  refine tv_istore (L' := [_, _, _, _, _, _]) (hn := by decide) (hlt := (Nat.le_of_ble_eq_true rfl)) (hno := rfl) C dk_L_law_268 rfl ?_
  refine tv_iload C dk_L_law_270 rfl ?_
  refine tv_ldcI (v := -90000000) C dk_L_law_272 kc_121 ?_
  have hz10 := zI_add hz5 (zI_add (zI_add (zI_add (zI_add (kOut_I hk0) (kOut_I hk1) (by omega)) (kOut_I hk2) (by omega)) (kOut_I hk3) (by omega)) (kOut_I hk4) (by omega)) (by omega)
  refine tv_icmp_le C dk_L_law_274 (fun h => absurd h (fun e => Int32.not_lt.mpr e (zI_gt hz10 (by omega)))) (fun _ => ?_)
  refine tv_aload_n C dk_L_law_277 rfl ?_
  obtain ⟨M8, hr8, hG8, -⟩ := pRestore (G4.up (B' := 152000) (by omega) (by omega)) kd4
  refine tx_cSW (As := [.ref (E.G.2.1 + 0)]) C dk_L_law_278 ml_RL_278 yw_L_restore yi_L_restore (fun w => m_L_restore _ N4 (wOut_ok hr8)) rfl rfl (Nat.le_of_ble_eq_true rfl) (Nat.le_of_ble_eq_true rfl) (Nat.le_of_ble_eq_true rfl) (by omega) (by omega) rfl rfl rfl ?_
  refine tv_iload C dk_L_law_281 rfl ?_
  refine tv_icmp_ne C dk_L_law_283 (fun h => absurd rfl h) (fun _ => ?_)
  refine tv_aload_n C dk_L_law_286 rfl ?_
  refine tv_aload_n C dk_L_law_287 rfl ?_
  refine tx_callS (As := [.ref (E.G.2.1 + 0)]) (post := sbR M8 (fun q X1 => X1 = [zA E.G q (zSeen s)])) C dk_L_law_288 ml_RL_252 yk_L_seen yi_L_seen (fun w => a_L_seen _ M8 hG8.1.1) rfl rfl (Nat.le_of_ble_eq_true rfl) (Nat.le_of_ble_eq_true rfl) (Nat.le_of_ble_eq_true rfl) (by omega) (by omega) (fun v1 X9 M9 h1 => ?_) (fun e X9 M9 h => by obtain ⟨_, h, _⟩ := h; cases h)
  obtain ⟨q3, e1, e2, e3⟩ := h1
  cases e1
  rw [e2, e3]
  show tv_W E _ _ _ _ _ _ [.ref q3, .ref q]
  refine tx_pS (As := [.ref q, .ref q3]) C dk_L_law_291 ml_RL_261 yk_L_areAlike yi_L_areAlike (a_L_areAlike _ _ M8 (i := 0) (j := 2) rfl rfl) sbV_no rfl rfl (Nat.le_of_ble_eq_true rfl) (Nat.le_of_ble_eq_true rfl) (Nat.le_of_ble_eq_true rfl) (by omega) (by omega) (fun v1 X9 M9 h1 => ?_)
  obtain ⟨e1, e2, e3⟩ := h1
  cases e1
  rw [e2, e3]
  show tv_W E _ _ _ _ _ _ [.int (nI 1)]
  refine tv_if_eq C dk_L_law_294 (fun h => absurd h (by decide)) (fun _ => ?_)
  refine tv_aload_n C dk_L_law_297 rfl ?_
  refine tx_cSW (As := [.ref (E.G.2.1 + 0)]) C dk_L_law_298 ml_RL_265 yw_L_undo yi_L_undo (fun w => m_L_undo _ M8 (wOut_x "java/lang/IllegalStateException" (-900001) (by simp) (pUndo0 hG8))) rfl rfl (Nat.le_of_ble_eq_true rfl) (Nat.le_of_ble_eq_true rfl) (Nat.le_of_ble_eq_true rfl) (by omega) (by omega) rfl rfl rfl ?_
  refine tv_ldcI (v := -900001) C dk_L_law_301 kc_17 ?_
  refine tv_icmp_ne C dk_L_law_303 (fun h => absurd rfl h) (fun _ => ?_)
  refine tv_iconst (v := nI 1) C dk_L_law_306 (by decide) ?_
  refine tv_goto C dk_L_law_307 ?_
  exact hend _ _ _ _ _ (by omega) (by omega)
theorem w_law_m {E : tvE} (C : tvC E RL cL_law 6 (some .boolean) 1000 150000 1500000 []) (hend : ∀ (k sl : Nat) (M : tvM) (X : va_W) (L : List (Option Value)), k ≤ 150000 → sl ≤ 1500000 → tv_W E (tvPX X) k sl M 311 L [.int 1]) {M : tvM} (hv : zInv 146400 M) {k sl : Nat} (hk : k ≤ 40000) (hl : sl ≤ 300000) : tv_W E (tvPX []) k sl M 139 [some (.ref E.G.sb), some (.ref (E.G.2.1 + 0)), none, none, none, none] [] := by
  obtain ⟨s, x, m, S, hG, h9, h10, h0⟩ := hv
  refine tv_aload_n C dk_L_law_139 rfl ?_
  refine tx_callS (As := [.ref (E.G.2.1 + 0)]) (post := sbR M (fun q X1 => X1 = [zA E.G q (zSeen s)])) C dk_L_law_140 ml_RL_252 yk_L_seen yi_L_seen (fun w => a_L_seen _ M hG.1.1) rfl rfl (Nat.le_of_ble_eq_true rfl) (Nat.le_of_ble_eq_true rfl) (Nat.le_of_ble_eq_true rfl) (by omega) (by omega) (fun v1 X9 M9 h1 => ?_) (fun e X9 M9 h => by obtain ⟨_, h, _⟩ := h; cases h)
  obtain ⟨q, e1, e2, e3⟩ := h1
  cases e1
  rw [e2, e3]
  show tv_W E _ _ _ _ _ _ [.ref q]
  refine tv_astore_n (L' := [_, _, _, _, _, _]) (hn := by decide) (hlt := (Nat.le_of_ble_eq_true rfl)) (hno := rfl) C dk_L_law_143 rfl ?_
  refine tv_aload_n C dk_L_law_144 rfl ?_
  refine tv_iconst (v := nI 0) C dk_L_law_145 (by decide) ?_
  refine tv_iconst (v := nI 0) C dk_L_law_146 (by decide) ?_
  refine tv_iconst (v := nI 1) C dk_L_law_147 (by decide) ?_
  obtain ⟨y, M1, hw9, hk9⟩ := k_turnKey (by omega) hG (nI 0) (nI 0) (nI (if 1 % 7 = 0 then 500 + 1 else 7 * 0))
  refine tx_callS (As := [.ref (E.G.2.1 + 0), .int (nI 0), .int (nI 0), .int (nI 1)]) C dk_L_law_148 ml_RL_124 yk_L_turns yi_L_turns (fun w => a_L_turns _ M 0 0 1 (by omega) (by omega) (by omega) hw9) rfl rfl (Nat.le_of_ble_eq_true rfl) (Nat.le_of_ble_eq_true rfl) (Nat.le_of_ble_eq_true rfl) (by omega) (by omega) (fun v1 X9 M9 h1 => ?_) (fun e X9 M9 h9 => by cases h9.1)
  obtain ⟨e1, e2, e3⟩ := h1
  cases e1
  rw [e2, e3, List.append_nil]
  show tv_W E _ _ _ _ _ _ [.int y]
  have hinv := kOut_inv (B := 150000) hG h9 h10 h0 (by omega) (by omega) (by omega) hk9
  rcases hk9 with ⟨v, s1, x1, n1, S1, t1, t2, t3, t4, t5, t6, ⟨t7, t7b⟩, t8⟩ | ⟨t1, t2⟩ | ⟨-, t1, -⟩
  · skip
    rw [t3]
    refine tv_if_le C dk_L_law_151 (fun e => absurd ((pn_le (a := v) (b := 0) (by omega) (by omega)).1 e) (by omega)) (fun _ => ?_)
    refine tv_aload_n C dk_L_law_154 rfl ?_
    obtain ⟨M3, x3, n3, S3, hu, hG3, hF3⟩ := pUndo' t6 t7 t7b
    refine tx_cSW (As := [.ref (E.G.2.1 + 0)]) C dk_L_law_155 ml_RL_265 yw_L_undo yi_L_undo (fun w => m_L_undo _ M1 (wOut_ok hu)) rfl rfl (Nat.le_of_ble_eq_true rfl) (Nat.le_of_ble_eq_true rfl) (Nat.le_of_ble_eq_true rfl) (by omega) (by omega) rfl rfl rfl ?_
    have hn8 : n1 ≤ 8 := t6.2.1.2.1
    refine tv_if_lt C dk_L_law_158 (fun h => absurd h (pn_neg (by omega))) (fun _ => ?_)
    refine tv_aload_n C dk_L_law_161 rfl ?_
    refine tv_aload_n C dk_L_law_162 rfl ?_
    refine tx_callS (As := [.ref (E.G.2.1 + 0)]) (post := sbR M3 (fun q X1 => X1 = [zA E.G q (zSeen s)])) C dk_L_law_163 ml_RL_252 yk_L_seen yi_L_seen (fun w => a_L_seen _ M3 hG3.1.1) rfl rfl (Nat.le_of_ble_eq_true rfl) (Nat.le_of_ble_eq_true rfl) (Nat.le_of_ble_eq_true rfl) (by omega) (by omega) (fun v1 X9 M9 h1 => ?_) (fun e X9 M9 h => by obtain ⟨_, h, _⟩ := h; cases h)
    obtain ⟨q2, e1, e2, e3⟩ := h1
    cases e1
    rw [e2, e3]
    show tv_W E _ _ _ _ _ _ [.ref q2, .ref q]
    refine tx_pS (As := [.ref q, .ref q2]) C dk_L_law_166 ml_RL_261 yk_L_areAlike yi_L_areAlike (a_L_areAlike _ _ M3 (i := 0) (j := 1) rfl rfl) sbV_no rfl rfl (Nat.le_of_ble_eq_true rfl) (Nat.le_of_ble_eq_true rfl) (Nat.le_of_ble_eq_true rfl) (by omega) (by omega) (fun v1 X9 M9 h1 => ?_)
    obtain ⟨e1, e2, e3⟩ := h1
    cases e1
    rw [e2, e3]
    show tv_W E _ _ _ _ _ _ [.int (nI 1)]
    refine tv_if_ne C dk_L_law_169 (fun _ => ?_) (fun h => absurd h (by decide))
    refine tx_drop0 ?_
    refine tv_drop (L2 := [some (.ref E.G.sb), some (.ref (E.G.2.1 + 0)), none, none, none, none]) (by simp [tvSubL]) ?_
    exact w_law_e C hend ⟨s, x3, n3, S3, hG3.up (by omega) (by omega), h9, h10, (congrFun (hF3.1 243 (by omega)) 1).trans ((congrFun (t8.1 243 (by omega)) 1).trans h0)⟩ (by omega) (by omega)
  · skip
    have hle : y ≤ 0 := by rcases t1 with rfl | rfl | rfl <;> decide
    refine tv_if_le C dk_L_law_151 (fun _ => ?_) (fun e => absurd hle e)
    refine tx_drop0 ?_
    refine tv_drop (L2 := [some (.ref E.G.sb), some (.ref (E.G.2.1 + 0)), none, none, none, none]) (by simp [tvSubL]) ?_
    exact w_law_e C hend hinv (by omega) (by omega)
  · skip
    have hle : y ≤ 0 := by rw [t1]; decide
    refine tv_if_le C dk_L_law_151 (fun _ => ?_) (fun e => absurd hle e)
    refine tx_drop0 ?_
    refine tv_drop (L2 := [some (.ref E.G.sb), some (.ref (E.G.2.1 + 0)), none, none, none, none]) (by simp [tvSubL]) ?_
    exact w_law_e C hend hinv (by omega) (by omega)
theorem w_law {E : tvE} (C : tvC E RL cL_law 6 (some .boolean) 1000 150000 1500000 []) (hend : ∀ (k sl : Nat) (M : tvM) (X : va_W) (L : List (Option Value)), k ≤ 150000 → sl ≤ 1500000 → tv_W E (tvPX X) k sl M 311 L [.int 1]) : tv_W E (0, (fun _ _ => none), True, []) 0 0 tvZ 0 [some (.ref E.G.sb), none, none, none, none, none] [] := by
  refine tv_aload_n C dk_L_law_0 rfl ?_
  refine tx_bS (As := [.ref E.G.sb]) C dk_L_law_1 ml_RL_244 yk_L_begun yi_L_begun (a_L_begun _) (fun e X1 M1 h => by cases h.1) rfl rfl (Nat.le_of_ble_eq_true rfl) (Nat.le_of_ble_eq_true rfl) (Nat.le_of_ble_eq_true rfl) (by omega) (by omega) (fun v1 X9 M1 h1 => ?_)
  obtain ⟨e1, e2, hv⟩ := h1
  cases e1
  rw [e2]
  show tv_W E _ _ _ _ _ _ [.ref (E.G.2.1 + 0)]
  refine tv_astore_n (L' := [_, _, _, _, _, _]) (hn := by decide) (hlt := (Nat.le_of_ble_eq_true rfl)) (hno := rfl) C dk_L_law_4 rfl ?_
  refine tv_aload_n C dk_L_law_5 rfl ?_
  refine tv_ifnull C dk_L_law_6 ?_
  refine tv_aload_n C dk_L_law_9 rfl ?_
  have hv0 := hv
  obtain ⟨s, x, m, S, hG, h9, h10, h0⟩ := hv
  refine tx_callS (As := [.ref (E.G.2.1 + 0)]) C dk_L_law_10 ml_RL_248 yk_L_isWell yi_L_isWell (fun w => a_L_isWell _ M1 hG.1.1 (by omega) hG.1.2) rfl rfl (Nat.le_of_ble_eq_true rfl) (Nat.le_of_ble_eq_true rfl) (Nat.le_of_ble_eq_true rfl) (by omega) (by omega) (fun v1 X9 M2 h1 => ?_) (fun e X9 M9 h => by cases h.1)
  obtain ⟨e1, e2, hzM2⟩ := h1
  cases e1
  rw [e2, List.append_nil]
  show tv_W E _ _ _ _ _ _ [.int (nI 1)]
  refine tv_if_ne C dk_L_law_13 (fun _ => ?_) (fun h => absurd h (by decide))
  refine tv_iconst (v := nI 0) C dk_L_law_18 (by decide) ?_
  refine tv_istore_n (L' := [_, _, _, _, _, _]) (hn := by decide) (hlt := (Nat.le_of_ble_eq_true rfl)) (hno := rfl) C dk_L_law_19 rfl ?_
  exact w_law_l C (fun k1 l1 M3 hk1 hl1 hv3 => w_law_m C hend hv3 (by omega) (by omega)) 10 0 (by omega) _ _ M2 (by omega) (by omega) ⟨s, x, m, S, zM_G hzM2 hG, h9, h10, zM_E hzM2 h0⟩
