theorem w_beg_H {E : tvE} (C : tvC E RL cL_begun 5 (some (.object "TideVault")) 9 300 3200 []) (nx : ∀ (k sl : Nat) (M : tvM) (s : Nat → Nat) (x n : Nat) (S : Nat → Nat → Nat) (y : Int32), k ≤ 260 → sl ≤ 3050 → pG 960 M s x n S → s 9 = 4 → s 10 = 0 → zE M → zI y 4 → tv_W E (tvPX []) k sl M 34 [some (.ref E.G.sb), some (.ref (E.G.2.1 + 0)), some (.int y), none, none] []) : ∀ j i : Nat, i + j = 4 → ∀ (k sl : Nat) (M : tvM) (s : Nat → Nat) (x n : Nat) (S : Nat → Nat → Nat) (y : Int32), k + j ≤ 260 → sl + 6 * j ≤ 3050 → pG (240 * i) M s x n S → s 9 = i → s 10 = 0 → zE M → zI y i → tv_W E (tvPX []) k sl M 12 [some (.ref E.G.sb), some (.ref (E.G.2.1 + 0)), some (.int y), some (.int (nI i)), none] [] := by
  intro j
  induction j with
  | zero =>
    intro i hi k sl M s x n S y hk hl hG h9 h10 h0 hy
    refine tv_iload_n C dk_L_begun_12 rfl ?_
    refine tv_iconst (v := nI 4) C dk_L_begun_13 (by decide) ?_
    obtain rfl : i = 4 := by omega
    refine tv_icmp_ge C dk_L_begun_14 (fun _ => ?_) (fun h => absurd ((pn_le (a := 4) (b := 4) (by omega) (by omega)).2 (by omega)) h)
    refine tv_drop (L2 := [some (.ref E.G.sb), some (.ref (E.G.2.1 + 0)), some (.int y), none, none]) (by simp [tvSubL]) ?_
    exact nx _ _ _ _ _ _ _ _ (by omega) (by omega) hG h9 h10 h0 hy
  | succ j ih =>
    intro i hi k sl M s x n S y hk hl hG h9 h10 h0 hy
    refine tv_iload_n C dk_L_begun_12 rfl ?_
    refine tv_iconst (v := nI 4) C dk_L_begun_13 (by decide) ?_
    refine tv_icmp_ge C dk_L_begun_14 (fun h => absurd h (fun z => by have := (pn_le (a := 4) (b := i) (by omega) (by omega)).1 z; omega)) (fun _ => ?_)
    refine tv_iload_n C dk_L_begun_17 rfl ?_
    refine tv_aload_n C dk_L_begun_18 rfl ?_
    refine tv_bipush (v := nI 7) C dk_L_begun_19 (by decide) ?_
    refine tv_iload_n C dk_L_begun_21 rfl ?_
    refine tv_imul C dk_L_begun_22 ?_
    refine tv_ti (v := nI (7 * i)) (pn_mul 7 i) ?_
    obtain ⟨v, M1, s1, x1, n1, S1, hf, hv, g9, g10, hG1, hF⟩ := z_addHolder (by omega) hG (by omega)
    rw [h9] at hf
    refine tx_cSW (As := [.ref (E.G.2.1 + 0), .int (nI (7 * i))]) C dk_L_begun_23 ml_RL_106 yw_L_addHolder yi_L_addHolder (fun w => m_L_addHolder _ M _ (wOut_ok hf)) rfl rfl (Nat.le_of_ble_eq_true rfl) (Nat.le_of_ble_eq_true rfl) (Nat.le_of_ble_eq_true rfl) (by omega) (by omega) rfl rfl rfl ?_
    refine tv_iadd C dk_L_begun_26 ?_
    refine tv_istore_n (L' := [_, _, _, _, _]) (hn := by decide) (hlt := (Nat.le_of_ble_eq_true rfl)) (hno := rfl) C dk_L_begun_27 rfl ?_
    refine tv_iinc (v := nI (i + 1)) (L' := [_, _, _, _, _]) (hn := by decide) (hlt := (Nat.le_of_ble_eq_true rfl)) (hno := rfl) C dk_L_begun_28 rfl (nI_add i 1) rfl ?_
    refine tv_goto C dk_L_begun_31 ?_
    refine ih (i + 1) (by omega) _ _ M1 s1 x1 n1 S1 _ (by omega) (by omega) ?_ (by omega) (by omega) ((congrFun (hF.1 243 (by omega)) 1).trans h0) (zI_add hy (zI_n hv) (by omega))
    rw [show 240 * (i + 1) = 240 * i + 240 by omega]
    exact hG1
theorem w_beg_B {E : tvE} (C : tvC E RL cL_begun 5 (some (.object "TideVault")) 9 300 3200 []) (nx : ∀ (k sl : Nat) (M : tvM) (s : Nat → Nat) (x n : Nat) (S : Nat → Nat → Nat) (y : Int32), k ≤ 270 → sl ≤ 3100 → pG 1920 M s x n S → 4 ≤ s 9 → 1 ≤ s 10 → zE M → zI y 8 → tv_W E (tvPX []) k sl M 105 [some (.ref E.G.sb), some (.ref (E.G.2.1 + 0)), some (.int y), none, none] []) : ∀ j i : Nat, i + j = 4 → ∀ (k sl : Nat) (M : tvM) (s : Nat → Nat) (x n : Nat) (S : Nat → Nat → Nat) (y : Int32), k + j ≤ 270 → sl + 6 * j ≤ 3100 → pG (960 + 240 * i) M s x n S → s 9 = 4 → s 10 = i → zE M → zI y (4 + i) → tv_W E (tvPX []) k sl M 36 [some (.ref E.G.sb), some (.ref (E.G.2.1 + 0)), some (.int y), some (.int (nI i)), none] [] := by
  intro j
  induction j with
  | zero =>
    intro i hi k sl M s x n S y hk hl hG h9 h10 h0 hy
    refine tv_iload_n C dk_L_begun_36 rfl ?_
    refine tv_iconst (v := nI 4) C dk_L_begun_37 (by decide) ?_
    obtain rfl : i = 4 := by omega
    refine tv_icmp_ge C dk_L_begun_38 (fun _ => ?_) (fun h => absurd ((pn_le (a := 4) (b := 4) (by omega) (by omega)).2 (by omega)) h)
    refine tv_drop (L2 := [some (.ref E.G.sb), some (.ref (E.G.2.1 + 0)), some (.int y), none, none]) (by simp [tvSubL]) ?_
    exact nx _ _ _ _ _ _ _ _ (by omega) (by omega) hG (by omega) (by omega) h0 hy
  | succ j ih =>
    intro i hi k sl M s x n S y hk hl hG h9 h10 h0 hy
    refine tv_iload_n C dk_L_begun_36 rfl ?_
    refine tv_iconst (v := nI 4) C dk_L_begun_37 (by decide) ?_
    refine tv_icmp_ge C dk_L_begun_38 (fun h => absurd h (fun z => by have := (pn_le (a := 4) (b := i) (by omega) (by omega)).1 z; omega)) (fun _ => ?_)
    refine tv_aload_n C dk_L_begun_41 rfl ?_
    refine tv_iload_n C dk_L_begun_42 rfl ?_
    refine tv_iconst (v := nI 4) C dk_L_begun_43 (by decide) ?_
    refine tx_callS (As := [.ref E.G.sb, .int (nI i), .int (nI 4)]) C dk_L_begun_44 ml_RL_109 yk_L_in yi_L_in (fun w => a_L_in _ M i 4 (by omega) (by omega) (by omega)) rfl rfl (Nat.le_of_ble_eq_true rfl) (Nat.le_of_ble_eq_true rfl) (Nat.le_of_ble_eq_true rfl) (by omega) (by omega) (fun v1 X9 M9 h1 => ?_) (fun e X1 M1 h => by obtain ⟨_, _, h, _⟩ := h; cases h)
    obtain ⟨h, h_h, e1, e2, e3⟩ := h1
    cases e1
    rw [e2, e3, List.append_nil]
    show tv_W E _ _ _ _ _ _ [.int (nI h)]
    refine tv_istore (L' := [_, _, _, _, _]) (hn := by decide) (hlt := (Nat.le_of_ble_eq_true rfl)) (hno := rfl) C dk_L_begun_47 rfl ?_
    refine tv_iload_n C dk_L_begun_49 rfl ?_
    refine tv_aload_n C dk_L_begun_50 rfl ?_
    refine tv_iload C dk_L_begun_51 rfl ?_
    refine tv_iload C dk_L_begun_53 rfl ?_
    refine tv_iconst (v := nI 1) C dk_L_begun_55 (by decide) ?_
    refine tv_iadd C dk_L_begun_56 ?_
    refine tv_ti (v := nI (h + 1)) (nI_add h 1) ?_
    refine tv_aload_n C dk_L_begun_57 rfl ?_
    refine tv_iconst (v := nI 4) C dk_L_begun_58 (by decide) ?_
    refine tv_iload_n C dk_L_begun_59 rfl ?_
    refine tv_iadd C dk_L_begun_60 ?_
    refine tv_ti (v := nI (4 + i)) (nI_add 4 i) ?_
    refine tv_iconst (v := nI 3) C dk_L_begun_61 (by decide) ?_
    refine tx_callS (As := [.ref E.G.sb, .int (nI (4 + i)), .int (nI 3)]) C dk_L_begun_62 ml_RL_109 yk_L_in yi_L_in (fun w => a_L_in _ M (4 + i) 3 (by omega) (by omega) (by omega)) rfl rfl (Nat.le_of_ble_eq_true rfl) (Nat.le_of_ble_eq_true rfl) (Nat.le_of_ble_eq_true rfl) (by omega) (by omega) (fun v1 X9 M9 h1 => ?_) (fun e X1 M1 h => by obtain ⟨_, _, h, _⟩ := h; cases h)
    obtain ⟨t, h_t, e1, e2, e3⟩ := h1
    cases e1
    rw [e2, e3, List.append_nil]
    show tv_W E _ _ _ _ _ _ [.int (nI t), .int (nI (h + 1)), .int (nI h), .ref (E.G.2.1 + 0), .int y]
    refine tv_iadd C dk_L_begun_65 ?_
    refine tv_ti (v := nI ((h + 1) + t)) (nI_add (h + 1) t) ?_
    refine tv_iconst (v := nI 4) C dk_L_begun_66 (by decide) ?_
    refine tv_irem C dk_L_begun_67 (by decide) ?_
    refine tv_ti (v := nI ((h + 1 + t) % 4)) (pn_rem (by omega) (by omega) (by omega)) ?_
    refine tv_aload_n C dk_L_begun_68 rfl ?_
    refine tv_bipush (v := nI 8) C dk_L_begun_69 (by decide) ?_
    refine tv_iload_n C dk_L_begun_71 rfl ?_
    refine tv_iadd C dk_L_begun_72 ?_
    refine tv_ti (v := nI (8 + i)) (nI_add 8 i) ?_
    refine tv_iconst (v := nI 3) C dk_L_begun_73 (by decide) ?_
    refine tx_callS (As := [.ref E.G.sb, .int (nI (8 + i)), .int (nI 3)]) C dk_L_begun_74 ml_RL_109 yk_L_in yi_L_in (fun w => a_L_in _ M (8 + i) 3 (by omega) (by omega) (by omega)) rfl rfl (Nat.le_of_ble_eq_true rfl) (Nat.le_of_ble_eq_true rfl) (Nat.le_of_ble_eq_true rfl) (by omega) (by omega) (fun v1 X9 M9 h1 => ?_) (fun e X1 M1 h => by obtain ⟨_, _, h, _⟩ := h; cases h)
    obtain ⟨u, h_u, e1, e2, e3⟩ := h1
    cases e1
    rw [e2, e3, List.append_nil]
    show tv_W E _ _ _ _ _ _ [.int (nI u), .int (nI ((h + 1 + t) % 4)), .int (nI h), .ref (E.G.2.1 + 0), .int y]
    have key : ∀ (k2 l2 c : Nat), k2 ≤ k → l2 ≤ sl → c ≤ 60 → tv_W E (tvPX []) k2 l2 M 94 [some (.ref E.G.sb), some (.ref (E.G.2.1 + 0)), some (.int y), some (.int (nI i)), some (.int (nI h))] [.int (nI c), .int (nI ((h + 1 + t) % 4)), .int (nI h), .ref (E.G.2.1 + 0), .int y] := by
      intro k2 l2 c hk2 hl2 hc
      obtain ⟨v, M1, s1, x1, n1, S1, hf, hv, g9, g10, hG1, hF⟩ := z_addBox (a := h) (b := (h + 1 + t) % 4) (c := c) (by omega) hG (by omega) (by omega) (by omega) hc (by omega)
      refine tx_cSW (As := [.ref (E.G.2.1 + 0), .int (nI h), .int (nI ((h + 1 + t) % 4)), .int (nI c)]) C dk_L_begun_94 ml_RL_113 yw_L_addBox yi_L_addBox (fun w => m_L_addBox _ M _ _ _ (wOut_ok hf)) rfl rfl (Nat.le_of_ble_eq_true rfl) (Nat.le_of_ble_eq_true rfl) (Nat.le_of_ble_eq_true rfl) (by omega) (by omega) rfl rfl rfl ?_
      refine tv_iadd C dk_L_begun_97 ?_
      refine tv_istore_n (L' := [_, _, _, _, _]) (hn := by decide) (hlt := (Nat.le_of_ble_eq_true rfl)) (hno := rfl) C dk_L_begun_98 rfl ?_
      refine tv_iinc (v := nI (i + 1)) (L' := [_, _, _, _, _]) (hn := by decide) (hlt := (Nat.le_of_ble_eq_true rfl)) (hno := rfl) C dk_L_begun_99 rfl (nI_add i 1) rfl ?_
      refine tv_drop (L2 := [some (.ref E.G.sb), some (.ref (E.G.2.1 + 0)), some (.int (y + nI v)), some (.int (nI (i + 1))), none]) (by simp [tvSubL]) ?_
      refine tv_goto C dk_L_begun_102 ?_
      refine ih (i + 1) (by omega) _ _ M1 s1 x1 n1 S1 _ (by omega) (by omega) ?_ (by omega) (by omega) ((congrFun (hF.1 243 (by omega)) 1).trans h0) (show zI _ (4 + i + 1) from zI_add hy (zI_n hv) (by omega))
      rw [show 960 + 240 * (i + 1) = 960 + 240 * i + 240 by omega]
      exact hG1
    by_cases q : u = 0
    · skip
      refine tv_if_ne C dk_L_begun_77 (fun h => absurd (by rw [q]; rfl) h) (fun _ => ?_)
      refine tv_iconst (v := nI 0) C dk_L_begun_80 (by decide) ?_
      refine tv_goto C dk_L_begun_81 ?_
      exact key _ _ 0 (by omega) (by omega) (by omega)
    · skip
      refine tv_if_ne C dk_L_begun_77 (fun _ => ?_) (fun h => absurd ((pn_eq (a := u) (b := 0) (by omega) (by omega)).1 h) q)
      refine tv_aload_n C dk_L_begun_84 rfl ?_
      refine tv_bipush (v := nI 8) C dk_L_begun_85 (by decide) ?_
      refine tv_iload_n C dk_L_begun_87 rfl ?_
      refine tv_iadd C dk_L_begun_88 ?_
      refine tv_ti (v := nI (8 + i)) (nI_add 8 i) ?_
      refine tv_bipush (v := nI 20) C dk_L_begun_89 (by decide) ?_
      refine tx_callS (As := [.ref E.G.sb, .int (nI (8 + i)), .int (nI 20)]) C dk_L_begun_91 ml_RL_109 yk_L_in yi_L_in (fun w => a_L_in _ M (8 + i) 20 (by omega) (by omega) (by omega)) rfl rfl (Nat.le_of_ble_eq_true rfl) (Nat.le_of_ble_eq_true rfl) (Nat.le_of_ble_eq_true rfl) (by omega) (by omega) (fun v1 X9 M9 h1 => ?_) (fun e X1 M1 h => by obtain ⟨_, _, h, _⟩ := h; cases h)
      obtain ⟨c, h_c, e1, e2, e3⟩ := h1
      cases e1
      rw [e2, e3, List.append_nil]
      show tv_W E _ _ _ _ _ _ [.int (nI c), .int (nI ((h + 1 + t) % 4)), .int (nI h), .ref (E.G.2.1 + 0), .int y]
      exact key _ _ c (by omega) (by omega) (by omega)
theorem a_L_begun (G : tvG) : tvRunB G yL_begun (tvWd yL_begun cL_begun 5 (some (.object "TideVault"))) 9 300 3200 (0, (fun _ _ => none), True, []) [.ref G.sb] tvZ (fun o X1 M1 => o = .inl (some (.ref (G.2.1 + 0))) ∧ X1 = [] ∧ zInv 2400 M1) := by
  refine tvRunB.of yk_L_begun rfl [some (.ref G.sb), none, none, none, none] rfl (Nat.le_of_ble_eq_true rfl) ?_
  intro E hG C hI hQ; subst hG
  refine tv_new C ⟨trivial, rfl⟩ dk_L_begun_0 nw_RL_10 rfl (Nat.le_of_ble_eq_true rfl) (Nat.le_of_ble_eq_true rfl) ?_
  refine tv_dup C dk_L_begun_3 rfl ?_
  refine tv_callI C dk_L_begun_4 ml_RL_105 yk_X8_init rfl im_X8_init (m_X8_init _ _ _) rfl rfl (Nat.le_of_ble_eq_true rfl) (Nat.le_of_ble_eq_true rfl) (Nat.le_of_ble_eq_true rfl) (Nat.le_of_ble_eq_true rfl) (Nat.le_of_ble_eq_true rfl) ?_
  have key : tv_W E (tvPX []) (0 + 1 + 248) (0 + 10 + 2996) tvM1 7 [some (.ref E.G.sb), none, none, none, none] [.ref (E.G.2.1 + 0)] := by
    refine tv_astore_n (L' := [_, _, _, _, _]) (hn := by decide) (hlt := (Nat.le_of_ble_eq_true rfl)) (hno := rfl) C dk_L_begun_7 rfl ?_
    refine tv_iconst (v := nI 0) C dk_L_begun_8 (by decide) ?_
    refine tv_istore_n (L' := [_, _, _, _, _]) (hn := by decide) (hlt := (Nat.le_of_ble_eq_true rfl)) (hno := rfl) C dk_L_begun_9 rfl ?_
    refine tv_iconst (v := nI 0) C dk_L_begun_10 (by decide) ?_
    refine tv_istore_n (L' := [_, _, _, _, _]) (hn := by decide) (hlt := (Nat.le_of_ble_eq_true rfl)) (hno := rfl) C dk_L_begun_11 rfl ?_
    refine w_beg_H C (fun k1 l1 M1 s1 x1 n1 S1 y1 hk1 hl1 hG1 a1 a2 a3 a4 => ?_) 4 0 (by omega) _ _ tvM1 tvS0 0 0 (fun _ => tvS0) _ (by omega) (by omega) pG_0 rfl rfl zE_0 zI_0
    refine tv_iconst (v := nI 0) C dk_L_begun_34 (by decide) ?_
    refine tv_istore_n (L' := [_, _, _, _, _]) (hn := by decide) (hlt := (Nat.le_of_ble_eq_true rfl)) (hno := rfl) C dk_L_begun_35 rfl ?_
    refine w_beg_B C (fun k2 l2 M2 s2 x2 n2 S2 y2 hk2 hl2 hG2 b1 b2 b3 b4 => ?_) 4 0 (by omega) _ _ M1 s1 x1 n1 S1 y1 (by omega) (by omega) hG1 a1 a2 a3 a4
    refine tv_iload_n C dk_L_begun_105 rfl ?_
    refine tv_aload_n C dk_L_begun_106 rfl ?_
    refine tv_bipush (v := nI 60) C dk_L_begun_107 (by decide) ?_
    refine tv_aload_n C dk_L_begun_109 rfl ?_
    refine tv_bipush (v := nI 12) C dk_L_begun_110 (by decide) ?_
    refine tv_bipush (v := nI 60) C dk_L_begun_112 (by decide) ?_
    refine tx_callS (As := [.ref E.G.sb, .int (nI 12), .int (nI 60)]) C dk_L_begun_114 ml_RL_109 yk_L_in yi_L_in (fun w => a_L_in _ M2 12 60 (by omega) (by omega) (by omega)) rfl rfl (Nat.le_of_ble_eq_true rfl) (Nat.le_of_ble_eq_true rfl) (Nat.le_of_ble_eq_true rfl) (by omega) (by omega) (fun v1 X9 M9 h1 => ?_) (fun e X1 M1 h => by obtain ⟨_, _, h, _⟩ := h; cases h)
    obtain ⟨p, h_p, e1, e2, e3⟩ := h1
    cases e1
    rw [e2, e3, List.append_nil]
    show tv_W E _ _ _ _ _ _ [.int (nI p), .int (nI 60), .ref (E.G.2.1 + 0), .int y2]
    refine tv_iadd C dk_L_begun_117 ?_
    refine tv_ti (v := nI (60 + p)) (nI_add 60 p) ?_
    refine tv_bipush (v := nI 10) C dk_L_begun_118 (by decide) ?_
    refine tv_aload_n C dk_L_begun_120 rfl ?_
    refine tv_bipush (v := nI 13) C dk_L_begun_121 (by decide) ?_
    refine tv_bipush (v := nI 50) C dk_L_begun_123 (by decide) ?_
    refine tx_callS (As := [.ref E.G.sb, .int (nI 13), .int (nI 50)]) C dk_L_begun_125 ml_RL_109 yk_L_in yi_L_in (fun w => a_L_in _ M2 13 50 (by omega) (by omega) (by omega)) rfl rfl (Nat.le_of_ble_eq_true rfl) (Nat.le_of_ble_eq_true rfl) (Nat.le_of_ble_eq_true rfl) (by omega) (by omega) (fun v1 X9 M9 h1 => ?_) (fun e X1 M1 h => by obtain ⟨_, _, h, _⟩ := h; cases h)
    obtain ⟨l, h_l, e1, e2, e3⟩ := h1
    cases e1
    rw [e2, e3, List.append_nil]
    show tv_W E _ _ _ _ _ _ [.int (nI l), .int (nI 10), .int (nI (60 + p)), .ref (E.G.2.1 + 0), .int y2]
    refine tv_iadd C dk_L_begun_128 ?_
    refine tv_ti (v := nI (10 + l)) (nI_add 10 l) ?_
    obtain ⟨y3, M3, hw3, hk3⟩ := k_setTide (by omega) hG2 (nI (60 + p)) (nI (10 + l))
    refine tx_cSW (As := [.ref (E.G.2.1 + 0), .int (nI (60 + p)), .int (nI (10 + l))]) C dk_L_begun_129 ml_RL_116 yw_L_setTide yi_L_setTide (fun w => m_L_setTide _ M2 _ _ hw3) rfl rfl (Nat.le_of_ble_eq_true rfl) (Nat.le_of_ble_eq_true rfl) (Nat.le_of_ble_eq_true rfl) (by omega) (by omega) rfl rfl rfl ?_
    obtain ⟨s3, x3, n3, S3, hG3, c1, c2, c3⟩ := kOut_inv (B := 2160) hG2 b1 b2 b3 (by omega) (by omega) (by omega) hk3
    refine tv_aload_n C dk_L_begun_132 rfl ?_
    refine tv_iconst (v := nI 1) C dk_L_begun_133 (by decide) ?_
    refine tv_aload_n C dk_L_begun_134 rfl ?_
    refine tv_bipush (v := nI 14) C dk_L_begun_135 (by decide) ?_
    refine tv_bipush (v := nI 90) C dk_L_begun_137 (by decide) ?_
    refine tx_callS (As := [.ref E.G.sb, .int (nI 14), .int (nI 90)]) C dk_L_begun_139 ml_RL_109 yk_L_in yi_L_in (fun w => a_L_in _ M3 14 90 (by omega) (by omega) (by omega)) rfl rfl (Nat.le_of_ble_eq_true rfl) (Nat.le_of_ble_eq_true rfl) (Nat.le_of_ble_eq_true rfl) (by omega) (by omega) (fun v1 X9 M9 h1 => ?_) (fun e X1 M1 h => by obtain ⟨_, _, h, _⟩ := h; cases h)
    obtain ⟨r, h_r, e1, e2, e3⟩ := h1
    cases e1
    rw [e2, e3, List.append_nil]
    show tv_W E _ _ _ _ _ _ [.int (nI r), .int (nI 1), .ref (E.G.2.1 + 0), .int y3, .int y2]
    refine tv_iadd C dk_L_begun_142 ?_
    refine tv_ti (v := nI (1 + r)) (nI_add 1 r) ?_
    obtain ⟨y4, M4, hw4, hk4⟩ := k_pass (by omega) hG3 (nI (1 + r))
    refine tx_cSW (As := [.ref (E.G.2.1 + 0), .int (nI (1 + r))]) C dk_L_begun_143 ml_RL_119 yw_L_pass yi_L_pass (fun w => m_L_pass _ M3 _ hw4) rfl rfl (Nat.le_of_ble_eq_true rfl) (Nat.le_of_ble_eq_true rfl) (Nat.le_of_ble_eq_true rfl) (by omega) (by omega) rfl rfl rfl ?_
    have hinv := kOut_inv (B := 2400) hG3 c1 c2 c3 (by omega) (by omega) (by omega) hk4
    refine tv_iadd C dk_L_begun_146 ?_
    refine tv_iadd C dk_L_begun_147 ?_
    refine tv_istore_n (L' := [_, _, _, _, _]) (hn := by decide) (hlt := (Nat.le_of_ble_eq_true rfl)) (hno := rfl) C dk_L_begun_148 rfl ?_
    refine tv_iload_n C dk_L_begun_149 rfl ?_
    refine tv_ldcI (v := -90000000) C dk_L_begun_150 kc_121 ?_
    have hz := zI_add b4 (zI_add (kOut_I hk3) (kOut_I hk4) (by omega)) (by omega)
    refine tv_icmp_ge C dk_L_begun_152 (fun _ => ?_) (fun h => absurd (zI_ge hz (by omega)) h)
    refine tv_aload_n C dk_L_begun_159 rfl ?_
    exact tx_aret C (Or.inl ⟨_, rfl⟩) hQ dk_L_begun_160 ⟨rfl, rfl, hinv⟩ (by omega) (by omega)
  exact fun H locs ls hP hS hL => key H locs ls (tvP_go hP) hS hL
