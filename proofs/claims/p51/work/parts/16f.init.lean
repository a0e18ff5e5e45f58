theorem i_X6_init_lt (b : Nat) (ρ : tvR) (x : Nat) (h : x < b) : i_X6_init_r b ρ x = ρ x := by
  have hk : ∀ k, x ≠ b + k := fun k => by omega
  have h0 : x ≠ b := by omega
  simp only [i_X6_init_r, i_X2_init_r, i_X0_init_r, i_X4_init_r, tvRp, tvRz, tvU_ne _ _ _ (hk _), tvU_ne _ _ _ h0, if_neg (hk _), if_neg h0]
/-- new TideVault$History -/
def i_X1_init_r (ρ : tvR) : tvR := (tvRp (i_X6_init_r 223 (tvRz (tvRp (i_X6_init_r 203 (tvRz (tvRp (i_X6_init_r 183 (tvRz (tvRp (i_X6_init_r 163 (tvRz (tvRp (i_X6_init_r 143 (tvRz (tvRp (i_X6_init_r 123 (tvRz (tvRp (i_X6_init_r 103 (tvRz (tvRp (i_X6_init_r 83 (tvRz (tvRp (i_X6_init_r 63 (tvRz (tvRp (tvRz ρ 62) 61 0 62) 63)) 62 0 63) 83)) 62 1 83) 103)) 62 2 103) 123)) 62 3 123) 143)) 62 4 143) 163)) 62 5 163) 183)) 62 6 183) 203)) 62 7 203) 223)) 62 8 223)
def i_X1_init_m (M : tvM) : tvM := (i_X6_init_m 223 (tvMz (i_X6_init_m 203 (tvMz (i_X6_init_m 183 (tvMz (i_X6_init_m 163 (tvMz (i_X6_init_m 143 (tvMz (i_X6_init_m 123 (tvMz (i_X6_init_m 103 (tvMz (i_X6_init_m 83 (tvMz (i_X6_init_m 63 (tvMz (tvMz M 62) 63)) 83)) 103)) 123)) 143)) 163)) 183)) 203)) 223))
theorem m_X1_init (G : tvG) (M : tvM) (ρ : tvR) : tvRun G yX1_init cX1_init 2 none 4 181 1989 (62, ρ, True, []) (243, i_X1_init_r ρ, True, []) [.ref (G.2.1 + 61)] M (.inl none) (i_X1_init_m M) := by
  refine tvRun.ofI yk_X1_init rfl [some (.ref (G.2.1 + 61)), none] rfl (Nat.le_of_ble_eq_true rfl) ?_
  intro E hG C hI hQ; subst hG
  refine tv_aload_n C dk_X1_init_0 rfl ?_
  refine tv_obj C dk_X1_init_1 (tvgc (tvc_3 (List.mem_of_getElem? (i := 168) (by decide +kernel))) rfl) (Nat.le_of_ble_eq_true rfl) (Nat.le_of_ble_eq_true rfl) ?_
  refine tv_aload_n C dk_X1_init_4 rfl ?_
  refine tv_bipush (v := 9) C dk_X1_init_5 (by decide) ?_
  refine tv_anew (N := 9) C ⟨trivial, rfl⟩ dk_X1_init_7 (tvgc (tvc_3 (List.mem_of_getElem? (i := 169) (by decide +kernel))) rfl) (rfl) (by decide) (by decide) (by decide) (Nat.le_of_ble_eq_true rfl) (Nat.le_of_ble_eq_true rfl) ?_
  refine tv_mkR (r := 62) C hI dk_X1_init_10 fo_RX1_13 (show 61 < 63 from (Nat.le_of_ble_eq_true rfl)) (rfl) (Or.inr ⟨_, rfl⟩) ?_
  refine tv_iconst (v := 0) C dk_X1_init_13 (by decide) ?_
  refine tv_istore_n (L' := [_, _]) (hn := by decide) (hlt := (Nat.le_of_ble_eq_true rfl)) (hno := rfl) C dk_X1_init_14 rfl ?_
  refine tv_iload_n C dk_X1_init_15 rfl ?_
  refine tv_bipush (v := 9) C dk_X1_init_16 (by decide) ?_
  refine tv_icmp_ge C dk_X1_init_18 (fun h => absurd h (by decide)) (fun _ => ?_)
  refine tv_aload_n C dk_X1_init_21 rfl ?_
  refine tv_getR (r := 62) C dk_X1_init_22 fl_RX1_13 (show 61 < 63 from (Nat.le_of_ble_eq_true rfl)) (rfl) (by simp [tvRp, tvRz, tvU, i_X6_init_lt]) (fun _ _ _ _ => rfl) ?_
  refine tv_iload_n C dk_X1_init_25 rfl ?_
  refine tv_new C ⟨trivial, rfl⟩ dk_X1_init_26 nw_RX1_11 (rfl) (Nat.le_of_ble_eq_true rfl) (Nat.le_of_ble_eq_true rfl) ?_
  refine tv_dup C dk_X1_init_29 rfl ?_
  refine tv_callIN C dk_X1_init_30 mn_RX1_17 yk_X6_init rfl ym_X6_init (m_X6_init _ _ _ tvSBn_63) rfl rfl (Nat.le_of_ble_eq_true rfl) (Nat.le_of_ble_eq_true rfl) (Nat.le_of_ble_eq_true rfl) (Nat.le_of_ble_eq_true rfl) (Nat.le_of_ble_eq_true rfl) ?_
  refine tv_ast (b := 63) (j := 0) C dk_X1_init_33 (show 62 < 83 from (Nat.le_of_ble_eq_true rfl)) (rfl) (show 63 < 83 from (Nat.le_of_ble_eq_true rfl)) (rfl) (by unfold vp_in; decide) (by decide) ?_
  refine tv_iinc (v := (0 + 1)) (L' := [_, _]) (hn := by decide) (hlt := (Nat.le_of_ble_eq_true rfl)) (hno := rfl) C dk_X1_init_34 rfl rfl rfl ?_
  refine tv_goto C dk_X1_init_37 ?_
  refine tv_iload_n C dk_X1_init_15 rfl ?_
  refine tv_bipush (v := 9) C dk_X1_init_16 (by decide) ?_
  refine tv_icmp_ge C dk_X1_init_18 (fun h => absurd h (by decide)) (fun _ => ?_)
  refine tv_aload_n C dk_X1_init_21 rfl ?_
  refine tv_getR (r := 62) C dk_X1_init_22 fl_RX1_13 (show 61 < 83 from (Nat.le_of_ble_eq_true rfl)) (rfl) (by simp [tvRp, tvRz, tvU, i_X6_init_lt]) (fun _ _ _ _ => rfl) ?_
  refine tv_iload_n C dk_X1_init_25 rfl ?_
  refine tv_new C ⟨trivial, rfl⟩ dk_X1_init_26 nw_RX1_11 (rfl) (Nat.le_of_ble_eq_true rfl) (Nat.le_of_ble_eq_true rfl) ?_
  refine tv_dup C dk_X1_init_29 rfl ?_
  refine tv_callIN C dk_X1_init_30 mn_RX1_17 yk_X6_init rfl ym_X6_init (m_X6_init _ _ _ tvSBn_83) rfl rfl (Nat.le_of_ble_eq_true rfl) (Nat.le_of_ble_eq_true rfl) (Nat.le_of_ble_eq_true rfl) (Nat.le_of_ble_eq_true rfl) (Nat.le_of_ble_eq_true rfl) ?_
  refine tv_ast (b := 83) (j := 1) C dk_X1_init_33 (show 62 < 103 from (Nat.le_of_ble_eq_true rfl)) (rfl) (show 83 < 103 from (Nat.le_of_ble_eq_true rfl)) (rfl) (by unfold vp_in; decide) (by decide) ?_
  refine tv_iinc (v := ((0 + 1) + 1)) (L' := [_, _]) (hn := by decide) (hlt := (Nat.le_of_ble_eq_true rfl)) (hno := rfl) C dk_X1_init_34 rfl rfl rfl ?_
  refine tv_goto C dk_X1_init_37 ?_
  refine tv_iload_n C dk_X1_init_15 rfl ?_
  refine tv_bipush (v := 9) C dk_X1_init_16 (by decide) ?_
  refine tv_icmp_ge C dk_X1_init_18 (fun h => absurd h (by decide)) (fun _ => ?_)
  refine tv_aload_n C dk_X1_init_21 rfl ?_
  refine tv_getR (r := 62) C dk_X1_init_22 fl_RX1_13 (show 61 < 103 from (Nat.le_of_ble_eq_true rfl)) (rfl) (by simp [tvRp, tvRz, tvU, i_X6_init_lt]) (fun _ _ _ _ => rfl) ?_
  refine tv_iload_n C dk_X1_init_25 rfl ?_
  refine tv_new C ⟨trivial, rfl⟩ dk_X1_init_26 nw_RX1_11 (rfl) (Nat.le_of_ble_eq_true rfl) (Nat.le_of_ble_eq_true rfl) ?_
  refine tv_dup C dk_X1_init_29 rfl ?_
  refine tv_callIN C dk_X1_init_30 mn_RX1_17 yk_X6_init rfl ym_X6_init (m_X6_init _ _ _ tvSBn_103) rfl rfl (Nat.le_of_ble_eq_true rfl) (Nat.le_of_ble_eq_true rfl) (Nat.le_of_ble_eq_true rfl) (Nat.le_of_ble_eq_true rfl) (Nat.le_of_ble_eq_true rfl) ?_
  refine tv_ast (b := 103) (j := 2) C dk_X1_init_33 (show 62 < 123 from (Nat.le_of_ble_eq_true rfl)) (rfl) (show 103 < 123 from (Nat.le_of_ble_eq_true rfl)) (rfl) (by unfold vp_in; decide) (by decide) ?_
  refine tv_iinc (v := (((0 + 1) + 1) + 1)) (L' := [_, _]) (hn := by decide) (hlt := (Nat.le_of_ble_eq_true rfl)) (hno := rfl) C dk_X1_init_34 rfl rfl rfl ?_
  refine tv_goto C dk_X1_init_37 ?_
  refine tv_iload_n C dk_X1_init_15 rfl ?_
  refine tv_bipush (v := 9) C dk_X1_init_16 (by decide) ?_
  refine tv_icmp_ge C dk_X1_init_18 (fun h => absurd h (by decide)) (fun _ => ?_)
  refine tv_aload_n C dk_X1_init_21 rfl ?_
  refine tv_getR (r := 62) C dk_X1_init_22 fl_RX1_13 (show 61 < 123 from (Nat.le_of_ble_eq_true rfl)) (rfl) (by simp [tvRp, tvRz, tvU, i_X6_init_lt]) (fun _ _ _ _ => rfl) ?_
  refine tv_iload_n C dk_X1_init_25 rfl ?_
  refine tv_new C ⟨trivial, rfl⟩ dk_X1_init_26 nw_RX1_11 (rfl) (Nat.le_of_ble_eq_true rfl) (Nat.le_of_ble_eq_true rfl) ?_
  refine tv_dup C dk_X1_init_29 rfl ?_
  refine tv_callIN C dk_X1_init_30 mn_RX1_17 yk_X6_init rfl ym_X6_init (m_X6_init _ _ _ tvSBn_123) rfl rfl (Nat.le_of_ble_eq_true rfl) (Nat.le_of_ble_eq_true rfl) (Nat.le_of_ble_eq_true rfl) (Nat.le_of_ble_eq_true rfl) (Nat.le_of_ble_eq_true rfl) ?_
  refine tv_ast (b := 123) (j := 3) C dk_X1_init_33 (show 62 < 143 from (Nat.le_of_ble_eq_true rfl)) (rfl) (show 123 < 143 from (Nat.le_of_ble_eq_true rfl)) (rfl) (by unfold vp_in; decide) (by decide) ?_
  refine tv_iinc (v := ((((0 + 1) + 1) + 1) + 1)) (L' := [_, _]) (hn := by decide) (hlt := (Nat.le_of_ble_eq_true rfl)) (hno := rfl) C dk_X1_init_34 rfl rfl rfl ?_
  refine tv_goto C dk_X1_init_37 ?_
  refine tv_iload_n C dk_X1_init_15 rfl ?_
  refine tv_bipush (v := 9) C dk_X1_init_16 (by decide) ?_
  refine tv_icmp_ge C dk_X1_init_18 (fun h => absurd h (by decide)) (fun _ => ?_)
  refine tv_aload_n C dk_X1_init_21 rfl ?_
  refine tv_getR (r := 62) C dk_X1_init_22 fl_RX1_13 (show 61 < 143 from (Nat.le_of_ble_eq_true rfl)) (rfl) (by simp [tvRp, tvRz, tvU, i_X6_init_lt]) (fun _ _ _ _ => rfl) ?_
  refine tv_iload_n C dk_X1_init_25 rfl ?_
  refine tv_new C ⟨trivial, rfl⟩ dk_X1_init_26 nw_RX1_11 (rfl) (Nat.le_of_ble_eq_true rfl) (Nat.le_of_ble_eq_true rfl) ?_
  refine tv_dup C dk_X1_init_29 rfl ?_
  refine tv_callIN C dk_X1_init_30 mn_RX1_17 yk_X6_init rfl ym_X6_init (m_X6_init _ _ _ tvSBn_143) rfl rfl (Nat.le_of_ble_eq_true rfl) (Nat.le_of_ble_eq_true rfl) (Nat.le_of_ble_eq_true rfl) (Nat.le_of_ble_eq_true rfl) (Nat.le_of_ble_eq_true rfl) ?_
  refine tv_ast (b := 143) (j := 4) C dk_X1_init_33 (show 62 < 163 from (Nat.le_of_ble_eq_true rfl)) (rfl) (show 143 < 163 from (Nat.le_of_ble_eq_true rfl)) (rfl) (by unfold vp_in; decide) (by decide) ?_
  refine tv_iinc (v := (((((0 + 1) + 1) + 1) + 1) + 1)) (L' := [_, _]) (hn := by decide) (hlt := (Nat.le_of_ble_eq_true rfl)) (hno := rfl) C dk_X1_init_34 rfl rfl rfl ?_
  refine tv_goto C dk_X1_init_37 ?_
  refine tv_iload_n C dk_X1_init_15 rfl ?_
  refine tv_bipush (v := 9) C dk_X1_init_16 (by decide) ?_
  refine tv_icmp_ge C dk_X1_init_18 (fun h => absurd h (by decide)) (fun _ => ?_)
  refine tv_aload_n C dk_X1_init_21 rfl ?_
  refine tv_getR (r := 62) C dk_X1_init_22 fl_RX1_13 (show 61 < 163 from (Nat.le_of_ble_eq_true rfl)) (rfl) (by simp [tvRp, tvRz, tvU, i_X6_init_lt]) (fun _ _ _ _ => rfl) ?_
  refine tv_iload_n C dk_X1_init_25 rfl ?_
  refine tv_new C ⟨trivial, rfl⟩ dk_X1_init_26 nw_RX1_11 (rfl) (Nat.le_of_ble_eq_true rfl) (Nat.le_of_ble_eq_true rfl) ?_
  refine tv_dup C dk_X1_init_29 rfl ?_
  refine tv_callIN C dk_X1_init_30 mn_RX1_17 yk_X6_init rfl ym_X6_init (m_X6_init _ _ _ tvSBn_163) rfl rfl (Nat.le_of_ble_eq_true rfl) (Nat.le_of_ble_eq_true rfl) (Nat.le_of_ble_eq_true rfl) (Nat.le_of_ble_eq_true rfl) (Nat.le_of_ble_eq_true rfl) ?_
  refine tv_ast (b := 163) (j := 5) C dk_X1_init_33 (show 62 < 183 from (Nat.le_of_ble_eq_true rfl)) (rfl) (show 163 < 183 from (Nat.le_of_ble_eq_true rfl)) (rfl) (by unfold vp_in; decide) (by decide) ?_
  refine tv_iinc (v := ((((((0 + 1) + 1) + 1) + 1) + 1) + 1)) (L' := [_, _]) (hn := by decide) (hlt := (Nat.le_of_ble_eq_true rfl)) (hno := rfl) C dk_X1_init_34 rfl rfl rfl ?_
  refine tv_goto C dk_X1_init_37 ?_
  refine tv_iload_n C dk_X1_init_15 rfl ?_
  refine tv_bipush (v := 9) C dk_X1_init_16 (by decide) ?_
  refine tv_icmp_ge C dk_X1_init_18 (fun h => absurd h (by decide)) (fun _ => ?_)
  refine tv_aload_n C dk_X1_init_21 rfl ?_
  refine tv_getR (r := 62) C dk_X1_init_22 fl_RX1_13 (show 61 < 183 from (Nat.le_of_ble_eq_true rfl)) (rfl) (by simp [tvRp, tvRz, tvU, i_X6_init_lt]) (fun _ _ _ _ => rfl) ?_
  refine tv_iload_n C dk_X1_init_25 rfl ?_
  refine tv_new C ⟨trivial, rfl⟩ dk_X1_init_26 nw_RX1_11 (rfl) (Nat.le_of_ble_eq_true rfl) (Nat.le_of_ble_eq_true rfl) ?_
  refine tv_dup C dk_X1_init_29 rfl ?_
  refine tv_callIN C dk_X1_init_30 mn_RX1_17 yk_X6_init rfl ym_X6_init (m_X6_init _ _ _ tvSBn_183) rfl rfl (Nat.le_of_ble_eq_true rfl) (Nat.le_of_ble_eq_true rfl) (Nat.le_of_ble_eq_true rfl) (Nat.le_of_ble_eq_true rfl) (Nat.le_of_ble_eq_true rfl) ?_
  refine tv_ast (b := 183) (j := 6) C dk_X1_init_33 (show 62 < 203 from (Nat.le_of_ble_eq_true rfl)) (rfl) (show 183 < 203 from (Nat.le_of_ble_eq_true rfl)) (rfl) (by unfold vp_in; decide) (by decide) ?_
  refine tv_iinc (v := (((((((0 + 1) + 1) + 1) + 1) + 1) + 1) + 1)) (L' := [_, _]) (hn := by decide) (hlt := (Nat.le_of_ble_eq_true rfl)) (hno := rfl) C dk_X1_init_34 rfl rfl rfl ?_
  refine tv_goto C dk_X1_init_37 ?_
  refine tv_iload_n C dk_X1_init_15 rfl ?_
  refine tv_bipush (v := 9) C dk_X1_init_16 (by decide) ?_
  refine tv_icmp_ge C dk_X1_init_18 (fun h => absurd h (by decide)) (fun _ => ?_)
  refine tv_aload_n C dk_X1_init_21 rfl ?_
  refine tv_getR (r := 62) C dk_X1_init_22 fl_RX1_13 (show 61 < 203 from (Nat.le_of_ble_eq_true rfl)) (rfl) (by simp [tvRp, tvRz, tvU, i_X6_init_lt]) (fun _ _ _ _ => rfl) ?_
  refine tv_iload_n C dk_X1_init_25 rfl ?_
  refine tv_new C ⟨trivial, rfl⟩ dk_X1_init_26 nw_RX1_11 (rfl) (Nat.le_of_ble_eq_true rfl) (Nat.le_of_ble_eq_true rfl) ?_
  refine tv_dup C dk_X1_init_29 rfl ?_
  refine tv_callIN C dk_X1_init_30 mn_RX1_17 yk_X6_init rfl ym_X6_init (m_X6_init _ _ _ tvSBn_203) rfl rfl (Nat.le_of_ble_eq_true rfl) (Nat.le_of_ble_eq_true rfl) (Nat.le_of_ble_eq_true rfl) (Nat.le_of_ble_eq_true rfl) (Nat.le_of_ble_eq_true rfl) ?_
  refine tv_ast (b := 203) (j := 7) C dk_X1_init_33 (show 62 < 223 from (Nat.le_of_ble_eq_true rfl)) (rfl) (show 203 < 223 from (Nat.le_of_ble_eq_true rfl)) (rfl) (by unfold vp_in; decide) (by decide) ?_
  refine tv_iinc (v := ((((((((0 + 1) + 1) + 1) + 1) + 1) + 1) + 1) + 1)) (L' := [_, _]) (hn := by decide) (hlt := (Nat.le_of_ble_eq_true rfl)) (hno := rfl) C dk_X1_init_34 rfl rfl rfl ?_
  refine tv_goto C dk_X1_init_37 ?_
  refine tv_iload_n C dk_X1_init_15 rfl ?_
  refine tv_bipush (v := 9) C dk_X1_init_16 (by decide) ?_
  refine tv_icmp_ge C dk_X1_init_18 (fun h => absurd h (by decide)) (fun _ => ?_)
  refine tv_aload_n C dk_X1_init_21 rfl ?_
  refine tv_getR (r := 62) C dk_X1_init_22 fl_RX1_13 (show 61 < 223 from (Nat.le_of_ble_eq_true rfl)) (rfl) (by simp [tvRp, tvRz, tvU, i_X6_init_lt]) (fun _ _ _ _ => rfl) ?_
  refine tv_iload_n C dk_X1_init_25 rfl ?_
  refine tv_new C ⟨trivial, rfl⟩ dk_X1_init_26 nw_RX1_11 (rfl) (Nat.le_of_ble_eq_true rfl) (Nat.le_of_ble_eq_true rfl) ?_
  refine tv_dup C dk_X1_init_29 rfl ?_
  refine tv_callIN C dk_X1_init_30 mn_RX1_17 yk_X6_init rfl ym_X6_init (m_X6_init _ _ _ tvSBn_223) rfl rfl (Nat.le_of_ble_eq_true rfl) (Nat.le_of_ble_eq_true rfl) (Nat.le_of_ble_eq_true rfl) (Nat.le_of_ble_eq_true rfl) (Nat.le_of_ble_eq_true rfl) ?_
  refine tv_ast (b := 223) (j := 8) C dk_X1_init_33 (show 62 < 243 from (Nat.le_of_ble_eq_true rfl)) (rfl) (show 223 < 243 from (Nat.le_of_ble_eq_true rfl)) (rfl) (by unfold vp_in; decide) (by decide) ?_
  refine tv_iinc (v := (((((((((0 + 1) + 1) + 1) + 1) + 1) + 1) + 1) + 1) + 1)) (L' := [_, _]) (hn := by decide) (hlt := (Nat.le_of_ble_eq_true rfl)) (hno := rfl) C dk_X1_init_34 rfl rfl rfl ?_
  refine tv_goto C dk_X1_init_37 ?_
  refine tv_iload_n C dk_X1_init_15 rfl ?_
  refine tv_bipush (v := 9) C dk_X1_init_16 (by decide) ?_
  refine tv_icmp_ge C dk_X1_init_18 (fun _ => ?_) (fun h => absurd (by decide) h)
  exact tv_vret C hQ dk_X1_init_40 rfl rfl
/-- new TideVault -/
def i_X8_init_r (ρ : tvR) : tvR := (tvRp (i_X3_init_r (tvRz (tvRp (i_X5_init_r (tvRz (tvRp (i_X1_init_r (tvRz (tvRp (i_X6_init_r 41 (tvRz (tvRp (i_X6_init_r 21 (tvRz (tvRp (i_X6_init_r 1 (tvRz ρ 1)) 0 0 1) 21)) 0 1 21) 41)) 0 2 41) 61)) 0 3 61) 243)) 0 4 243) 247)) 0 5 247)
def i_X8_init_m (M : tvM) : tvM := (tpi (tpi (i_X3_init_m (tvMz (i_X5_init_m (tvMz (i_X1_init_m (tvMz (i_X6_init_m 41 (tvMz (i_X6_init_m 21 (tvMz (i_X6_init_m 1 (tvMz M 1)) 21)) 41)) 61)) 243)) 247)) 0 7 (-1)) 0 8 (-1))
theorem m_X8_init (G : tvG) (M : tvM) (ρ : tvR) : tvRun G yX8_init cX8_init 1 none 5 248 2996 (1, ρ, True, []) (249, i_X8_init_r ρ, True, []) [.ref (G.2.1 + 0)] M (.inl none) (i_X8_init_m M) := by
  refine tvRun.ofI yk_X8_init rfl [some (.ref (G.2.1 + 0))] rfl (Nat.le_of_ble_eq_true rfl) ?_
  intro E hG C hI hQ; subst hG
  refine tv_aload_n C dk_X8_init_0 rfl ?_
  refine tv_obj C dk_X8_init_1 (tvgc (tvc_3 (List.mem_of_getElem? (i := 27) (by decide +kernel))) rfl) (Nat.le_of_ble_eq_true rfl) (Nat.le_of_ble_eq_true rfl) ?_
  refine tv_aload_n C dk_X8_init_4 rfl ?_
  refine tv_new C ⟨trivial, rfl⟩ dk_X8_init_5 nw_RX8_9 (rfl) (Nat.le_of_ble_eq_true rfl) (Nat.le_of_ble_eq_true rfl) ?_
  refine tv_dup C dk_X8_init_8 rfl ?_
  refine tv_callIN C dk_X8_init_9 mn_RX8_11 yk_X6_init rfl ym_X6_init (m_X6_init _ _ _ tvSBn_1) rfl rfl (Nat.le_of_ble_eq_true rfl) (Nat.le_of_ble_eq_true rfl) (Nat.le_of_ble_eq_true rfl) (Nat.le_of_ble_eq_true rfl) (Nat.le_of_ble_eq_true rfl) ?_
  refine tv_mkR (r := 1) C hI dk_X8_init_12 fo_RX8_12 (show 0 < 21 from (Nat.le_of_ble_eq_true rfl)) (rfl) (Or.inl ⟨_, rfl⟩) ?_
  refine tv_aload_n C dk_X8_init_15 rfl ?_
  refine tv_new C ⟨trivial, rfl⟩ dk_X8_init_16 nw_RX8_9 (rfl) (Nat.le_of_ble_eq_true rfl) (Nat.le_of_ble_eq_true rfl) ?_
  refine tv_dup C dk_X8_init_19 rfl ?_
  refine tv_callIN C dk_X8_init_20 mn_RX8_11 yk_X6_init rfl ym_X6_init (m_X6_init _ _ _ tvSBn_21) rfl rfl (Nat.le_of_ble_eq_true rfl) (Nat.le_of_ble_eq_true rfl) (Nat.le_of_ble_eq_true rfl) (Nat.le_of_ble_eq_true rfl) (Nat.le_of_ble_eq_true rfl) ?_
  refine tv_mkR (r := 21) C hI dk_X8_init_23 fo_RX8_16 (show 0 < 41 from (Nat.le_of_ble_eq_true rfl)) (rfl) (Or.inl ⟨_, rfl⟩) ?_
  refine tv_aload_n C dk_X8_init_26 rfl ?_
  refine tv_new C ⟨trivial, rfl⟩ dk_X8_init_27 nw_RX8_9 (rfl) (Nat.le_of_ble_eq_true rfl) (Nat.le_of_ble_eq_true rfl) ?_
  refine tv_dup C dk_X8_init_30 rfl ?_
  refine tv_callIN C dk_X8_init_31 mn_RX8_11 yk_X6_init rfl ym_X6_init (m_X6_init _ _ _ tvSBn_41) rfl rfl (Nat.le_of_ble_eq_true rfl) (Nat.le_of_ble_eq_true rfl) (Nat.le_of_ble_eq_true rfl) (Nat.le_of_ble_eq_true rfl) (Nat.le_of_ble_eq_true rfl) ?_
  refine tv_mkR (r := 41) C hI dk_X8_init_34 fo_RX8_19 (show 0 < 61 from (Nat.le_of_ble_eq_true rfl)) (rfl) (Or.inl ⟨_, rfl⟩) ?_
  refine tv_aload_n C dk_X8_init_37 rfl ?_
  refine tv_new C ⟨trivial, rfl⟩ dk_X8_init_38 nw_RX8_22 (rfl) (Nat.le_of_ble_eq_true rfl) (Nat.le_of_ble_eq_true rfl) ?_
  refine tv_dup C dk_X8_init_41 rfl ?_
  refine tv_callI C dk_X8_init_42 ml_RX8_24 yk_X1_init rfl ym_X1_init (m_X1_init _ _ _) rfl rfl (Nat.le_of_ble_eq_true rfl) (Nat.le_of_ble_eq_true rfl) (Nat.le_of_ble_eq_true rfl) (Nat.le_of_ble_eq_true rfl) (Nat.le_of_ble_eq_true rfl) ?_
  refine tv_mkR (r := 61) C hI dk_X8_init_45 fo_RX8_25 (show 0 < 243 from (Nat.le_of_ble_eq_true rfl)) (rfl) (Or.inl ⟨_, rfl⟩) ?_
  refine tv_aload_n C dk_X8_init_48 rfl ?_
  refine tv_new C ⟨trivial, rfl⟩ dk_X8_init_49 nw_RX8_29 (rfl) (Nat.le_of_ble_eq_true rfl) (Nat.le_of_ble_eq_true rfl) ?_
  refine tv_dup C dk_X8_init_52 rfl ?_
  refine tv_callIN C dk_X8_init_53 mn_RX8_31 yk_X5_init rfl ym_X5_init (m_X5_init _ _ _) rfl rfl (Nat.le_of_ble_eq_true rfl) (Nat.le_of_ble_eq_true rfl) (Nat.le_of_ble_eq_true rfl) (Nat.le_of_ble_eq_true rfl) (Nat.le_of_ble_eq_true rfl) ?_
  refine tv_mkR (r := 243) C hI dk_X8_init_56 fo_RX8_32 (show 0 < 247 from (Nat.le_of_ble_eq_true rfl)) (rfl) (Or.inl ⟨_, rfl⟩) ?_
  refine tv_aload_n C dk_X8_init_59 rfl ?_
  refine tv_new C ⟨trivial, rfl⟩ dk_X8_init_60 nw_RX8_36 (rfl) (Nat.le_of_ble_eq_true rfl) (Nat.le_of_ble_eq_true rfl) ?_
  refine tv_dup C dk_X8_init_63 rfl ?_
  refine tv_callIN C dk_X8_init_64 mn_RX8_38 yk_X3_init rfl ym_X3_init (m_X3_init _ _ _) rfl rfl (Nat.le_of_ble_eq_true rfl) (Nat.le_of_ble_eq_true rfl) (Nat.le_of_ble_eq_true rfl) (Nat.le_of_ble_eq_true rfl) (Nat.le_of_ble_eq_true rfl) ?_
  refine tv_mkR (r := 247) C hI dk_X8_init_67 fo_RX8_39 (show 0 < 249 from (Nat.le_of_ble_eq_true rfl)) (rfl) (Or.inl ⟨_, rfl⟩) ?_
  refine tv_aload_n C dk_X8_init_70 rfl ?_
  refine tv_iconst (v := (-1)) C dk_X8_init_71 (by decide) ?_
  refine tv_mkI C hI dk_X8_init_72 fo_RX8_43 (show 0 < 249 from (Nat.le_of_ble_eq_true rfl)) (rfl) (fun _ _ _ _ _ => rfl) rfl rfl ?_
  refine tv_aload_n C dk_X8_init_75 rfl ?_
  refine tv_iconst (v := (-1)) C dk_X8_init_76 (by decide) ?_
  refine tv_mkI C hI dk_X8_init_77 fo_RX8_47 (show 0 < 249 from (Nat.le_of_ble_eq_true rfl)) (rfl) (fun _ _ _ _ _ => rfl) rfl rfl ?_
  exact tv_vret C hQ dk_X8_init_80 rfl rfl
