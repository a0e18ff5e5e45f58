/-- new TideVault$Tide -/
def i_X7_init_m (b : Nat) (M : tvM) : tvM := (tpi (tpi M (b + 1) 0 240) (b + 1) 1 60)
theorem m_X7_init (G : tvG) (M : tvM) (ρ : tvR) {b : Nat} (hb : tvSB b) : tvRun G yX7_init cX7_init 1 none 2 0 0 ((b + 2), ρ, True, []) ((b + 2), ρ, True, []) [.ref (G.2.1 + (b + 1))] M (.inl none) (i_X7_init_m b M) := by
  refine tvRun.ofI yk_X7_init rfl [some (.ref (G.2.1 + (b + 1)))] rfl (Nat.le_of_ble_eq_true rfl) ?_
  intro E hG C hI hQ; subst hG
  refine tv_aload_n C dk_X7_init_0 rfl ?_
  refine tv_obj C dk_X7_init_1 (tvgc (tvc_3 (List.mem_of_getElem? (i := 37) (by decide +kernel))) rfl) (Nat.le_of_ble_eq_true rfl) (Nat.le_of_ble_eq_true rfl) ?_
  refine tv_aload_n C dk_X7_init_4 rfl ?_
  refine tv_sipush (v := 240) C dk_X7_init_5 (by decide) ?_
  refine tv_mkI C hI dk_X7_init_8 fo_RX7_7 (show (b + 1) < (b + 2) from by omega) ((tvSB_sh hb 1 (by decide)).1) (fun _ _ _ _ _ => rfl) rfl rfl ?_
  refine tv_aload_n C dk_X7_init_11 rfl ?_
  refine tv_bipush (v := 60) C dk_X7_init_12 (by decide) ?_
  refine tv_mkI C hI dk_X7_init_14 fo_RX7_13 (show (b + 1) < (b + 2) from by omega) ((tvSB_sh hb 1 (by decide)).1) (fun _ _ _ _ _ => rfl) rfl rfl ?_
  exact tv_vret C hQ dk_X7_init_17 rfl rfl
/-- new TideVault$Holders -/
def i_X2_init_r (b : Nat) (ρ : tvR) : tvR := (tvRp (tvRz (tvRp (tvRz (tvRp (tvRz ρ (b + 3)) (b + 2) 1 (b + 3)) (b + 4)) (b + 2) 2 (b + 4)) (b + 5)) (b + 2) 3 (b + 5))
def i_X2_init_m (b : Nat) (M : tvM) : tvM := (tvMz (tvMz (tvMz M (b + 3)) (b + 4)) (b + 5))
theorem m_X2_init (G : tvG) (M : tvM) (ρ : tvR) {b : Nat} (hb : tvSB b) : tvRun G yX2_init cX2_init 1 none 2 3 24 ((b + 3), ρ, True, []) ((b + 6), i_X2_init_r b ρ, True, []) [.ref (G.2.1 + (b + 2))] M (.inl none) (i_X2_init_m b M) := by
  refine tvRun.ofI yk_X2_init rfl [some (.ref (G.2.1 + (b + 2)))] rfl (Nat.le_of_ble_eq_true rfl) ?_
  intro E hG C hI hQ; subst hG
  refine tv_aload_n C dk_X2_init_0 rfl ?_
  refine tv_obj C dk_X2_init_1 (tvgc (tvc_3 (List.mem_of_getElem? (i := 50) (by decide +kernel))) rfl) (Nat.le_of_ble_eq_true rfl) (Nat.le_of_ble_eq_true rfl) ?_
  refine tv_aload_n C dk_X2_init_4 rfl ?_
  refine tv_bipush (v := 8) C dk_X2_init_5 (by decide) ?_
  refine tv_newarr (t0 := 0) (N := 8) C ⟨trivial, rfl⟩ dk_X2_init_7 (tvgc (tvc_3 (List.mem_of_getElem? (i := 66) (by decide +kernel))) rfl) rfl rfl (fun _ _ h => h) ((tvSB_sh hb 3 (by decide)).1) (fun _ _ => rfl) (fun _ => rfl) (by decide) (by decide) (by decide) (by decide) (Nat.le_of_ble_eq_true rfl) (Nat.le_of_ble_eq_true rfl) ?_
  refine tv_mkR (r := (b + 3)) C hI dk_X2_init_9 fo_RX2_9 (show (b + 2) < (b + 4) from by omega) ((tvSB_sh hb 2 (by decide)).1) (Or.inr ⟨_, rfl⟩) ?_
  refine tv_aload_n C dk_X2_init_12 rfl ?_
  refine tv_bipush (v := 8) C dk_X2_init_13 (by decide) ?_
  refine tv_newarr (t0 := 0) (N := 8) C ⟨trivial, rfl⟩ dk_X2_init_15 (tvgc (tvc_3 (List.mem_of_getElem? (i := 66) (by decide +kernel))) rfl) rfl rfl (fun _ _ h => h) ((tvSB_sh hb 4 (by decide)).1) (fun _ _ => rfl) (fun _ => rfl) (by decide) (by decide) (by decide) (by decide) (Nat.le_of_ble_eq_true rfl) (Nat.le_of_ble_eq_true rfl) ?_
  refine tv_mkR (r := (b + 4)) C hI dk_X2_init_17 fo_RX2_15 (show (b + 2) < (b + 5) from by omega) ((tvSB_sh hb 2 (by decide)).1) (Or.inr ⟨_, rfl⟩) ?_
  refine tv_aload_n C dk_X2_init_20 rfl ?_
  refine tv_bipush (v := 8) C dk_X2_init_21 (by decide) ?_
  refine tv_newarr (t0 := 0) (N := 8) C ⟨trivial, rfl⟩ dk_X2_init_23 (tvgc (tvc_3 (List.mem_of_getElem? (i := 66) (by decide +kernel))) rfl) rfl rfl (fun _ _ h => h) ((tvSB_sh hb 5 (by decide)).1) (fun _ _ => rfl) (fun _ => rfl) (by decide) (by decide) (by decide) (by decide) (Nat.le_of_ble_eq_true rfl) (Nat.le_of_ble_eq_true rfl) ?_
  refine tv_mkR (r := (b + 5)) C hI dk_X2_init_25 fo_RX2_18 (show (b + 2) < (b + 6) from by omega) ((tvSB_sh hb 2 (by decide)).1) (Or.inr ⟨_, rfl⟩) ?_
  exact tv_vret C hQ dk_X2_init_28 rfl rfl
/-- new TideVault$Boxes -/
def i_X0_init_r (b : Nat) (ρ : tvR) : tvR := (tvRp (tvRz (tvRp (tvRz (tvRp (tvRz (tvRp (tvRz (tvRp (tvRz (tvRp (tvRz (tvRp (tvRz (tvRp (tvRz (tvRp (tvRz ρ (b + 7)) (b + 6) 1 (b + 7)) (b + 8)) (b + 6) 2 (b + 8)) (b + 9)) (b + 6) 3 (b + 9)) (b + 10)) (b + 6) 4 (b + 10)) (b + 11)) (b + 6) 5 (b + 11)) (b + 12)) (b + 6) 6 (b + 12)) (b + 13)) (b + 6) 7 (b + 13)) (b + 14)) (b + 6) 8 (b + 14)) (b + 15)) (b + 6) 9 (b + 15))
def i_X0_init_m (b : Nat) (M : tvM) : tvM := (tvMz (tvMz (tvMz (tvMz (tvMz (tvMz (tvMz (tvMz (tvMz M (b + 7)) (b + 8)) (b + 9)) (b + 10)) (b + 11)) (b + 12)) (b + 13)) (b + 14)) (b + 15))
theorem m_X0_init (G : tvG) (M : tvM) (ρ : tvR) {b : Nat} (hb : tvSB b) : tvRun G yX0_init cX0_init 1 none 2 9 130 ((b + 7), ρ, True, []) ((b + 16), i_X0_init_r b ρ, True, []) [.ref (G.2.1 + (b + 6))] M (.inl none) (i_X0_init_m b M) := by
  refine tvRun.ofI yk_X0_init rfl [some (.ref (G.2.1 + (b + 6)))] rfl (Nat.le_of_ble_eq_true rfl) ?_
  intro E hG C hI hQ; subst hG
  refine tv_aload_n C dk_X0_init_0 rfl ?_
  refine tv_obj C dk_X0_init_1 (tvgc (tvc_3 (List.mem_of_getElem? (i := 71) (by decide +kernel))) rfl) (Nat.le_of_ble_eq_true rfl) (Nat.le_of_ble_eq_true rfl) ?_
  refine tv_aload_n C dk_X0_init_4 rfl ?_
  refine tv_bipush (v := 10) C dk_X0_init_5 (by decide) ?_
  refine tv_newarr (t0 := 0) (N := 10) C ⟨trivial, rfl⟩ dk_X0_init_7 (tvgc (tvc_3 (List.mem_of_getElem? (i := 66) (by decide +kernel))) rfl) rfl rfl (fun _ _ h => h) ((tvSB_sh hb 7 (by decide)).1) (fun _ _ => rfl) (fun _ => rfl) (by decide) (by decide) (by decide) (by decide) (Nat.le_of_ble_eq_true rfl) (Nat.le_of_ble_eq_true rfl) ?_
  refine tv_mkR (r := (b + 7)) C hI dk_X0_init_9 fo_RX0_9 (show (b + 6) < (b + 8) from by omega) ((tvSB_sh hb 6 (by decide)).1) (Or.inr ⟨_, rfl⟩) ?_
  refine tv_aload_n C dk_X0_init_12 rfl ?_
  refine tv_bipush (v := 10) C dk_X0_init_13 (by decide) ?_
  refine tv_newarr (t0 := 0) (N := 10) C ⟨trivial, rfl⟩ dk_X0_init_15 (tvgc (tvc_3 (List.mem_of_getElem? (i := 66) (by decide +kernel))) rfl) rfl rfl (fun _ _ h => h) ((tvSB_sh hb 8 (by decide)).1) (fun _ _ => rfl) (fun _ => rfl) (by decide) (by decide) (by decide) (by decide) (Nat.le_of_ble_eq_true rfl) (Nat.le_of_ble_eq_true rfl) ?_
  refine tv_mkR (r := (b + 8)) C hI dk_X0_init_17 fo_RX0_15 (show (b + 6) < (b + 9) from by omega) ((tvSB_sh hb 6 (by decide)).1) (Or.inr ⟨_, rfl⟩) ?_
  refine tv_aload_n C dk_X0_init_20 rfl ?_
  refine tv_bipush (v := 10) C dk_X0_init_21 (by decide) ?_
  refine tv_newarr (t0 := 0) (N := 10) C ⟨trivial, rfl⟩ dk_X0_init_23 (tvgc (tvc_3 (List.mem_of_getElem? (i := 66) (by decide +kernel))) rfl) rfl rfl (fun _ _ h => h) ((tvSB_sh hb 9 (by decide)).1) (fun _ _ => rfl) (fun _ => rfl) (by decide) (by decide) (by decide) (by decide) (Nat.le_of_ble_eq_true rfl) (Nat.le_of_ble_eq_true rfl) ?_
  refine tv_mkR (r := (b + 9)) C hI dk_X0_init_25 fo_RX0_18 (show (b + 6) < (b + 10) from by omega) ((tvSB_sh hb 6 (by decide)).1) (Or.inr ⟨_, rfl⟩) ?_
  refine tv_aload_n C dk_X0_init_28 rfl ?_
  refine tv_bipush (v := 10) C dk_X0_init_29 (by decide) ?_
  refine tv_newarr (t0 := 1) (N := 10) C ⟨trivial, rfl⟩ dk_X0_init_31 (tvgc (tvc_3 (List.mem_of_getElem? (i := 105) (by decide +kernel))) rfl) rfl rfl (fun _ _ h => h) ((tvSB_sh hb 10 (by decide)).1) (fun _ _ => rfl) (fun _ => rfl) (by decide) (by decide) (by decide) (by decide) (Nat.le_of_ble_eq_true rfl) (Nat.le_of_ble_eq_true rfl) ?_
  refine tv_mkR (r := (b + 10)) C hI dk_X0_init_33 fo_RX0_21 (show (b + 6) < (b + 11) from by omega) ((tvSB_sh hb 6 (by decide)).1) (Or.inr ⟨_, rfl⟩) ?_
  refine tv_aload_n C dk_X0_init_36 rfl ?_
  refine tv_bipush (v := 10) C dk_X0_init_37 (by decide) ?_
  refine tv_newarr (t0 := 0) (N := 10) C ⟨trivial, rfl⟩ dk_X0_init_39 (tvgc (tvc_3 (List.mem_of_getElem? (i := 66) (by decide +kernel))) rfl) rfl rfl (fun _ _ h => h) ((tvSB_sh hb 11 (by decide)).1) (fun _ _ => rfl) (fun _ => rfl) (by decide) (by decide) (by decide) (by decide) (Nat.le_of_ble_eq_true rfl) (Nat.le_of_ble_eq_true rfl) ?_
  refine tv_mkR (r := (b + 11)) C hI dk_X0_init_41 fo_RX0_25 (show (b + 6) < (b + 12) from by omega) ((tvSB_sh hb 6 (by decide)).1) (Or.inr ⟨_, rfl⟩) ?_
  refine tv_aload_n C dk_X0_init_44 rfl ?_
  refine tv_bipush (v := 10) C dk_X0_init_45 (by decide) ?_
  refine tv_newarr (t0 := 0) (N := 10) C ⟨trivial, rfl⟩ dk_X0_init_47 (tvgc (tvc_3 (List.mem_of_getElem? (i := 66) (by decide +kernel))) rfl) rfl rfl (fun _ _ h => h) ((tvSB_sh hb 12 (by decide)).1) (fun _ _ => rfl) (fun _ => rfl) (by decide) (by decide) (by decide) (by decide) (Nat.le_of_ble_eq_true rfl) (Nat.le_of_ble_eq_true rfl) ?_
  refine tv_mkR (r := (b + 12)) C hI dk_X0_init_49 fo_RX0_28 (show (b + 6) < (b + 13) from by omega) ((tvSB_sh hb 6 (by decide)).1) (Or.inr ⟨_, rfl⟩) ?_
  refine tv_aload_n C dk_X0_init_52 rfl ?_
  refine tv_bipush (v := 10) C dk_X0_init_53 (by decide) ?_
  refine tv_newarr (t0 := 0) (N := 10) C ⟨trivial, rfl⟩ dk_X0_init_55 (tvgc (tvc_3 (List.mem_of_getElem? (i := 66) (by decide +kernel))) rfl) rfl rfl (fun _ _ h => h) ((tvSB_sh hb 13 (by decide)).1) (fun _ _ => rfl) (fun _ => rfl) (by decide) (by decide) (by decide) (by decide) (Nat.le_of_ble_eq_true rfl) (Nat.le_of_ble_eq_true rfl) ?_
  refine tv_mkR (r := (b + 13)) C hI dk_X0_init_57 fo_RX0_31 (show (b + 6) < (b + 14) from by omega) ((tvSB_sh hb 6 (by decide)).1) (Or.inr ⟨_, rfl⟩) ?_
  refine tv_aload_n C dk_X0_init_60 rfl ?_
  refine tv_bipush (v := 10) C dk_X0_init_61 (by decide) ?_
  refine tv_newarr (t0 := 0) (N := 10) C ⟨trivial, rfl⟩ dk_X0_init_63 (tvgc (tvc_3 (List.mem_of_getElem? (i := 66) (by decide +kernel))) rfl) rfl rfl (fun _ _ h => h) ((tvSB_sh hb 14 (by decide)).1) (fun _ _ => rfl) (fun _ => rfl) (by decide) (by decide) (by decide) (by decide) (Nat.le_of_ble_eq_true rfl) (Nat.le_of_ble_eq_true rfl) ?_
  refine tv_mkR (r := (b + 14)) C hI dk_X0_init_65 fo_RX0_34 (show (b + 6) < (b + 15) from by omega) ((tvSB_sh hb 6 (by decide)).1) (Or.inr ⟨_, rfl⟩) ?_
  refine tv_aload_n C dk_X0_init_68 rfl ?_
  refine tv_bipush (v := 50) C dk_X0_init_69 (by decide) ?_
  refine tv_newarr (t0 := 0) (N := 50) C ⟨trivial, rfl⟩ dk_X0_init_71 (tvgc (tvc_3 (List.mem_of_getElem? (i := 66) (by decide +kernel))) rfl) rfl rfl (fun _ _ h => h) ((tvSB_sh hb 15 (by decide)).1) (fun _ _ => rfl) (fun _ => rfl) (by decide) (by decide) (by decide) (by decide) (Nat.le_of_ble_eq_true rfl) (Nat.le_of_ble_eq_true rfl) ?_
  refine tv_mkR (r := (b + 15)) C hI dk_X0_init_73 fo_RX0_37 (show (b + 6) < (b + 16) from by omega) ((tvSB_sh hb 6 (by decide)).1) (Or.inr ⟨_, rfl⟩) ?_
  exact tv_vret C hQ dk_X0_init_76 rfl rfl
/-- new TideVault$Log -/
def i_X4_init_r (b : Nat) (ρ : tvR) : tvR := (tvRp (tvRz (tvRp (tvRz (tvRp (tvRz ρ (b + 17)) (b + 16) 2 (b + 17)) (b + 18)) (b + 16) 3 (b + 18)) (b + 19)) (b + 16) 4 (b + 19))
def i_X4_init_m (b : Nat) (M : tvM) : tvM := (tvMz (tvMz (tvMz M (b + 17)) (b + 18)) (b + 19))
theorem m_X4_init (G : tvG) (M : tvM) (ρ : tvR) {b : Nat} (hb : tvSB b) : tvRun G yX4_init cX4_init 1 none 2 3 36 ((b + 17), ρ, True, []) ((b + 20), i_X4_init_r b ρ, True, []) [.ref (G.2.1 + (b + 16))] M (.inl none) (i_X4_init_m b M) := by
  refine tvRun.ofI yk_X4_init rfl [some (.ref (G.2.1 + (b + 16)))] rfl (Nat.le_of_ble_eq_true rfl) ?_
  intro E hG C hI hQ; subst hG
  refine tv_aload_n C dk_X4_init_0 rfl ?_
  refine tv_obj C dk_X4_init_1 (tvgc (tvc_3 (List.mem_of_getElem? (i := 110) (by decide +kernel))) rfl) (Nat.le_of_ble_eq_true rfl) (Nat.le_of_ble_eq_true rfl) ?_
  refine tv_aload_n C dk_X4_init_4 rfl ?_
  refine tv_bipush (v := 12) C dk_X4_init_5 (by decide) ?_
  refine tv_newarr (t0 := 1) (N := 12) C ⟨trivial, rfl⟩ dk_X4_init_7 (tvgc (tvc_3 (List.mem_of_getElem? (i := 105) (by decide +kernel))) rfl) rfl rfl (fun _ _ h => h) ((tvSB_sh hb 17 (by decide)).1) (fun _ _ => rfl) (fun _ => rfl) (by decide) (by decide) (by decide) (by decide) (Nat.le_of_ble_eq_true rfl) (Nat.le_of_ble_eq_true rfl) ?_
  refine tv_mkR (r := (b + 17)) C hI dk_X4_init_9 fo_RX4_9 (show (b + 16) < (b + 18) from by omega) ((tvSB_sh hb 16 (by decide)).1) (Or.inr ⟨_, rfl⟩) ?_
  refine tv_aload_n C dk_X4_init_12 rfl ?_
  refine tv_bipush (v := 12) C dk_X4_init_13 (by decide) ?_
  refine tv_newarr (t0 := 0) (N := 12) C ⟨trivial, rfl⟩ dk_X4_init_15 (tvgc (tvc_3 (List.mem_of_getElem? (i := 66) (by decide +kernel))) rfl) rfl rfl (fun _ _ h => h) ((tvSB_sh hb 18 (by decide)).1) (fun _ _ => rfl) (fun _ => rfl) (by decide) (by decide) (by decide) (by decide) (Nat.le_of_ble_eq_true rfl) (Nat.le_of_ble_eq_true rfl) ?_
  refine tv_mkR (r := (b + 18)) C hI dk_X4_init_17 fo_RX4_15 (show (b + 16) < (b + 19) from by omega) ((tvSB_sh hb 16 (by decide)).1) (Or.inr ⟨_, rfl⟩) ?_
  refine tv_aload_n C dk_X4_init_20 rfl ?_
  refine tv_bipush (v := 12) C dk_X4_init_21 (by decide) ?_
  refine tv_newarr (t0 := 0) (N := 12) C ⟨trivial, rfl⟩ dk_X4_init_23 (tvgc (tvc_3 (List.mem_of_getElem? (i := 66) (by decide +kernel))) rfl) rfl rfl (fun _ _ h => h) ((tvSB_sh hb 19 (by decide)).1) (fun _ _ => rfl) (fun _ => rfl) (by decide) (by decide) (by decide) (by decide) (Nat.le_of_ble_eq_true rfl) (Nat.le_of_ble_eq_true rfl) ?_
  refine tv_mkR (r := (b + 19)) C hI dk_X4_init_25 fo_RX4_19 (show (b + 16) < (b + 20) from by omega) ((tvSB_sh hb 16 (by decide)).1) (Or.inr ⟨_, rfl⟩) ?_
  exact tv_vret C hQ dk_X4_init_28 rfl rfl
/-- new TideVault$State -/
def i_X6_init_r (b : Nat) (ρ : tvR) : tvR := (tvRp (i_X4_init_r b (tvRz (tvRp (i_X0_init_r b (tvRz (tvRp (i_X2_init_r b (tvRz (tvRp (tvRz ρ (b + 1)) b 0 (b + 1)) (b + 2))) b 1 (b + 2)) (b + 6))) b 2 (b + 6)) (b + 16))) b 3 (b + 16))
def i_X6_init_m (b : Nat) (M : tvM) : tvM := (i_X4_init_m b (tvMz (i_X0_init_m b (tvMz (i_X2_init_m b (tvMz (i_X7_init_m b (tvMz M (b + 1))) (b + 2))) (b + 6))) (b + 16)))
theorem m_X6_init (G : tvG) (M : tvM) (ρ : tvR) {b : Nat} (hb : tvSB b) : tvRun G yX6_init cX6_init 1 none 3 19 211 ((b + 1), ρ, True, []) ((b + 20), i_X6_init_r b ρ, True, []) [.ref (G.2.1 + b)] M (.inl none) (i_X6_init_m b M) := by
  refine tvRun.ofI yk_X6_init rfl [some (.ref (G.2.1 + b))] rfl (Nat.le_of_ble_eq_true rfl) ?_
  intro E hG C hI hQ; subst hG
  refine tv_aload_n C dk_X6_init_0 rfl ?_
  refine tv_obj C dk_X6_init_1 (tvgc (tvc_3 (List.mem_of_getElem? (i := 32) (by decide +kernel))) rfl) (Nat.le_of_ble_eq_true rfl) (Nat.le_of_ble_eq_true rfl) ?_
  refine tv_aload_n C dk_X6_init_4 rfl ?_
  refine tv_new C ⟨trivial, rfl⟩ dk_X6_init_5 nw_RX6_9 ((tvSB_sh hb 1 (by decide)).1) (Nat.le_of_ble_eq_true rfl) (Nat.le_of_ble_eq_true rfl) ?_
  refine tv_dup C dk_X6_init_8 rfl ?_
  refine tv_callIN C dk_X6_init_9 mn_RX6_11 yk_X7_init rfl ym_X7_init (m_X7_init _ _ _ hb) rfl rfl (Nat.le_of_ble_eq_true rfl) (Nat.le_of_ble_eq_true rfl) (Nat.le_of_ble_eq_true rfl) (Nat.le_of_ble_eq_true rfl) (Nat.le_of_ble_eq_true rfl) ?_
  refine tv_mkR (r := (b + 1)) C hI dk_X6_init_12 fo_RX6_12 (show b < (b + 2) from by omega) ((tvSB_sh hb 0 (by decide)).1) (Or.inl ⟨_, rfl⟩) ?_
  refine tv_aload_n C dk_X6_init_15 rfl ?_
  refine tv_new C ⟨trivial, rfl⟩ dk_X6_init_16 nw_RX6_18 ((tvSB_sh hb 2 (by decide)).1) (Nat.le_of_ble_eq_true rfl) (Nat.le_of_ble_eq_true rfl) ?_
  refine tv_dup C dk_X6_init_19 rfl ?_
  refine tv_callIN C dk_X6_init_20 mn_RX6_20 yk_X2_init rfl ym_X2_init (m_X2_init _ _ _ hb) rfl rfl (Nat.le_of_ble_eq_true rfl) (Nat.le_of_ble_eq_true rfl) (Nat.le_of_ble_eq_true rfl) (Nat.le_of_ble_eq_true rfl) (Nat.le_of_ble_eq_true rfl) ?_
  refine tv_mkR (r := (b + 2)) C hI dk_X6_init_23 fo_RX6_21 (show b < (b + 6) from by omega) ((tvSB_sh hb 0 (by decide)).1) (Or.inl ⟨_, rfl⟩) ?_
  refine tv_aload_n C dk_X6_init_26 rfl ?_
  refine tv_new C ⟨trivial, rfl⟩ dk_X6_init_27 nw_RX6_25 ((tvSB_sh hb 6 (by decide)).1) (Nat.le_of_ble_eq_true rfl) (Nat.le_of_ble_eq_true rfl) ?_
  refine tv_dup C dk_X6_init_30 rfl ?_
  refine tv_callIN C dk_X6_init_31 mn_RX6_27 yk_X0_init rfl ym_X0_init (m_X0_init _ _ _ hb) rfl rfl (Nat.le_of_ble_eq_true rfl) (Nat.le_of_ble_eq_true rfl) (Nat.le_of_ble_eq_true rfl) (Nat.le_of_ble_eq_true rfl) (Nat.le_of_ble_eq_true rfl) ?_
  refine tv_mkR (r := (b + 6)) C hI dk_X6_init_34 fo_RX6_28 (show b < (b + 16) from by omega) ((tvSB_sh hb 0 (by decide)).1) (Or.inl ⟨_, rfl⟩) ?_
  refine tv_aload_n C dk_X6_init_37 rfl ?_
  refine tv_new C ⟨trivial, rfl⟩ dk_X6_init_38 nw_RX6_32 ((tvSB_sh hb 16 (by decide)).1) (Nat.le_of_ble_eq_true rfl) (Nat.le_of_ble_eq_true rfl) ?_
  refine tv_dup C dk_X6_init_41 rfl ?_
  refine tv_callIN C dk_X6_init_42 mn_RX6_34 yk_X4_init rfl ym_X4_init (m_X4_init _ _ _ hb) rfl rfl (Nat.le_of_ble_eq_true rfl) (Nat.le_of_ble_eq_true rfl) (Nat.le_of_ble_eq_true rfl) (Nat.le_of_ble_eq_true rfl) (Nat.le_of_ble_eq_true rfl) ?_
  refine tv_mkR (r := (b + 16)) C hI dk_X6_init_45 fo_RX6_35 (show b < (b + 20) from by omega) ((tvSB_sh hb 0 (by decide)).1) (Or.inl ⟨_, rfl⟩) ?_
  exact tv_vret C hQ dk_X6_init_48 rfl rfl
/-- new TideVault$Program -/
def i_X5_init_r (ρ : tvR) : tvR := (tvRp (tvRz (tvRp (tvRz (tvRp (tvRz ρ 244) 243 0 244) 245) 243 4 245) 246) 243 5 246)
def i_X5_init_m (M : tvM) : tvM := (tvMz (tvMz (tvMz M 244) 245) 246)
theorem m_X5_init (G : tvG) (M : tvM) (ρ : tvR) : tvRun G yX5_init cX5_init 1 none 2 3 300 (244, ρ, True, []) (247, i_X5_init_r ρ, True, []) [.ref (G.2.1 + 243)] M (.inl none) (i_X5_init_m M) := by
  refine tvRun.ofI yk_X5_init rfl [some (.ref (G.2.1 + 243))] rfl (Nat.le_of_ble_eq_true rfl) ?_
  intro E hG C hI hQ; subst hG
  refine tv_aload_n C dk_X5_init_0 rfl ?_
  refine tv_obj C dk_X5_init_1 (tvgc (tvc_3 (List.mem_of_getElem? (i := 188) (by decide +kernel))) rfl) (Nat.le_of_ble_eq_true rfl) (Nat.le_of_ble_eq_true rfl) ?_
  refine tv_aload_n C dk_X5_init_4 rfl ?_
  refine tv_bipush (v := 60) C dk_X5_init_5 (by decide) ?_
  refine tv_newarr (t0 := 1) (N := 60) C ⟨trivial, rfl⟩ dk_X5_init_7 (tvgc (tvc_3 (List.mem_of_getElem? (i := 105) (by decide +kernel))) rfl) rfl rfl (fun _ _ h => h) (rfl) (fun _ _ => rfl) (fun _ => rfl) (by decide) (by decide) (by decide) (by decide) (Nat.le_of_ble_eq_true rfl) (Nat.le_of_ble_eq_true rfl) ?_
  refine tv_mkR (r := 244) C hI dk_X5_init_9 fo_RX5_9 (show 243 < 245 from (Nat.le_of_ble_eq_true rfl)) (rfl) (Or.inr ⟨_, rfl⟩) ?_
  refine tv_aload_n C dk_X5_init_12 rfl ?_
  refine tv_bipush (v := 60) C dk_X5_init_13 (by decide) ?_
  refine tv_newarr (t0 := 0) (N := 60) C ⟨trivial, rfl⟩ dk_X5_init_15 (tvgc (tvc_3 (List.mem_of_getElem? (i := 66) (by decide +kernel))) rfl) rfl rfl (fun _ _ h => h) (rfl) (fun _ _ => rfl) (fun _ => rfl) (by decide) (by decide) (by decide) (by decide) (Nat.le_of_ble_eq_true rfl) (Nat.le_of_ble_eq_true rfl) ?_
  refine tv_mkR (r := 245) C hI dk_X5_init_17 fo_RX5_15 (show 243 < 246 from (Nat.le_of_ble_eq_true rfl)) (rfl) (Or.inr ⟨_, rfl⟩) ?_
  refine tv_aload_n C dk_X5_init_20 rfl ?_
  refine tv_sipush (v := 180) C dk_X5_init_21 (by decide) ?_
  refine tv_newarr (t0 := 0) (N := 180) C ⟨trivial, rfl⟩ dk_X5_init_24 (tvgc (tvc_3 (List.mem_of_getElem? (i := 66) (by decide +kernel))) rfl) rfl rfl (fun _ _ h => h) (rfl) (fun _ _ => rfl) (fun _ => rfl) (by decide) (by decide) (by decide) (by decide) (Nat.le_of_ble_eq_true rfl) (Nat.le_of_ble_eq_true rfl) ?_
  refine tv_mkR (r := 246) C hI dk_X5_init_26 fo_RX5_19 (show 243 < 247 from (Nat.le_of_ble_eq_true rfl)) (rfl) (Or.inr ⟨_, rfl⟩) ?_
  exact tv_vret C hQ dk_X5_init_29 rfl rfl
/-- new TideVault$Line -/
def i_X3_init_r (ρ : tvR) : tvR := (tvRp (tvRz ρ 248) 247 0 248)
def i_X3_init_m (M : tvM) : tvM := (tvMz M 248)
theorem m_X3_init (G : tvG) (M : tvM) (ρ : tvR) : tvRun G yX3_init cX3_init 1 none 2 1 36 (248, ρ, True, []) (249, i_X3_init_r ρ, True, []) [.ref (G.2.1 + 247)] M (.inl none) (i_X3_init_m M) := by
  refine tvRun.ofI yk_X3_init rfl [some (.ref (G.2.1 + 247))] rfl (Nat.le_of_ble_eq_true rfl) ?_
  intro E hG C hI hQ; subst hG
  refine tv_aload_n C dk_X3_init_0 rfl ?_
  refine tv_obj C dk_X3_init_1 (tvgc (tvc_3 (List.mem_of_getElem? (i := 214) (by decide +kernel))) rfl) (Nat.le_of_ble_eq_true rfl) (Nat.le_of_ble_eq_true rfl) ?_
  refine tv_aload_n C dk_X3_init_4 rfl ?_
  refine tv_bipush (v := 36) C dk_X3_init_5 (by decide) ?_
  refine tv_newarr (t0 := 1) (N := 36) C ⟨trivial, rfl⟩ dk_X3_init_7 (tvgc (tvc_3 (List.mem_of_getElem? (i := 105) (by decide +kernel))) rfl) rfl rfl (fun _ _ h => h) (rfl) (fun _ _ => rfl) (fun _ => rfl) (by decide) (by decide) (by decide) (by decide) (Nat.le_of_ble_eq_true rfl) (Nat.le_of_ble_eq_true rfl) ?_
  refine tv_mkR (r := 248) C hI dk_X3_init_9 fo_RX3_11 (show 247 < 249 from (Nat.le_of_ble_eq_true rfl)) (rfl) (Or.inr ⟨_, rfl⟩) ?_
  exact tv_vret C hQ dk_X3_init_12 rfl rfl
