theorem law_loop {E : tvE} {b Ln : Nat} {xs : Nat → Int32} (C : tvC E RL cL_law 9 (some .boolean) 1000 100000 1000000 []) (hN : tvNcE E.s) (hX : tvScr E b Ln xs) (hend : ∀ (k sl : Nat) (M : tvM) (L : List (Option Value)), k ≤ 100000 → sl ≤ 1000000 → tv_W E tvP0 k sl M 2552 L [.int 1]) : ∀ (n j k sl : Nat) (M : tvM), Ln < 4 * (j + n) → 4 * j ≤ Ln → k ≤ 259 + 2 * j → sl ≤ 5500 + 12 * j → pJ (14400 * j) M M → tv_W E tvP0 k sl M 28 [some (.ref b), some (.ref (E.G.2.1 + 0)), some (.ref (E.G.2.1 + 249)), some (.ref (E.G.2.1 + 257)), some (.ref (E.G.2.1 + 258)), some (.int (nI (4 * j))), none, none, none] [] := by
  have hL := hX.2.2.2
  intro n
  induction n with
  | zero =>
    intro j k sl M h1 h2
    exact absurd h1 (by omega)
  | succ n ih =>
    intro j k sl M h1 h2 hk hs hJ
    refine tv_iload C dk_L_law_28 rfl ?_
    refine tv_aload_n C dk_L_law_30 rfl ?_
    refine tv_slen C hX dk_L_law_31 ?_
    refine tv_iconst (v := 4) C dk_L_law_32 (by decide) ?_
    refine tv_isub C dk_L_law_33 ?_
    refine tv_icmp_gt C dk_L_law_34 (fun _ => ?_) (fun h => ?_)
    · refine tv_iconst (v := 1) C dk_L_law_2551 (by decide) ?_
      exact hend _ _ _ _ (by omega) (by omega)
    · have hi : 4 * j + 4 ≤ Ln := tvgt_of hL (by omega) h
      refine tv_aload_n C dk_L_law_37 rfl ?_
      refine tv_iload C dk_L_law_38 rfl ?_
      refine tv_sld (j := 4 * j) (tvl_0 hi hL) C hX dk_L_law_40 (tvli_0 hi hL) ?_
      refine tv_bipush (v := 63) C dk_L_law_41 (by decide) ?_
      refine tv_iand C dk_L_law_43 ?_
      refine law_case C hN hX (by omega) hi (by omega) (by omega) hJ ?_ _
      intro M' hJ'
      refine tv_iinc (v := nI (4 * (j + 1))) (L' := [some (.ref b), some (.ref (E.G.2.1 + 0)), some (.ref (E.G.2.1 + 249)), some (.ref (E.G.2.1 + 257)), some (.ref (E.G.2.1 + 258)), some (.int (nI (4 * (j + 1)))), none, none, none]) (hn := by decide) (hlt := (Nat.le_of_ble_eq_true rfl)) (hno := rfl) C dk_L_law_2545 rfl ?_ rfl ?_
      · show nI (4 * j) + nI 4 = nI (4 * (j + 1))
        rw [nI_add]
        exact congrArg nI (by omega)
      · refine tv_goto C dk_L_law_2548 ?_
        refine ih (j + 1) (k + 2) (sl + 12) M' (by omega) hi (by omega) (by omega) ?_
        rw [show 14400 * (j + 1) = 14400 * j + 14400 by omega]
        exact hJ'

theorem law_make {E : tvE} {b Ln : Nat} {xs : Nat → Int32} (C : tvC E RL cL_law 9 (some .boolean) 1000 100000 1000000 []) (hN : tvNcE E.s) (hX : tvScr E b Ln xs) (hend : ∀ (k sl : Nat) (M : tvM) (L : List (Option Value)), k ≤ 100000 → sl ≤ 1000000 → tv_W E tvP0 k sl M 2552 L [.int 1]) : tv_W E (0, (fun _ _ => none), True) 0 0 tvZ 0 [some (.ref b), none, none, none, none, none, none, none, none] [] := by
  refine tv_new C trivial dk_L_law_0 nw_RL_8 rfl (Nat.le_of_ble_eq_true rfl) (Nat.le_of_ble_eq_true rfl) ?_
  refine tv_dup C dk_L_law_3 rfl ?_
  refine tv_callI C dk_L_law_4 ml_RL_142 yk_X8_init rfl ym_X8_init (m_X8_init _ _ _) rfl rfl (Nat.le_of_ble_eq_true rfl) (Nat.le_of_ble_eq_true rfl) (Nat.le_of_ble_eq_true rfl) (Nat.le_of_ble_eq_true rfl) (Nat.le_of_ble_eq_true rfl) ?_
  refine tv_astore_n (L' := [_, _, _, _, _, _, _, _, _]) (hn := by decide) (hlt := (Nat.le_of_ble_eq_true rfl)) (hno := rfl) C dk_L_law_7 rfl ?_
  refine tv_new C trivial dk_L_law_8 nw_RL_143 rfl (Nat.le_of_ble_eq_true rfl) (Nat.le_of_ble_eq_true rfl) ?_
  refine tv_dup C dk_L_law_11 rfl ?_
  refine tv_callI C dk_L_law_12 ml_RL_145 yk_X9_init rfl ym_X9_init (m_X9_init _ _ _) rfl rfl (Nat.le_of_ble_eq_true rfl) (Nat.le_of_ble_eq_true rfl) (Nat.le_of_ble_eq_true rfl) (Nat.le_of_ble_eq_true rfl) (Nat.le_of_ble_eq_true rfl) ?_
  refine tv_astore_n (L' := [_, _, _, _, _, _, _, _, _]) (hn := by decide) (hlt := (Nat.le_of_ble_eq_true rfl)) (hno := rfl) C dk_L_law_15 rfl ?_
  refine tv_iconst (v := 1) C dk_L_law_16 (by decide) ?_
  refine tv_newarr (t0 := 2) (N := 1) C trivial dk_L_law_17 ac_L_long rfl rfl (fun _ _ h => h) rfl (fun _ _ => rfl) (fun _ => rfl) (by decide) (by decide) (by decide) (Nat.le_of_ble_eq_true rfl) (Nat.le_of_ble_eq_true rfl) ?_
  refine tv_astore_n (L' := [_, _, _, _, _, _, _, _, _]) (hn := by decide) (hlt := (Nat.le_of_ble_eq_true rfl)) (hno := rfl) C dk_L_law_19 rfl ?_
  refine tv_iconst (v := 1) C dk_L_law_20 (by decide) ?_
  refine tv_newarr (t0 := 3) (N := 1) C trivial dk_L_law_21 ac_L_double rfl rfl (fun _ _ h => h) rfl (fun _ _ => rfl) (fun _ => rfl) (by decide) (by decide) (by decide) (Nat.le_of_ble_eq_true rfl) (Nat.le_of_ble_eq_true rfl) ?_
  refine tv_astore (L' := [_, _, _, _, _, _, _, _, _]) (hn := by decide) (hlt := (Nat.le_of_ble_eq_true rfl)) (hno := rfl) C dk_L_law_23 rfl ?_
  refine tv_iconst (v := nI (4 * 0)) C dk_L_law_25 (by decide) ?_
  refine tv_istore (L' := [_, _, _, _, _, _, _, _, _]) (hn := by decide) (hlt := (Nat.le_of_ble_eq_true rfl)) (hno := rfl) C dk_L_law_26 rfl ?_
  intro H locs ls hP hS hL
  have h2048 := hX.2.2.2
  have hP1 : tvP E.G (259, tvR1, True) tvM1 H := hP
  refine law_loop C hN hX hend 513 0 _ _ tvM1 ?_ ?_ ?_ ?_ pJ_0 H locs ls (tvP_go hP1) hS hL
  · omega
  · omega
  · exact (Nat.le_of_ble_eq_true rfl)
  · exact (Nat.le_of_ble_eq_true rfl)

theorem whole_start {p : Program} {e : Env} {s : State} {m : MethodId} {below : List Frame} {meth : Method} {c : Code} (l : Launch) (hflags : l.flags = flags0) {b L : Nat} {xs : Nat → Int32} (hL : L ≤ 2048) (C0 : lw_At p s m meth c b L xs) : W p l e room_1 s m #[Value.ref b] below meth c s.heap [] 0 0 (lw_Z below #[Value.ref b] s) (entryFrame m ([Value.ref b] : List Value).toArray 9) := by
  obtain ⟨hx, hb, hr, hml, hown, hts, hX, hbl, hlocks, hgv, htb⟩ := id C0
  have hf : ∀ w ∈ tvFC, w.before #[Value.ref b] s = true := flat_of_before _ hgv
  have hst : l.stackTraces = false := by
    unfold Launch.stackTraces
    rw [hflags]
    decide
  obtain ⟨G, g1, g2, hK⟩ := tvK_start l hst hts hf
  subst g1
  refine tv_roomy (R' := tvRm 1000 100000 1000000) (Nat.le_of_ble_eq_true rfl) (Nat.le_of_ble_eq_true rfl) (Nat.le_of_ble_eq_true rfl) (Nat.le_of_ble_eq_true rfl) ?_
  obtain ⟨E, hE⟩ : ∃ E : tvE, E = ((p, e, tvRm 1000 100000 1000000, s, m, #[Value.ref b], below, meth, c), G, lw_Z below #[Value.ref b] s) := ⟨_, rfl⟩
  have C : tvC E RL cL_law 9 (some .boolean) 1000 100000 1000000 [] := by
    rw [hE]
    exact ⟨hx, hb, hml, hown, tvGW_of hts, hK, rfl, hlocks, hr, htb⟩
  have hN : tvNcE E.s := by
    rw [hE]
    exact tvNcE_of hf
  have hXE : tvScr E b L xs := by
    rw [hE]
    exact ⟨hX, hbl, fun q => absurd (show G.2.1 ≤ b from q) (by rw [g2]; omega), hL⟩
  have hend : ∀ (k sl : Nat) (M : tvM) (L : List (Option Value)), k ≤ 100000 → sl ≤ 1000000 → tv_W E tvP0 k sl M 2552 L [.int 1] := by
    rw [hE]
    intro k sl M L hk hs H locs ls hP hS hLs
    refine va_forget (fun q hq => ?_) ?_
    · have h1 : G.2.1 ≤ q.base := hS.2.2 q hq
      rw [g2] at h1
      exact h1
    · refine W.widen (Nat.le_trans hk (show (100000 : Nat) ≤ room_1.cells from Nat.le_of_ble_eq_true rfl)) (Nat.le_trans hs (show (1000000 : Nat) ≤ room_1.slots from Nat.le_of_ble_eq_true rfl)) ?_
      refine W.base ?_
      exact lw_retR (Drawn.sameBut.refl s.drawn lw_cs) hx hb hr hlocks dk_L_law_2552.1
  have key := law_make C hN hXE hend
  rw [hE] at key
  have hl := lv_entry ([.ref b]) (n := 9) (Nat.le_of_ble_eq_true rfl)
  rw [lg_entry_eq]
  refine key s.heap [] _ ⟨fun k q h => absurd h (by simp [tvWs]), fun _ => ?_⟩ va_S.rf ?_
  · show s.heap.size = G.2.1 + 0
    omega
  · show lv_has _ c.maxLocals (tvEl 0 [some (.ref b), none, none, none, none, none, none, none, none])
    rw [show tvEl 0 [some (.ref b), none, none, none, none, none, none, none, none] = lv_args 0 [.ref b] from rfl, hml]
    exact hl

