theorem tvgt_of {Ln i : Nat} (hL : Ln ≤ 2048) (hi : i ≤ 4096) (h : ¬ nI Ln - 4 < nI i) : i + 4 ≤ Ln := by
  by_cases q : 4 ≤ Ln
  · rw [show (4 : Int32) = nI 4 from rfl, pn_sub q, pn_lt (by omega) (by omega)] at h
    omega
  · refine absurd (pn_neg_lt (n := i) ?_ (by omega)) h
    rcases (show Ln = 0 ∨ Ln = 1 ∨ Ln = 2 ∨ Ln = 3 by omega) with rfl | rfl | rfl | rfl <;> decide
/-- the case's own road, and on to the next -/
def tvNxt (E : tvE) (b j k sl : Nat) : Prop := ∀ M' : tvM, pJ (14400 * j + 14400) M' M' → tv_W E tvP0 (k + 2) (sl + 12) M' 2545 [some (.ref b), some (.ref (E.G.2.1 + 0)), some (.ref (E.G.2.1 + 249)), some (.ref (E.G.2.1 + 257)), some (.ref (E.G.2.1 + 258)), some (.int (nI (4 * j))), none, none, none] []
theorem law_case {E : tvE} {b Ln j k sl : Nat} {xs : Nat → Int32} (C : tvC E RL cL_law 9 (some .boolean) 1000 100000 1000000 []) (hN : tvNcE E.s) (hX : tvScr E b Ln xs) (hj : j ≤ 512) (hi : 4 * j + 4 ≤ Ln) (hk : k + 2 ≤ 100000) (hs : sl + 12 ≤ 1000000) {M : tvM} (hJ : pJ (14400 * j) M M) (nx : tvNxt E b j k sl) (x : Int32) : tv_W E tvP0 k sl M 44 [some (.ref b), some (.ref (E.G.2.1 + 0)), some (.ref (E.G.2.1 + 249)), some (.ref (E.G.2.1 + 257)), some (.ref (E.G.2.1 + 258)), some (.int (nI (4 * j))), none, none, none] [.int x] := by
  by_cases h0 : x = 0
  · have p := pc_0 hJ (by omega) (xs (4 * j + 1)) (xs (4 * j + 2)) (xs (4 * j + 3))
    exact tv_sw C dk_L_law_44_0 h0 (w_law_0 C hN hX hi hk hs M p.1 (nx _ (p.2.up (by omega) (by omega))))
  by_cases h1 : x = 1
  · have p := pc_1 hJ (by omega) (xs (4 * j + 1)) (xs (4 * j + 2)) (xs (4 * j + 3))
    exact tv_sw C dk_L_law_44_1 h1 (w_law_1 C hN hX hi hk hs M p.1 (nx _ (p.2.up (by omega) (by omega))))
  by_cases h2 : x = 2
  · have p := pc_2 hJ (by omega) (xs (4 * j + 1)) (xs (4 * j + 2)) (xs (4 * j + 3))
    exact tv_sw C dk_L_law_44_2 h2 (w_law_2 C hN hX hi hk hs M p.1 (nx _ (p.2.up (by omega) (by omega))))
  by_cases h3 : x = 3
  · have p := pc_3 hJ (by omega) (xs (4 * j + 1)) (xs (4 * j + 2)) (xs (4 * j + 3))
    exact tv_sw C dk_L_law_44_3 h3 (w_law_3 C hN hX hi hk hs M p.1 (nx _ (p.2.up (by omega) (by omega))))
  by_cases h4 : x = 4
  · have p := pc_4 hJ (by omega) (xs (4 * j + 1)) (xs (4 * j + 2)) (xs (4 * j + 3))
    exact tv_sw C dk_L_law_44_4 h4 (w_law_4 C hN hX hi hk hs M p.1 (nx _ (p.2.up (by omega) (by omega))))
  by_cases h5 : x = 5
  · have p := pc_5 hJ (by omega) (xs (4 * j + 1)) (xs (4 * j + 2)) (xs (4 * j + 3))
    exact tv_sw C dk_L_law_44_5 h5 (w_law_5 C hN hX hi hk hs M p.1 (nx _ (p.2.up (by omega) (by omega))))
  by_cases h6 : x = 6
  · have p := pc_6 hJ (by omega) (xs (4 * j + 1)) (xs (4 * j + 2)) (xs (4 * j + 3))
    exact tv_sw C dk_L_law_44_6 h6 (w_law_6 C hN hX hi hk hs M p.1 (nx _ (p.2.up (by omega) (by omega))))
  by_cases h7 : x = 7
  · have p := pc_7 hJ (by omega) (xs (4 * j + 1)) (xs (4 * j + 2)) (xs (4 * j + 3))
    exact tv_sw C dk_L_law_44_7 h7 (w_law_7 C hN hX hi hk hs M p.1 (nx _ (p.2.up (by omega) (by omega))))
  by_cases h8 : x = 8
  · have p := pc_8 hJ (by omega) (xs (4 * j + 1)) (xs (4 * j + 2)) (xs (4 * j + 3))
    exact tv_sw C dk_L_law_44_8 h8 (w_law_8 C hN hX hi hk hs M p.1 (nx _ (p.2.up (by omega) (by omega))))
  by_cases h9 : x = 9
  · have p := pc_9 hJ (by omega) (xs (4 * j + 1)) (xs (4 * j + 2)) (xs (4 * j + 3))
    exact tv_sw C dk_L_law_44_9 h9 (w_law_9 C hN hX hi hk hs M p.1 (nx _ (p.2.up (by omega) (by omega))))
  by_cases h10 : x = 10
  · have p := pc_10 hJ (by omega) (xs (4 * j + 1)) (xs (4 * j + 2)) (xs (4 * j + 3))
    exact tv_sw C dk_L_law_44_10 h10 (w_law_10 C hN hX hi hk hs M p.1 (nx _ (p.2.up (by omega) (by omega))))
  by_cases h11 : x = 11
  · have p := pc_11 hJ (by omega) (xs (4 * j + 1)) (xs (4 * j + 2)) (xs (4 * j + 3))
    exact tv_sw C dk_L_law_44_11 h11 (w_law_11 C hN hX hi hk hs M p.1 (nx _ (p.2.up (by omega) (by omega))))
  by_cases h12 : x = 12
  · have p := pc_12 hJ (by omega) (xs (4 * j + 1)) (xs (4 * j + 2)) (xs (4 * j + 3))
    exact tv_sw C dk_L_law_44_12 h12 (w_law_12 C hN hX hi hk hs M p.1 (nx _ (p.2.up (by omega) (by omega))))
  by_cases h13 : x = 13
  · have p := pc_13 hJ (by omega) (xs (4 * j + 1)) (xs (4 * j + 2)) (xs (4 * j + 3))
    exact tv_sw C dk_L_law_44_13 h13 (w_law_13 C hN hX hi hk hs M p.1 (nx _ (p.2.up (by omega) (by omega))))
  by_cases h14 : x = 14
  · have p := pc_14 hJ (by omega) (xs (4 * j + 1)) (xs (4 * j + 2)) (xs (4 * j + 3))
    exact tv_sw C dk_L_law_44_14 h14 (w_law_14 C hN hX hi hk hs M p.1 (nx _ (p.2.up (by omega) (by omega))))
  by_cases h15 : x = 15
  · have p := pc_15 hJ (by omega) (xs (4 * j + 1)) (xs (4 * j + 2)) (xs (4 * j + 3))
    exact tv_sw C dk_L_law_44_15 h15 (w_law_15 C hN hX hi hk hs M p.1 (nx _ (p.2.up (by omega) (by omega))))
  by_cases h16 : x = 16
  · have p := pc_16 hJ (by omega) (xs (4 * j + 1)) (xs (4 * j + 2)) (xs (4 * j + 3))
    exact tv_sw C dk_L_law_44_16 h16 (w_law_16 C hN hX hi hk hs M p.1 (nx _ (p.2.up (by omega) (by omega))))
  by_cases h17 : x = 17
  · have p := pc_17 hJ (by omega) (xs (4 * j + 1)) (xs (4 * j + 2)) (xs (4 * j + 3))
    exact tv_sw C dk_L_law_44_17 h17 (w_law_17 C hN hX hi hk hs M p.1 (nx _ (p.2.up (by omega) (by omega))))
  by_cases h18 : x = 18
  · have p := pc_18 hJ (by omega) (xs (4 * j + 1)) (xs (4 * j + 2)) (xs (4 * j + 3))
    exact tv_sw C dk_L_law_44_18 h18 (w_law_18 C hN hX hi hk hs M p.1 (nx _ (p.2.up (by omega) (by omega))))
  by_cases h19 : x = 19
  · have p := pc_19 hJ (by omega) (xs (4 * j + 1)) (xs (4 * j + 2)) (xs (4 * j + 3))
    exact tv_sw C dk_L_law_44_19 h19 (w_law_19 C hN hX hi hk hs M p.1 (nx _ (p.2.up (by omega) (by omega))))
  by_cases h20 : x = 20
  · have p := pc_20 hJ (by omega) (xs (4 * j + 1)) (xs (4 * j + 2)) (xs (4 * j + 3))
    exact tv_sw C dk_L_law_44_20 h20 (w_law_20 C hN hX hi hk hs M p.1 (nx _ (p.2.up (by omega) (by omega))))
  by_cases h21 : x = 21
  · have p := pc_21 hJ (by omega) (xs (4 * j + 1)) (xs (4 * j + 2)) (xs (4 * j + 3))
    exact tv_sw C dk_L_law_44_21 h21 (w_law_21 C hN hX hi hk hs M p.1 (nx _ (p.2.up (by omega) (by omega))))
  by_cases h22 : x = 22
  · have p := pc_22 hJ (by omega) (xs (4 * j + 1)) (xs (4 * j + 2)) (xs (4 * j + 3))
    exact tv_sw C dk_L_law_44_22 h22 (w_law_22 C hN hX hi hk hs M p.1 (nx _ (p.2.up (by omega) (by omega))))
  by_cases h23 : x = 23
  · have p := pc_23 hJ (by omega) (xs (4 * j + 1)) (xs (4 * j + 2)) (xs (4 * j + 3))
    exact tv_sw C dk_L_law_44_23 h23 (w_law_23 C hN hX hi hk hs M p.1 (nx _ (p.2.up (by omega) (by omega))))
  by_cases h24 : x = 24
  · have p := pc_24 hJ (by omega) (xs (4 * j + 1)) (xs (4 * j + 2)) (xs (4 * j + 3))
    exact tv_sw C dk_L_law_44_24 h24 (w_law_24 C hN hX hi hk hs M p.1 (nx _ (p.2.up (by omega) (by omega))))
  by_cases h25 : x = 25
  · have p := pc_25 hJ (by omega) (xs (4 * j + 1)) (xs (4 * j + 2)) (xs (4 * j + 3))
    exact tv_sw C dk_L_law_44_25 h25 (w_law_25 C hN hX hi hk hs M p.1 (nx _ (p.2.up (by omega) (by omega))))
  by_cases h26 : x = 26
  · have p := pc_26 hJ (by omega) (xs (4 * j + 1)) (xs (4 * j + 2)) (xs (4 * j + 3))
    exact tv_sw C dk_L_law_44_26 h26 (w_law_26 C hN hX hi hk hs M p.1 (nx _ (p.2.up (by omega) (by omega))))
  by_cases h27 : x = 27
  · have p := pc_27 hJ (by omega) (xs (4 * j + 1)) (xs (4 * j + 2)) (xs (4 * j + 3))
    exact tv_sw C dk_L_law_44_27 h27 (w_law_27 C hN hX hi hk hs M p.1 (nx _ (p.2.up (by omega) (by omega))))
  by_cases h28 : x = 28
  · have p := pc_28 hJ (by omega) (xs (4 * j + 1)) (xs (4 * j + 2)) (xs (4 * j + 3))
    exact tv_sw C dk_L_law_44_28 h28 (w_law_28 C hN hX hi hk hs M p.1 (nx _ (p.2.up (by omega) (by omega))))
  by_cases h29 : x = 29
  · have p := pc_29 hJ (by omega) (xs (4 * j + 1)) (xs (4 * j + 2)) (xs (4 * j + 3))
    exact tv_sw C dk_L_law_44_29 h29 (w_law_29 C hN hX hi hk hs M p.1 (nx _ (p.2.up (by omega) (by omega))))
  by_cases h30 : x = 30
  · have p := pc_30 hJ (by omega) (xs (4 * j + 1)) (xs (4 * j + 2)) (xs (4 * j + 3))
    exact tv_sw C dk_L_law_44_30 h30 (w_law_30 C hN hX hi hk hs M p.1 (nx _ (p.2.up (by omega) (by omega))))
  by_cases h31 : x = 31
  · have p := pc_31 hJ (by omega) (xs (4 * j + 1)) (xs (4 * j + 2)) (xs (4 * j + 3))
    exact tv_sw C dk_L_law_44_31 h31 (w_law_31 C hN hX hi hk hs M p.1 (nx _ (p.2.up (by omega) (by omega))))
  by_cases h32 : x = 32
  · have p := pc_32 hJ (by omega) (xs (4 * j + 1)) (xs (4 * j + 2)) (xs (4 * j + 3))
    exact tv_sw C dk_L_law_44_32 h32 (w_law_32 C hN hX hi hk hs M p.1 (nx _ (p.2.up (by omega) (by omega))))
  by_cases h33 : x = 33
  · have p := pc_33 hJ (by omega) (xs (4 * j + 1)) (xs (4 * j + 2)) (xs (4 * j + 3))
    exact tv_sw C dk_L_law_44_33 h33 (w_law_33 C hN hX hi hk hs M p.1 (nx _ (p.2.up (by omega) (by omega))))
  by_cases h34 : x = 34
  · have p := pc_34 hJ (by omega) (xs (4 * j + 1)) (xs (4 * j + 2)) (xs (4 * j + 3))
    exact tv_sw C dk_L_law_44_34 h34 (w_law_34 C hN hX hi hk hs M p.1 (nx _ (p.2.up (by omega) (by omega))))
  by_cases h35 : x = 35
  · have p := pc_35 hJ (by omega) (xs (4 * j + 1)) (xs (4 * j + 2)) (xs (4 * j + 3))
    exact tv_sw C dk_L_law_44_35 h35 (w_law_35 C hN hX hi hk hs M p.1 (nx _ (p.2.up (by omega) (by omega))))
  by_cases h36 : x = 36
  · have p := pc_36 hJ (by omega) (xs (4 * j + 1)) (xs (4 * j + 2)) (xs (4 * j + 3))
    exact tv_sw C dk_L_law_44_36 h36 (w_law_36 C hN hX hi hk hs M p.1 (nx _ (p.2.up (by omega) (by omega))))
  by_cases h37 : x = 37
  · have p := pc_37 hJ (by omega) (xs (4 * j + 1)) (xs (4 * j + 2)) (xs (4 * j + 3))
    exact tv_sw C dk_L_law_44_37 h37 (w_law_37 C hN hX hi hk hs M p.1 (nx _ (p.2.up (by omega) (by omega))))
  by_cases h38 : x = 38
  · have p := pc_38 hJ (by omega) (xs (4 * j + 1)) (xs (4 * j + 2)) (xs (4 * j + 3))
    exact tv_sw C dk_L_law_44_38 h38 (w_law_38 C hN hX hi hk hs M p.1 (nx _ (p.2.up (by omega) (by omega))))
  by_cases h39 : x = 39
  · have p := pc_39 hJ (by omega) (xs (4 * j + 1)) (xs (4 * j + 2)) (xs (4 * j + 3))
    exact tv_sw C dk_L_law_44_39 h39 (w_law_39 C hN hX hi hk hs M p.1 (nx _ (p.2.up (by omega) (by omega))))
  by_cases h40 : x = 40
  · have p := pc_40 hJ (by omega) (xs (4 * j + 1)) (xs (4 * j + 2)) (xs (4 * j + 3))
    exact tv_sw C dk_L_law_44_40 h40 (w_law_40 C hN hX hi hk hs M p.1 (nx _ (p.2.up (by omega) (by omega))))
  by_cases h41 : x = 41
  · have p := pc_41 hJ (by omega) (xs (4 * j + 1)) (xs (4 * j + 2)) (xs (4 * j + 3))
    exact tv_sw C dk_L_law_44_41 h41 (w_law_41 C hN hX hi hk hs M p.1 (nx _ p.2))
  by_cases h42 : x = 42
  · have p := pc_42 hJ (by omega) (xs (4 * j + 1)) (xs (4 * j + 2)) (xs (4 * j + 3))
    exact tv_sw C dk_L_law_44_42 h42 (w_law_42 C hN hX hi hk hs M p.1 (nx _ (p.2.up (by omega) (by omega))))
  by_cases h43 : x = 43
  · have p := pc_43 hJ (by omega) (xs (4 * j + 1)) (xs (4 * j + 2)) (xs (4 * j + 3))
    exact tv_sw C dk_L_law_44_43 h43 (w_law_43 C hN hX hi hk hs M p.1 (nx _ (p.2.up (by omega) (by omega))))
  by_cases h44 : x = 44
  · have p := pc_44 hJ (by omega) (xs (4 * j + 1)) (xs (4 * j + 2)) (xs (4 * j + 3))
    exact tv_sw C dk_L_law_44_44 h44 (w_law_44 C hN hX hi hk hs M p.1 (nx _ (p.2.up (by omega) (by omega))))
  by_cases h45 : x = 45
  · have p := pc_45 hJ (by omega) (xs (4 * j + 1)) (xs (4 * j + 2)) (xs (4 * j + 3))
    exact tv_sw C dk_L_law_44_45 h45 (w_law_45 C hN hX hi hk hs M p.1 (nx _ (p.2.up (by omega) (by omega))))
  by_cases h46 : x = 46
  · have p := pc_46 hJ (by omega) (xs (4 * j + 1)) (xs (4 * j + 2)) (xs (4 * j + 3))
    exact tv_sw C dk_L_law_44_46 h46 (w_law_46 C hN hX hi hk hs M p.1 (nx _ (p.2.up (by omega) (by omega))))
  by_cases h47 : x = 47
  · have p := pc_47 hJ (by omega) (xs (4 * j + 1)) (xs (4 * j + 2)) (xs (4 * j + 3))
    exact tv_sw C dk_L_law_44_47 h47 (w_law_47 C hN hX hi hk hs M p.1 (nx _ (p.2.up (by omega) (by omega))))
  refine tv_swd C (dk_L_law_44_d h0 h1 h2 h3 h4 h5 h6 h7 h8 h9 h10 h11 h12 h13 h14 h15 h16 h17 h18 h19 h20 h21 h22 h23 h24 h25 h26 h27 h28 h29 h30 h31 h32 h33 h34 h35 h36 h37 h38 h39 h40 h41 h42 h43 h44 h45 h46 h47) ?_
  exact tv_widen (Nat.le_add_right _ _) (Nat.le_add_right _ _) (nx M (hJ.up (by omega) (by omega)))
