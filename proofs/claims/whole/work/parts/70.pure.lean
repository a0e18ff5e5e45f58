section
variable {n : Nat} {T : Nat → Nat} {M0 N0 M N : tvM} {p m : Nat}
theorem rd_code (hT : pTx n T M0 N0) (h : pRd n M0 N0 M N p m m 9 0) (hm : m + 1 ≤ 30) (hp : p < n) (hc : T p = 99) (h2 : p + 1 < n) (h3 : T (p + 1) = 111) : pCr2 n M0 N0 M N p m := by
  obtain ⟨ef, qf⟩ := rd_first hT h hm hp (by rw [hc]; unfold f_X9_isFirst; decide)
  rw [hc] at ef qf
  obtain ⟨b1, b2, b3, b4, b5⟩ := pN1_f N p m 99
  obtain ⟨c1, c3, c5⟩ := pN2_f N p m 99
  obtain ⟨qs0, u1, u0⟩ := rd_sign hT (rd_e0 h hp 99) (c := 111) (by omega) (by omega)
  have t0 : f_X9_isSign (pN1 N p m 99) 111 = (1, tpi (pN1 N p m 99) 249 16 (nI (p + 2))) := (u1 (by omega)).2
  clear u1 u0
  obtain ⟨w1, w2, b, M', N', p', w3, w4, w5⟩ := rd_go (N2 := (tpi (pN1 N p m 99) 249 16 (nI (p + 2)))) (v := 4) (a := 2) hT h hm (by omega) wd_22 (by decide) (by rw [show pWl 4 = 99 :: 111 :: [100, 101, 32] from rfl, pcp_ye hp hc, pcp_ye (by omega) (by omega)]; show 1 + (1 + pcp n T _ (p + 2)) = _; omega) (pWl_all _ (fun _ => by rw [show pWl 0 = 104 :: [111, 108, 100, 101, 114, 32] from rfl, pcp_no (by omega)]; decide) (fun _ => by rw [show pWl 1 = 98 :: [111, 120, 32] from rfl, pcp_no (by omega)]; decide) (fun _ => by rw [show pWl 2 = 116 :: [105, 100, 101, 32] from rfl, pcp_no (by omega)]; decide) (fun _ => by rw [show pWl 3 = 116 :: [117, 114, 110, 32] from rfl, pcp_no (by omega)]; decide) (fun e => absurd rfl e) (fun _ => by rw [show pWl 5 = 112 :: [117, 116, 32] from rfl, pcp_no (by omega)]; decide) (fun _ => by rw [show pWl 6 = 116 :: [97, 107, 101, 32] from rfl, pcp_no (by omega)]; decide) (fun _ => by rw [show pWl 7 = 99 :: 108 :: [111, 115, 101, 32] from rfl, pcp_ye hp hc, pcp_n (by omega)]; exact ⟨by show _ < 6; omega, by omega⟩) (fun _ => by rw [show pWl 8 = 119 :: [97, 105, 116] from rfl, pcp_no (by omega)]; decide)) (by omega) c1 (tpi_s _ _ _ _) c3 b4 c5
  have eR : f_X9_readsRest (pN1 N p m 99) (nI 99) (nI (4 * m)) = (b, N') := by
    rw [← w4]
    unfold f_X9_readsRest
    rw [if_neg (show ¬ nI 99 = 98 by decide), if_pos (show nI 99 = 99 from rfl)]
    show f_X9_readsC (pN1 N p m 99) (nI (4 * m)) = _
    unfold f_X9_readsC
    rw [t0]
    dsimp only
    rw [if_neg p10]
    rw [show pFo 4 = [100, 32, 110, 62, 110] from rfl, ← pF14]
    rfl
  have hq : q_X9_readsC (pN1 N p m 99) (nI (4 * m)) := by
    unfold q_X9_readsC
    rw [t0]
    dsimp only
    rw [pn_c (show 4 * m < 2147483648 by omega)]
    exact ⟨qs0, fun e => absurd e p10, fun _ => ⟨w1, fun _ => trivial, fun z => ⟨(pQ14 _ _ (w2 z)).1, fun _ => trivial, fun y => ⟨((pQ14 _ _ (w2 z)).2 y).1, fun _ => trivial, fun u => ⟨((pQ14 _ _ (w2 z)).2 y).2 u, fun _ => trivial, fun _ => trivial⟩⟩⟩⟩⟩
  exact ⟨qf ⟨fun e => absurd e (by decide), fun _ => ⟨fun _ => ⟨hq, trivial⟩, fun e => absurd rfl e⟩⟩, b, M', N', p', w3, ef.trans eR, w5.imp id fun z => ⟨z.1, z.2.1, by have := z.2.2; omega⟩⟩
theorem rd_close (hT : pTx n T M0 N0) (h : pRd n M0 N0 M N p m m 9 0) (hm : m + 1 ≤ 30) (hp : p < n) (hc : T p = 99) (h2 : ¬ (p + 1 < n ∧ T (p + 1) = 111)) : pCr2 n M0 N0 M N p m := by
  obtain ⟨ef, qf⟩ := rd_first hT h hm hp (by rw [hc]; unfold f_X9_isFirst; decide)
  rw [hc] at ef qf
  obtain ⟨b1, b2, b3, b4, b5⟩ := pN1_f N p m 99
  obtain ⟨c1, c3, c5⟩ := pN2_f N p m 99
  obtain ⟨qs0, u1, u0⟩ := rd_sign hT (rd_e0 h hp 99) (c := 111) (by omega) (by omega)
  have t0 : f_X9_isSign (pN1 N p m 99) 111 = (0, pN1 N p m 99) := (u0 (by omega)).2
  clear u1 u0
  obtain ⟨d1, d2, d3, d5⟩ := pN3_f (c := 108) b1 (p' := p + 1) b2 b3
  obtain ⟨w1, w2, b, M', N', p', w3, w4, w5⟩ := rd_go (N2 := (tpi (pN1 N p m 99) 256 (4 * m) (nI 108))) (v := 7) (a := 1) hT h hm (by omega) wd_24 (by decide) (pcp_ye hp hc) (pWl_all _ (fun _ => by rw [show pWl 0 = 104 :: [111, 108, 100, 101, 114, 32] from rfl, pcp_no (by omega)]; decide) (fun _ => by rw [show pWl 1 = 98 :: [111, 120, 32] from rfl, pcp_no (by omega)]; decide) (fun _ => by rw [show pWl 2 = 116 :: [105, 100, 101, 32] from rfl, pcp_no (by omega)]; decide) (fun _ => by rw [show pWl 3 = 116 :: [117, 114, 110, 32] from rfl, pcp_no (by omega)]; decide) (fun _ => by rw [show pWl 4 = 99 :: 111 :: [100, 101, 32] from rfl, pcp_ye hp hc, pcp_n (by omega)]; exact ⟨by show _ < 5; omega, by omega⟩) (fun _ => by rw [show pWl 5 = 112 :: [117, 116, 32] from rfl, pcp_no (by omega)]; decide) (fun _ => by rw [show pWl 6 = 116 :: [97, 107, 101, 32] from rfl, pcp_no (by omega)]; decide) (fun e => absurd rfl e) (fun _ => by rw [show pWl 8 = 119 :: [97, 105, 116] from rfl, pcp_no (by omega)]; decide)) (by omega) d1 d2 d3 b4 d5
  have eR : f_X9_readsRest (pN1 N p m 99) (nI 99) (nI (4 * m)) = (b, N') := by
    rw [← w4]
    unfold f_X9_readsRest
    rw [if_neg (show ¬ nI 99 = 98 by decide), if_pos (show nI 99 = 99 from rfl)]
    show f_X9_readsC (pN1 N p m 99) (nI (4 * m)) = _
    unfold f_X9_readsC
    rw [t0]
    dsimp only
    rw [if_pos rfl]
    rw [pn_c (show 4 * m < 2147483648 by omega), show pFo 7 = [100] from rfl, ← pF16]
    rfl
  have hq : q_X9_readsC (pN1 N p m 99) (nI (4 * m)) := by
    unfold q_X9_readsC
    rw [t0]
    dsimp only
    rw [pn_c (show 4 * m < 2147483648 by omega)]
    exact ⟨qs0, fun _ => ⟨vp_in_nI (by omega) (by omega), w1, fun _ => trivial, fun z => ⟨pQ16 _ _ (w2 z), fun _ => trivial, fun _ => trivial⟩⟩, fun e => absurd rfl e⟩
  exact ⟨qf ⟨fun e => absurd e (by decide), fun _ => ⟨fun _ => ⟨hq, trivial⟩, fun e => absurd rfl e⟩⟩, b, M', N', p', w3, ef.trans eR, w5⟩
theorem rd_turn (hT : pTx n T M0 N0) (h : pRd n M0 N0 M N p m m 9 0) (hm : m + 1 ≤ 30) (hp : p < n) (hc : T p = 116) (h2 : p + 1 < n) (h3 : T (p + 1) = 117) : pCr2 n M0 N0 M N p m := by
  obtain ⟨ef, qf⟩ := rd_first hT h hm hp (by rw [hc]; unfold f_X9_isFirst; decide)
  rw [hc] at ef qf
  obtain ⟨b1, b2, b3, b4, b5⟩ := pN1_f N p m 116
  obtain ⟨c1, c3, c5⟩ := pN2_f N p m 116
  obtain ⟨qs0, u1, u0⟩ := rd_sign hT (rd_e0 h hp 116) (c := 117) (by omega) (by omega)
  have t0 : f_X9_isSign (pN1 N p m 116) 117 = (1, tpi (pN1 N p m 116) 249 16 (nI (p + 2))) := (u1 (by omega)).2
  clear u1 u0
  obtain ⟨w1, w2, b, M', N', p', w3, w4, w5⟩ := rd_go (N2 := (tpi (pN1 N p m 116) 249 16 (nI (p + 2)))) (v := 3) (a := 2) hT h hm (by omega) wd_21 (by decide) (by rw [show pWl 3 = 116 :: 117 :: [114, 110, 32] from rfl, pcp_ye hp hc, pcp_ye (by omega) (by omega)]; show 1 + (1 + pcp n T _ (p + 2)) = _; omega) (pWl_all _ (fun _ => by rw [show pWl 0 = 104 :: [111, 108, 100, 101, 114, 32] from rfl, pcp_no (by omega)]; decide) (fun _ => by rw [show pWl 1 = 98 :: [111, 120, 32] from rfl, pcp_no (by omega)]; decide) (fun _ => by rw [show pWl 2 = 116 :: 105 :: [100, 101, 32] from rfl, pcp_ye hp hc, pcp_n (by omega)]; exact ⟨by show _ < 5; omega, by omega⟩) (fun e => absurd rfl e) (fun _ => by rw [show pWl 4 = 99 :: [111, 100, 101, 32] from rfl, pcp_no (by omega)]; decide) (fun _ => by rw [show pWl 5 = 112 :: [117, 116, 32] from rfl, pcp_no (by omega)]; decide) (fun _ => by rw [show pWl 6 = 116 :: 97 :: [107, 101, 32] from rfl, pcp_ye hp hc, pcp_n (by omega)]; exact ⟨by show _ < 5; omega, by omega⟩) (fun _ => by rw [show pWl 7 = 99 :: [108, 111, 115, 101, 32] from rfl, pcp_no (by omega)]; decide) (fun _ => by rw [show pWl 8 = 119 :: [97, 105, 116] from rfl, pcp_no (by omega)]; decide)) (by omega) c1 (tpi_s _ _ _ _) c3 b4 c5
  have eR : f_X9_readsRest (pN1 N p m 116) (nI 116) (nI (4 * m)) = (b, N') := by
    rw [← w4]
    unfold f_X9_readsRest
    rw [if_neg (show ¬ nI 116 = 98 by decide), if_neg (show ¬ nI 116 = 99 by decide), if_neg (show ¬ nI 116 = 104 by decide), if_neg (show ¬ nI 116 = 112 by decide), if_pos (show nI 116 = 116 from rfl)]
    show f_X9_readsT (pN1 N p m 116) (nI (4 * m)) = _
    unfold f_X9_readsT
    rw [t0]
    dsimp only
    rw [if_neg p10]
    rw [show pFo 3 = [100, 32, 100, 61, 110] from rfl, ← pF13]
    rfl
  have hq : q_X9_readsT (pN1 N p m 116) (nI (4 * m)) := by
    unfold q_X9_readsT
    rw [t0]
    dsimp only
    rw [pn_c (show 4 * m < 2147483648 by omega)]
    exact ⟨qs0, fun e => absurd e p10, fun _ => ⟨w1, fun _ => trivial, fun z => ⟨(pQ13 _ _ (w2 z)).1, fun _ => trivial, fun y => ⟨((pQ13 _ _ (w2 z)).2 y).1, fun _ => trivial, fun u => ⟨((pQ13 _ _ (w2 z)).2 y).2 u, fun _ => trivial, fun _ => trivial⟩⟩⟩⟩⟩
  exact ⟨qf ⟨fun e => absurd e (by decide), fun _ => ⟨fun e => absurd e (by decide), fun _ => ⟨fun e => absurd e (by decide), fun _ => ⟨fun e => absurd e (by decide), fun _ => ⟨fun _ => ⟨hq, trivial⟩, fun e => absurd rfl e⟩⟩⟩⟩⟩, b, M', N', p', w3, ef.trans eR, w5.imp id fun z => ⟨z.1, z.2.1, by have := z.2.2; omega⟩⟩
theorem rd_tide (hT : pTx n T M0 N0) (h : pRd n M0 N0 M N p m m 9 0) (hm : m + 1 ≤ 30) (hp : p < n) (hc : T p = 116) (h2 : p + 1 < n) (h3 : T (p + 1) = 105) : pCr2 n M0 N0 M N p m := by
  obtain ⟨ef, qf⟩ := rd_first hT h hm hp (by rw [hc]; unfold f_X9_isFirst; decide)
  rw [hc] at ef qf
  obtain ⟨b1, b2, b3, b4, b5⟩ := pN1_f N p m 116
  obtain ⟨c1, c3, c5⟩ := pN2_f N p m 116
  obtain ⟨qs0, u1, u0⟩ := rd_sign hT (rd_e0 h hp 116) (c := 117) (by omega) (by omega)
  have t0 : f_X9_isSign (pN1 N p m 116) 117 = (0, pN1 N p m 116) := (u0 (by omega)).2
  clear u1 u0
  obtain ⟨qs1, u1, u0⟩ := rd_sign hT (rd_e0 h hp 116) (c := 105) (by omega) (by omega)
  have t1 : f_X9_isSign (pN1 N p m 116) 105 = (1, tpi (pN1 N p m 116) 249 16 (nI (p + 2))) := (u1 (by omega)).2
  clear u1 u0
  obtain ⟨d1, d2, d3, d5⟩ := pN3_f (c := 105) c1 (p' := p + 2) (tpi_s _ _ _ _) c3
  obtain ⟨w1, w2, b, M', N', p', w3, w4, w5⟩ := rd_go (N2 := (tpi (tpi (pN1 N p m 116) 249 16 (nI (p + 2))) 256 (4 * m) (nI 105))) (v := 2) (a := 2) hT h hm (by omega) wd_22 (by decide) (by rw [show pWl 2 = 116 :: 105 :: [100, 101, 32] from rfl, pcp_ye hp hc, pcp_ye (by omega) (by omega)]; show 1 + (1 + pcp n T _ (p + 2)) = _; omega) (pWl_all _ (fun _ => by rw [show pWl 0 = 104 :: [111, 108, 100, 101, 114, 32] from rfl, pcp_no (by omega)]; decide) (fun _ => by rw [show pWl 1 = 98 :: [111, 120, 32] from rfl, pcp_no (by omega)]; decide) (fun e => absurd rfl e) (fun _ => by rw [show pWl 3 = 116 :: 117 :: [114, 110, 32] from rfl, pcp_ye hp hc, pcp_n (by omega)]; exact ⟨by show _ < 5; omega, by omega⟩) (fun _ => by rw [show pWl 4 = 99 :: [111, 100, 101, 32] from rfl, pcp_no (by omega)]; decide) (fun _ => by rw [show pWl 5 = 112 :: [117, 116, 32] from rfl, pcp_no (by omega)]; decide) (fun _ => by rw [show pWl 6 = 116 :: 97 :: [107, 101, 32] from rfl, pcp_ye hp hc, pcp_n (by omega)]; exact ⟨by show _ < 5; omega, by omega⟩) (fun _ => by rw [show pWl 7 = 99 :: [108, 111, 115, 101, 32] from rfl, pcp_no (by omega)]; decide) (fun _ => by rw [show pWl 8 = 119 :: [97, 105, 116] from rfl, pcp_no (by omega)]; decide)) (by omega) d1 d2 d3 b4 d5
  have eR : f_X9_readsRest (pN1 N p m 116) (nI 116) (nI (4 * m)) = (b, N') := by
    rw [← w4]
    unfold f_X9_readsRest
    rw [if_neg (show ¬ nI 116 = 98 by decide), if_neg (show ¬ nI 116 = 99 by decide), if_neg (show ¬ nI 116 = 104 by decide), if_neg (show ¬ nI 116 = 112 by decide), if_pos (show nI 116 = 116 from rfl)]
    show f_X9_readsT (pN1 N p m 116) (nI (4 * m)) = _
    unfold f_X9_readsT
    rw [t0]
    dsimp only
    rw [if_pos rfl]
    rw [t1]
    dsimp only
    rw [if_neg p10]
    rw [pn_c (show 4 * m < 2147483648 by omega), show pFo 2 = [110, 47, 110] from rfl, ← pF12]
    rfl
  have hq : q_X9_readsT (pN1 N p m 116) (nI (4 * m)) := by
    unfold q_X9_readsT
    rw [t0]
    dsimp only
    rw [t1]
    dsimp only
    rw [pn_c (show 4 * m < 2147483648 by omega)]
    exact ⟨qs0, fun _ => ⟨qs1, fun e => absurd e p10, fun _ => ⟨vp_in_nI (by omega) (by omega), w1, fun _ => trivial, fun z => ⟨(pQ12 _ _ (w2 z)).1, fun _ => trivial, fun y => ⟨(pQ12 _ _ (w2 z)).2 y, fun _ => trivial, fun _ => trivial⟩⟩⟩⟩, fun e => absurd rfl e⟩
  exact ⟨qf ⟨fun e => absurd e (by decide), fun _ => ⟨fun e => absurd e (by decide), fun _ => ⟨fun e => absurd e (by decide), fun _ => ⟨fun e => absurd e (by decide), fun _ => ⟨fun _ => ⟨hq, trivial⟩, fun e => absurd rfl e⟩⟩⟩⟩⟩, b, M', N', p', w3, ef.trans eR, w5.imp id fun z => ⟨z.1, z.2.1, by have := z.2.2; omega⟩⟩
theorem rd_take (hT : pTx n T M0 N0) (h : pRd n M0 N0 M N p m m 9 0) (hm : m + 1 ≤ 30) (hp : p < n) (hc : T p = 116) (h2 : ¬ (p + 1 < n ∧ T (p + 1) = 117)) (h3 : ¬ (p + 1 < n ∧ T (p + 1) = 105)) : pCr2 n M0 N0 M N p m := by
  obtain ⟨ef, qf⟩ := rd_first hT h hm hp (by rw [hc]; unfold f_X9_isFirst; decide)
  rw [hc] at ef qf
  obtain ⟨b1, b2, b3, b4, b5⟩ := pN1_f N p m 116
  obtain ⟨c1, c3, c5⟩ := pN2_f N p m 116
  obtain ⟨qs0, u1, u0⟩ := rd_sign hT (rd_e0 h hp 116) (c := 117) (by omega) (by omega)
  have t0 : f_X9_isSign (pN1 N p m 116) 117 = (0, pN1 N p m 116) := (u0 (by omega)).2
  clear u1 u0
  obtain ⟨qs1, u1, u0⟩ := rd_sign hT (rd_e0 h hp 116) (c := 105) (by omega) (by omega)
  have t1 : f_X9_isSign (pN1 N p m 116) 105 = (0, pN1 N p m 116) := (u0 (by omega)).2
  clear u1 u0
  obtain ⟨d1, d2, d3, d5⟩ := pN3_f (c := 97) b1 (p' := p + 1) b2 b3
  obtain ⟨w1, w2, b, M', N', p', w3, w4, w5⟩ := rd_go (N2 := (tpi (pN1 N p m 116) 256 (4 * m) (nI 97))) (v := 6) (a := 1) hT h hm (by omega) wd_23 (by decide) (pcp_ye hp hc) (pWl_all _ (fun _ => by rw [show pWl 0 = 104 :: [111, 108, 100, 101, 114, 32] from rfl, pcp_no (by omega)]; decide) (fun _ => by rw [show pWl 1 = 98 :: [111, 120, 32] from rfl, pcp_no (by omega)]; decide) (fun _ => by rw [show pWl 2 = 116 :: 105 :: [100, 101, 32] from rfl, pcp_ye hp hc, pcp_n (by omega)]; exact ⟨by show _ < 5; omega, by omega⟩) (fun _ => by rw [show pWl 3 = 116 :: 117 :: [114, 110, 32] from rfl, pcp_ye hp hc, pcp_n (by omega)]; exact ⟨by show _ < 5; omega, by omega⟩) (fun _ => by rw [show pWl 4 = 99 :: [111, 100, 101, 32] from rfl, pcp_no (by omega)]; decide) (fun _ => by rw [show pWl 5 = 112 :: [117, 116, 32] from rfl, pcp_no (by omega)]; decide) (fun e => absurd rfl e) (fun _ => by rw [show pWl 7 = 99 :: [108, 111, 115, 101, 32] from rfl, pcp_no (by omega)]; decide) (fun _ => by rw [show pWl 8 = 119 :: [97, 105, 116] from rfl, pcp_no (by omega)]; decide)) (by omega) d1 d2 d3 b4 d5
  have eR : f_X9_readsRest (pN1 N p m 116) (nI 116) (nI (4 * m)) = (b, N') := by
    rw [← w4]
    unfold f_X9_readsRest
    rw [if_neg (show ¬ nI 116 = 98 by decide), if_neg (show ¬ nI 116 = 99 by decide), if_neg (show ¬ nI 116 = 104 by decide), if_neg (show ¬ nI 116 = 112 by decide), if_pos (show nI 116 = 116 from rfl)]
    show f_X9_readsT (pN1 N p m 116) (nI (4 * m)) = _
    unfold f_X9_readsT
    rw [t0]
    dsimp only
    rw [if_pos rfl]
    rw [t1]
    dsimp only
    rw [if_pos rfl]
    rw [pn_c (show 4 * m < 2147483648 by omega), show pFo 6 = [100] from rfl, ← pF16]
    rfl
  have hq : q_X9_readsT (pN1 N p m 116) (nI (4 * m)) := by
    unfold q_X9_readsT
    rw [t0]
    dsimp only
    rw [t1]
    dsimp only
    rw [pn_c (show 4 * m < 2147483648 by omega)]
    exact ⟨qs0, fun _ => ⟨qs1, fun _ => ⟨vp_in_nI (by omega) (by omega), w1, fun _ => trivial, fun z => ⟨pQ16 _ _ (w2 z), fun _ => trivial, fun _ => trivial⟩⟩, fun e => absurd rfl e⟩, fun e => absurd rfl e⟩
  exact ⟨qf ⟨fun e => absurd e (by decide), fun _ => ⟨fun e => absurd e (by decide), fun _ => ⟨fun e => absurd e (by decide), fun _ => ⟨fun e => absurd e (by decide), fun _ => ⟨fun _ => ⟨hq, trivial⟩, fun e => absurd rfl e⟩⟩⟩⟩⟩, b, M', N', p', w3, ef.trans eR, w5⟩
end
