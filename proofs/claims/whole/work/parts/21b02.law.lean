/-- case 24 -/
def lq_24 (M : tvM) (a1 a2 a3 : Int32) : Prop := (q_L_minutesUntilOpenBySimulation M a1) ∧ (q_X9_minutesUntilOpenBySimulation ((f_L_minutesUntilOpenBySimulation M a1).2) a1) ∧ ((f_X9_thrown ((f_X9_minutesUntilOpenBySimulation ((f_L_minutesUntilOpenBySimulation M a1).2) a1).2)) = (f_L_minutesUntilOpenBySimulation M a1).1) ∧ ((f_L_minutesUntilOpenBySimulation M a1).1 = 0 → (lg_cmp (tgl ((f_X9_minutesUntilOpenBySimulation ((f_L_minutesUntilOpenBySimulation M a1).2) a1).2) 257 0) (((f_X9_minutesUntilOpenBySimulation ((f_L_minutesUntilOpenBySimulation M a1).2) a1).1).toInt64)) = 0) ∧ True
def lm_24 (M : tvM) (a1 a2 a3 : Int32) : tvM := (f_X9_minutesUntilOpenBySimulation ((f_L_minutesUntilOpenBySimulation M a1).2) a1).2
theorem w_law_24 {E : tvE} {b Ln i k sl : Nat} {xs : Nat → Int32} (C : tvC E RL cL_law 9 (some .boolean) 1000 100000 1000000 []) (hN : tvNcE E.s) (hX : tvScr E b Ln xs) (hi : i + 4 ≤ Ln) (hk : k + 2 ≤ 100000) (hs : sl + 12 ≤ 1000000) (M : tvM) (hq : lq_24 M (xs (i + 1)) (xs (i + 2)) (xs (i + 3))) (kk : tv_W E tvP0 (k + 2) (sl + 12) (lm_24 M (xs (i + 1)) (xs (i + 2)) (xs (i + 3))) 2545 [some (.ref b), some (.ref (E.G.2.1 + 0)), some (.ref (E.G.2.1 + 249)), some (.ref (E.G.2.1 + 257)), some (.ref (E.G.2.1 + 258)), some (.int (nI i)), none, none, none] []) : tv_W E tvP0 k sl M 1489 [some (.ref b), some (.ref (E.G.2.1 + 0)), some (.ref (E.G.2.1 + 249)), some (.ref (E.G.2.1 + 257)), some (.ref (E.G.2.1 + 258)), some (.int (nI i)), none, none, none] [] := by
  have hk0 : k ≤ 100000 := by omega
  have hs0 : sl ≤ 1000000 := by omega
  obtain ⟨q0, q1, q2, q3, -⟩ := hq
  refine tv_aload_n C dk_L_law_1489 rfl ?_
  refine tv_aload_n C dk_L_law_1490 rfl ?_
  refine tv_iload C dk_L_law_1491 rfl ?_
  refine tv_iconst (v := 1) C dk_L_law_1493 (by decide) ?_
  refine tv_iadd C dk_L_law_1494 ?_
  refine tv_sld (j := i + 1) (tvl_1 hi hX.2.2.2) C hX dk_L_law_1495 (tvli_1 hi hX.2.2.2) ?_
  refine tv_aload_n C dk_L_law_1496 rfl ?_
  refine tv_callSW C hN dk_L_law_1497 ml_RL_231 yw_L_minutesUntilOpenBySimulation yi_L_minutesUntilOpenBySimulation (m_L_minutesUntilOpenBySimulation _ M (xs (i + 1)) q0) rfl rfl (Nat.le_of_ble_eq_true rfl) (Nat.le_of_ble_eq_true rfl) (Nat.le_of_ble_eq_true rfl) (by omega) (by omega) rfl rfl rfl ?_
  refine tv_istore (L' := [_, _, _, _, _, _, _, _, _]) (hn := by decide) (hlt := (Nat.le_of_ble_eq_true rfl)) (hno := rfl) C dk_L_law_1500 rfl ?_
  refine tv_aload_n C dk_L_law_1502 rfl ?_
  refine tv_aload_n C dk_L_law_1503 rfl ?_
  refine tv_iload C dk_L_law_1504 rfl ?_
  refine tv_iconst (v := 1) C dk_L_law_1506 (by decide) ?_
  refine tv_iadd C dk_L_law_1507 ?_
  refine tv_sld (j := i + 1) (tvl_1 hi hX.2.2.2) C hX dk_L_law_1508 (tvli_1 hi hX.2.2.2) ?_
  refine tv_cV1 C dk_L_law_1509 ml_RL_233 yk_X9_minutesUntilOpenBySimulation yi_X9_minutesUntilOpenBySimulation (m_X9_minutesUntilOpenBySimulation _ ((f_L_minutesUntilOpenBySimulation M (xs (i + 1))).2) (xs (i + 1)) q1) (Nat.le_of_ble_eq_true rfl) rfl rfl rfl rfl (Nat.le_of_ble_eq_true rfl) (Nat.le_of_ble_eq_true rfl) (Nat.le_of_ble_eq_true rfl) (by omega) (by omega) ?_
  refine tv_istore (L' := [_, _, _, _, _, _, _, _, _]) (hn := by decide) (hlt := (Nat.le_of_ble_eq_true rfl)) (hno := rfl) C dk_L_law_1512 rfl ?_
  refine tv_aload_n C dk_L_law_1514 rfl ?_
  refine tv_cV1 C dk_L_law_1515 ml_RL_152 yk_X9_thrown yi_X9_thrown (m_X9_thrown _ ((f_X9_minutesUntilOpenBySimulation ((f_L_minutesUntilOpenBySimulation M (xs (i + 1))).2) (xs (i + 1))).2)) (Nat.le_of_ble_eq_true rfl) rfl rfl rfl rfl (Nat.le_of_ble_eq_true rfl) (Nat.le_of_ble_eq_true rfl) (Nat.le_of_ble_eq_true rfl) (by omega) (by omega) ?_
  refine tv_iload C dk_L_law_1518 rfl ?_
  refine tv_icmp_eq C dk_L_law_1520 (fun _ => ?_) (fun h => tv_no (h q2))
  refine tv_iload C dk_L_law_1525 rfl ?_
  refine tv_if_ne C dk_L_law_1527 (fun _ => ?_) (fun h1 => ?_)
  · refine tv_goto C dk_L_law_1542 ?_
    refine tv_widen (k' := k + 2) (sl' := sl + 12) (by omega) (by omega) ?_
    exact tv_drop (L2 := [some (.ref b), some (.ref (E.G.2.1 + 0)), some (.ref (E.G.2.1 + 249)), some (.ref (E.G.2.1 + 257)), some (.ref (E.G.2.1 + 258)), some (.int (nI i)), none, none, none]) (by simp [tvSubL]) kk
  refine tv_aload_n C dk_L_law_1530 rfl ?_
  refine tv_iconst (v := 0) C dk_L_law_1531 (by decide) ?_
  refine tv_lald (j := 0) rfl C dk_L_law_1532 (Nat.le_of_ble_eq_true rfl) rfl (vp_in_nI (n := 0) (by decide) (by decide)) ?_
  refine tv_iload C dk_L_law_1533 rfl ?_
  refine tv_i2l C dk_L_law_1535 ?_
  refine tv_lcmp C dk_L_law_1536 ?_
  refine tv_if_eq C dk_L_law_1537 (fun _ => ?_) (fun h => tv_no (h (q3 h1)))
  refine tv_goto C dk_L_law_1542 ?_
  refine tv_widen (k' := k + 2) (sl' := sl + 12) (by omega) (by omega) ?_
  exact tv_drop (L2 := [some (.ref b), some (.ref (E.G.2.1 + 0)), some (.ref (E.G.2.1 + 249)), some (.ref (E.G.2.1 + 257)), some (.ref (E.G.2.1 + 258)), some (.int (nI i)), none, none, none]) (by simp [tvSubL]) kk
/-- case 25 -/
def lq_25 (M : tvM) (a1 a2 a3 : Int32) : Prop := (q_L_pearls M a1) ∧ (q_X9_pearls ((f_L_pearls M a1).2) a1) ∧ ((f_X9_thrown ((f_X9_pearls ((f_L_pearls M a1).2) a1).2)) = (f_L_pearls M a1).1) ∧ ((f_L_pearls M a1).1 = 0 → (lg_cmp (tgl ((f_X9_pearls ((f_L_pearls M a1).2) a1).2) 257 0) (((f_X9_pearls ((f_L_pearls M a1).2) a1).1).toInt64)) = 0) ∧ True
def lm_25 (M : tvM) (a1 a2 a3 : Int32) : tvM := (f_X9_pearls ((f_L_pearls M a1).2) a1).2
theorem w_law_25 {E : tvE} {b Ln i k sl : Nat} {xs : Nat → Int32} (C : tvC E RL cL_law 9 (some .boolean) 1000 100000 1000000 []) (hN : tvNcE E.s) (hX : tvScr E b Ln xs) (hi : i + 4 ≤ Ln) (hk : k + 2 ≤ 100000) (hs : sl + 12 ≤ 1000000) (M : tvM) (hq : lq_25 M (xs (i + 1)) (xs (i + 2)) (xs (i + 3))) (kk : tv_W E tvP0 (k + 2) (sl + 12) (lm_25 M (xs (i + 1)) (xs (i + 2)) (xs (i + 3))) 2545 [some (.ref b), some (.ref (E.G.2.1 + 0)), some (.ref (E.G.2.1 + 249)), some (.ref (E.G.2.1 + 257)), some (.ref (E.G.2.1 + 258)), some (.int (nI i)), none, none, none] []) : tv_W E tvP0 k sl M 1545 [some (.ref b), some (.ref (E.G.2.1 + 0)), some (.ref (E.G.2.1 + 249)), some (.ref (E.G.2.1 + 257)), some (.ref (E.G.2.1 + 258)), some (.int (nI i)), none, none, none] [] := by
  have hk0 : k ≤ 100000 := by omega
  have hs0 : sl ≤ 1000000 := by omega
  obtain ⟨q0, q1, q2, q3, -⟩ := hq
  refine tv_aload_n C dk_L_law_1545 rfl ?_
  refine tv_aload_n C dk_L_law_1546 rfl ?_
  refine tv_iload C dk_L_law_1547 rfl ?_
  refine tv_iconst (v := 1) C dk_L_law_1549 (by decide) ?_
  refine tv_iadd C dk_L_law_1550 ?_
  refine tv_sld (j := i + 1) (tvl_1 hi hX.2.2.2) C hX dk_L_law_1551 (tvli_1 hi hX.2.2.2) ?_
  refine tv_aload_n C dk_L_law_1552 rfl ?_
  refine tv_callSW C hN dk_L_law_1553 ml_RL_234 yw_L_pearls yi_L_pearls (m_L_pearls _ M (xs (i + 1)) q0) rfl rfl (Nat.le_of_ble_eq_true rfl) (Nat.le_of_ble_eq_true rfl) (Nat.le_of_ble_eq_true rfl) (by omega) (by omega) rfl rfl rfl ?_
  refine tv_istore (L' := [_, _, _, _, _, _, _, _, _]) (hn := by decide) (hlt := (Nat.le_of_ble_eq_true rfl)) (hno := rfl) C dk_L_law_1556 rfl ?_
  refine tv_aload_n C dk_L_law_1558 rfl ?_
  refine tv_aload_n C dk_L_law_1559 rfl ?_
  refine tv_iload C dk_L_law_1560 rfl ?_
  refine tv_iconst (v := 1) C dk_L_law_1562 (by decide) ?_
  refine tv_iadd C dk_L_law_1563 ?_
  refine tv_sld (j := i + 1) (tvl_1 hi hX.2.2.2) C hX dk_L_law_1564 (tvli_1 hi hX.2.2.2) ?_
  refine tv_cV1 C dk_L_law_1565 ml_RL_236 yk_X9_pearls yi_X9_pearls (m_X9_pearls _ ((f_L_pearls M (xs (i + 1))).2) (xs (i + 1)) q1) (Nat.le_of_ble_eq_true rfl) rfl rfl rfl rfl (Nat.le_of_ble_eq_true rfl) (Nat.le_of_ble_eq_true rfl) (Nat.le_of_ble_eq_true rfl) (by omega) (by omega) ?_
  refine tv_istore (L' := [_, _, _, _, _, _, _, _, _]) (hn := by decide) (hlt := (Nat.le_of_ble_eq_true rfl)) (hno := rfl) C dk_L_law_1568 rfl ?_
  refine tv_aload_n C dk_L_law_1570 rfl ?_
  refine tv_cV1 C dk_L_law_1571 ml_RL_152 yk_X9_thrown yi_X9_thrown (m_X9_thrown _ ((f_X9_pearls ((f_L_pearls M (xs (i + 1))).2) (xs (i + 1))).2)) (Nat.le_of_ble_eq_true rfl) rfl rfl rfl rfl (Nat.le_of_ble_eq_true rfl) (Nat.le_of_ble_eq_true rfl) (Nat.le_of_ble_eq_true rfl) (by omega) (by omega) ?_
  refine tv_iload C dk_L_law_1574 rfl ?_
  refine tv_icmp_eq C dk_L_law_1576 (fun _ => ?_) (fun h => tv_no (h q2))
  refine tv_iload C dk_L_law_1581 rfl ?_
  refine tv_if_ne C dk_L_law_1583 (fun _ => ?_) (fun h1 => ?_)
  · refine tv_goto C dk_L_law_1598 ?_
    refine tv_widen (k' := k + 2) (sl' := sl + 12) (by omega) (by omega) ?_
    exact tv_drop (L2 := [some (.ref b), some (.ref (E.G.2.1 + 0)), some (.ref (E.G.2.1 + 249)), some (.ref (E.G.2.1 + 257)), some (.ref (E.G.2.1 + 258)), some (.int (nI i)), none, none, none]) (by simp [tvSubL]) kk
  refine tv_aload_n C dk_L_law_1586 rfl ?_
  refine tv_iconst (v := 0) C dk_L_law_1587 (by decide) ?_
  refine tv_lald (j := 0) rfl C dk_L_law_1588 (Nat.le_of_ble_eq_true rfl) rfl (vp_in_nI (n := 0) (by decide) (by decide)) ?_
  refine tv_iload C dk_L_law_1589 rfl ?_
  refine tv_i2l C dk_L_law_1591 ?_
  refine tv_lcmp C dk_L_law_1592 ?_
  refine tv_if_eq C dk_L_law_1593 (fun _ => ?_) (fun h => tv_no (h (q3 h1)))
  refine tv_goto C dk_L_law_1598 ?_
  refine tv_widen (k' := k + 2) (sl' := sl + 12) (by omega) (by omega) ?_
  exact tv_drop (L2 := [some (.ref b), some (.ref (E.G.2.1 + 0)), some (.ref (E.G.2.1 + 249)), some (.ref (E.G.2.1 + 257)), some (.ref (E.G.2.1 + 258)), some (.int (nI i)), none, none, none]) (by simp [tvSubL]) kk
/-- case 26 -/
def lq_26 (M : tvM) (a1 a2 a3 : Int32) : Prop := (q_L_pearl M a1 a2) ∧ (q_X9_pearl ((f_L_pearl M a1 a2).2) a1 a2) ∧ ((f_X9_thrown ((f_X9_pearl ((f_L_pearl M a1 a2).2) a1 a2).2)) = (f_L_pearl M a1 a2).1) ∧ ((f_L_pearl M a1 a2).1 = 0 → (lg_cmp (tgl ((f_X9_pearl ((f_L_pearl M a1 a2).2) a1 a2).2) 257 0) (((f_X9_pearl ((f_L_pearl M a1 a2).2) a1 a2).1).toInt64)) = 0) ∧ True
def lm_26 (M : tvM) (a1 a2 a3 : Int32) : tvM := (f_X9_pearl ((f_L_pearl M a1 a2).2) a1 a2).2
theorem w_law_26 {E : tvE} {b Ln i k sl : Nat} {xs : Nat → Int32} (C : tvC E RL cL_law 9 (some .boolean) 1000 100000 1000000 []) (hN : tvNcE E.s) (hX : tvScr E b Ln xs) (hi : i + 4 ≤ Ln) (hk : k + 2 ≤ 100000) (hs : sl + 12 ≤ 1000000) (M : tvM) (hq : lq_26 M (xs (i + 1)) (xs (i + 2)) (xs (i + 3))) (kk : tv_W E tvP0 (k + 2) (sl + 12) (lm_26 M (xs (i + 1)) (xs (i + 2)) (xs (i + 3))) 2545 [some (.ref b), some (.ref (E.G.2.1 + 0)), some (.ref (E.G.2.1 + 249)), some (.ref (E.G.2.1 + 257)), some (.ref (E.G.2.1 + 258)), some (.int (nI i)), none, none, none] []) : tv_W E tvP0 k sl M 1601 [some (.ref b), some (.ref (E.G.2.1 + 0)), some (.ref (E.G.2.1 + 249)), some (.ref (E.G.2.1 + 257)), some (.ref (E.G.2.1 + 258)), some (.int (nI i)), none, none, none] [] := by
  have hk0 : k ≤ 100000 := by omega
  have hs0 : sl ≤ 1000000 := by omega
  obtain ⟨q0, q1, q2, q3, -⟩ := hq
  refine tv_aload_n C dk_L_law_1601 rfl ?_
  refine tv_aload_n C dk_L_law_1602 rfl ?_
  refine tv_iload C dk_L_law_1603 rfl ?_
  refine tv_iconst (v := 1) C dk_L_law_1605 (by decide) ?_
  refine tv_iadd C dk_L_law_1606 ?_
  refine tv_sld (j := i + 1) (tvl_1 hi hX.2.2.2) C hX dk_L_law_1607 (tvli_1 hi hX.2.2.2) ?_
  refine tv_aload_n C dk_L_law_1608 rfl ?_
  refine tv_iload C dk_L_law_1609 rfl ?_
  refine tv_iconst (v := 2) C dk_L_law_1611 (by decide) ?_
  refine tv_iadd C dk_L_law_1612 ?_
  refine tv_sld (j := i + 2) (tvl_2 hi hX.2.2.2) C hX dk_L_law_1613 (tvli_2 hi hX.2.2.2) ?_
  refine tv_aload_n C dk_L_law_1614 rfl ?_
  refine tv_callSW C hN dk_L_law_1615 ml_RL_237 yw_L_pearl yi_L_pearl (m_L_pearl _ M (xs (i + 1)) (xs (i + 2)) q0) rfl rfl (Nat.le_of_ble_eq_true rfl) (Nat.le_of_ble_eq_true rfl) (Nat.le_of_ble_eq_true rfl) (by omega) (by omega) rfl rfl rfl ?_
  refine tv_istore (L' := [_, _, _, _, _, _, _, _, _]) (hn := by decide) (hlt := (Nat.le_of_ble_eq_true rfl)) (hno := rfl) C dk_L_law_1618 rfl ?_
  refine tv_aload_n C dk_L_law_1620 rfl ?_
  refine tv_aload_n C dk_L_law_1621 rfl ?_
  refine tv_iload C dk_L_law_1622 rfl ?_
  refine tv_iconst (v := 1) C dk_L_law_1624 (by decide) ?_
  refine tv_iadd C dk_L_law_1625 ?_
  refine tv_sld (j := i + 1) (tvl_1 hi hX.2.2.2) C hX dk_L_law_1626 (tvli_1 hi hX.2.2.2) ?_
  refine tv_aload_n C dk_L_law_1627 rfl ?_
  refine tv_iload C dk_L_law_1628 rfl ?_
  refine tv_iconst (v := 2) C dk_L_law_1630 (by decide) ?_
  refine tv_iadd C dk_L_law_1631 ?_
  refine tv_sld (j := i + 2) (tvl_2 hi hX.2.2.2) C hX dk_L_law_1632 (tvli_2 hi hX.2.2.2) ?_
  refine tv_cV1 C dk_L_law_1633 ml_RL_239 yk_X9_pearl yi_X9_pearl (m_X9_pearl _ ((f_L_pearl M (xs (i + 1)) (xs (i + 2))).2) (xs (i + 1)) (xs (i + 2)) q1) (Nat.le_of_ble_eq_true rfl) rfl rfl rfl rfl (Nat.le_of_ble_eq_true rfl) (Nat.le_of_ble_eq_true rfl) (Nat.le_of_ble_eq_true rfl) (by omega) (by omega) ?_
  refine tv_istore (L' := [_, _, _, _, _, _, _, _, _]) (hn := by decide) (hlt := (Nat.le_of_ble_eq_true rfl)) (hno := rfl) C dk_L_law_1636 rfl ?_
  refine tv_aload_n C dk_L_law_1638 rfl ?_
  refine tv_cV1 C dk_L_law_1639 ml_RL_152 yk_X9_thrown yi_X9_thrown (m_X9_thrown _ ((f_X9_pearl ((f_L_pearl M (xs (i + 1)) (xs (i + 2))).2) (xs (i + 1)) (xs (i + 2))).2)) (Nat.le_of_ble_eq_true rfl) rfl rfl rfl rfl (Nat.le_of_ble_eq_true rfl) (Nat.le_of_ble_eq_true rfl) (Nat.le_of_ble_eq_true rfl) (by omega) (by omega) ?_
  refine tv_iload C dk_L_law_1642 rfl ?_
  refine tv_icmp_eq C dk_L_law_1644 (fun _ => ?_) (fun h => tv_no (h q2))
  refine tv_iload C dk_L_law_1649 rfl ?_
  refine tv_if_ne C dk_L_law_1651 (fun _ => ?_) (fun h1 => ?_)
  · refine tv_goto C dk_L_law_1666 ?_
    refine tv_widen (k' := k + 2) (sl' := sl + 12) (by omega) (by omega) ?_
    exact tv_drop (L2 := [some (.ref b), some (.ref (E.G.2.1 + 0)), some (.ref (E.G.2.1 + 249)), some (.ref (E.G.2.1 + 257)), some (.ref (E.G.2.1 + 258)), some (.int (nI i)), none, none, none]) (by simp [tvSubL]) kk
  refine tv_aload_n C dk_L_law_1654 rfl ?_
  refine tv_iconst (v := 0) C dk_L_law_1655 (by decide) ?_
  refine tv_lald (j := 0) rfl C dk_L_law_1656 (Nat.le_of_ble_eq_true rfl) rfl (vp_in_nI (n := 0) (by decide) (by decide)) ?_
  refine tv_iload C dk_L_law_1657 rfl ?_
  refine tv_i2l C dk_L_law_1659 ?_
  refine tv_lcmp C dk_L_law_1660 ?_
  refine tv_if_eq C dk_L_law_1661 (fun _ => ?_) (fun h => tv_no (h (q3 h1)))
  refine tv_goto C dk_L_law_1666 ?_
  refine tv_widen (k' := k + 2) (sl' := sl + 12) (by omega) (by omega) ?_
  exact tv_drop (L2 := [some (.ref b), some (.ref (E.G.2.1 + 0)), some (.ref (E.G.2.1 + 249)), some (.ref (E.G.2.1 + 257)), some (.ref (E.G.2.1 + 258)), some (.int (nI i)), none, none, none]) (by simp [tvSubL]) kk
/-- case 27 -/
def lq_27 (M : tvM) (a1 a2 a3 : Int32) : Prop := (q_L_boxByValue M a1) ∧ (q_X9_boxByValue ((f_L_boxByValue M a1).2) a1) ∧ ((f_X9_thrown ((f_X9_boxByValue ((f_L_boxByValue M a1).2) a1).2)) = (f_L_boxByValue M a1).1) ∧ ((f_L_boxByValue M a1).1 = 0 → (lg_cmp (tgl ((f_X9_boxByValue ((f_L_boxByValue M a1).2) a1).2) 257 0) (((f_X9_boxByValue ((f_L_boxByValue M a1).2) a1).1).toInt64)) = 0) ∧ True
def lm_27 (M : tvM) (a1 a2 a3 : Int32) : tvM := (f_X9_boxByValue ((f_L_boxByValue M a1).2) a1).2
theorem w_law_27 {E : tvE} {b Ln i k sl : Nat} {xs : Nat → Int32} (C : tvC E RL cL_law 9 (some .boolean) 1000 100000 1000000 []) (hN : tvNcE E.s) (hX : tvScr E b Ln xs) (hi : i + 4 ≤ Ln) (hk : k + 2 ≤ 100000) (hs : sl + 12 ≤ 1000000) (M : tvM) (hq : lq_27 M (xs (i + 1)) (xs (i + 2)) (xs (i + 3))) (kk : tv_W E tvP0 (k + 2) (sl + 12) (lm_27 M (xs (i + 1)) (xs (i + 2)) (xs (i + 3))) 2545 [some (.ref b), some (.ref (E.G.2.1 + 0)), some (.ref (E.G.2.1 + 249)), some (.ref (E.G.2.1 + 257)), some (.ref (E.G.2.1 + 258)), some (.int (nI i)), none, none, none] []) : tv_W E tvP0 k sl M 1669 [some (.ref b), some (.ref (E.G.2.1 + 0)), some (.ref (E.G.2.1 + 249)), some (.ref (E.G.2.1 + 257)), some (.ref (E.G.2.1 + 258)), some (.int (nI i)), none, none, none] [] := by
  have hk0 : k ≤ 100000 := by omega
  have hs0 : sl ≤ 1000000 := by omega
  obtain ⟨q0, q1, q2, q3, -⟩ := hq
  refine tv_aload_n C dk_L_law_1669 rfl ?_
  refine tv_aload_n C dk_L_law_1670 rfl ?_
  refine tv_iload C dk_L_law_1671 rfl ?_
  refine tv_iconst (v := 1) C dk_L_law_1673 (by decide) ?_
  refine tv_iadd C dk_L_law_1674 ?_
  refine tv_sld (j := i + 1) (tvl_1 hi hX.2.2.2) C hX dk_L_law_1675 (tvli_1 hi hX.2.2.2) ?_
  refine tv_aload_n C dk_L_law_1676 rfl ?_
  refine tv_callSW C hN dk_L_law_1677 ml_RL_240 yw_L_boxByValue yi_L_boxByValue (m_L_boxByValue _ M (xs (i + 1)) q0) rfl rfl (Nat.le_of_ble_eq_true rfl) (Nat.le_of_ble_eq_true rfl) (Nat.le_of_ble_eq_true rfl) (by omega) (by omega) rfl rfl rfl ?_
  refine tv_istore (L' := [_, _, _, _, _, _, _, _, _]) (hn := by decide) (hlt := (Nat.le_of_ble_eq_true rfl)) (hno := rfl) C dk_L_law_1680 rfl ?_
  refine tv_aload_n C dk_L_law_1682 rfl ?_
  refine tv_aload_n C dk_L_law_1683 rfl ?_
  refine tv_iload C dk_L_law_1684 rfl ?_
  refine tv_iconst (v := 1) C dk_L_law_1686 (by decide) ?_
  refine tv_iadd C dk_L_law_1687 ?_
  refine tv_sld (j := i + 1) (tvl_1 hi hX.2.2.2) C hX dk_L_law_1688 (tvli_1 hi hX.2.2.2) ?_
  refine tv_cV1 C dk_L_law_1689 ml_RL_242 yk_X9_boxByValue yi_X9_boxByValue (n_X9_boxByValue _ ((f_L_boxByValue M (xs (i + 1))).2) (xs (i + 1)) q1) (Nat.le_of_ble_eq_true rfl) rfl rfl rfl rfl (Nat.le_of_ble_eq_true rfl) (Nat.le_of_ble_eq_true rfl) (Nat.le_of_ble_eq_true rfl) (by omega) (by omega) ?_
  refine tv_istore (L' := [_, _, _, _, _, _, _, _, _]) (hn := by decide) (hlt := (Nat.le_of_ble_eq_true rfl)) (hno := rfl) C dk_L_law_1692 rfl ?_
  refine tv_aload_n C dk_L_law_1694 rfl ?_
  refine tv_cV1 C dk_L_law_1695 ml_RL_152 yk_X9_thrown yi_X9_thrown (m_X9_thrown _ ((f_X9_boxByValue ((f_L_boxByValue M (xs (i + 1))).2) (xs (i + 1))).2)) (Nat.le_of_ble_eq_true rfl) rfl rfl rfl rfl (Nat.le_of_ble_eq_true rfl) (Nat.le_of_ble_eq_true rfl) (Nat.le_of_ble_eq_true rfl) (by omega) (by omega) ?_
  refine tv_iload C dk_L_law_1698 rfl ?_
  refine tv_icmp_eq C dk_L_law_1700 (fun _ => ?_) (fun h => tv_no (h q2))
  refine tv_iload C dk_L_law_1705 rfl ?_
  refine tv_if_ne C dk_L_law_1707 (fun _ => ?_) (fun h1 => ?_)
  · refine tv_goto C dk_L_law_1722 ?_
    refine tv_widen (k' := k + 2) (sl' := sl + 12) (by omega) (by omega) ?_
    exact tv_drop (L2 := [some (.ref b), some (.ref (E.G.2.1 + 0)), some (.ref (E.G.2.1 + 249)), some (.ref (E.G.2.1 + 257)), some (.ref (E.G.2.1 + 258)), some (.int (nI i)), none, none, none]) (by simp [tvSubL]) kk
  refine tv_aload_n C dk_L_law_1710 rfl ?_
  refine tv_iconst (v := 0) C dk_L_law_1711 (by decide) ?_
  refine tv_lald (j := 0) rfl C dk_L_law_1712 (Nat.le_of_ble_eq_true rfl) rfl (vp_in_nI (n := 0) (by decide) (by decide)) ?_
  refine tv_iload C dk_L_law_1713 rfl ?_
  refine tv_i2l C dk_L_law_1715 ?_
  refine tv_lcmp C dk_L_law_1716 ?_
  refine tv_if_eq C dk_L_law_1717 (fun _ => ?_) (fun h => tv_no (h (q3 h1)))
  refine tv_goto C dk_L_law_1722 ?_
  refine tv_widen (k' := k + 2) (sl' := sl + 12) (by omega) (by omega) ?_
  exact tv_drop (L2 := [some (.ref b), some (.ref (E.G.2.1 + 0)), some (.ref (E.G.2.1 + 249)), some (.ref (E.G.2.1 + 257)), some (.ref (E.G.2.1 + 258)), some (.int (nI i)), none, none, none]) (by simp [tvSubL]) kk
/-- case 28 -/
def lq_28 (M : tvM) (a1 a2 a3 : Int32) : Prop := (q_X9_totalValue M) ∧ ((lg_cmp (f_X8_totalValue M) ((f_X9_totalValue M).1)) = 0) ∧ True
def lm_28 (M : tvM) (a1 a2 a3 : Int32) : tvM := (f_X9_totalValue M).2
theorem w_law_28 {E : tvE} {b Ln i k sl : Nat} {xs : Nat → Int32} (C : tvC E RL cL_law 9 (some .boolean) 1000 100000 1000000 []) (hN : tvNcE E.s) (hX : tvScr E b Ln xs) (hi : i + 4 ≤ Ln) (hk : k + 2 ≤ 100000) (hs : sl + 12 ≤ 1000000) (M : tvM) (hq : lq_28 M (xs (i + 1)) (xs (i + 2)) (xs (i + 3))) (kk : tv_W E tvP0 (k + 2) (sl + 12) (lm_28 M (xs (i + 1)) (xs (i + 2)) (xs (i + 3))) 2545 [some (.ref b), some (.ref (E.G.2.1 + 0)), some (.ref (E.G.2.1 + 249)), some (.ref (E.G.2.1 + 257)), some (.ref (E.G.2.1 + 258)), some (.int (nI i)), none, none, none] []) : tv_W E tvP0 k sl M 1725 [some (.ref b), some (.ref (E.G.2.1 + 0)), some (.ref (E.G.2.1 + 249)), some (.ref (E.G.2.1 + 257)), some (.ref (E.G.2.1 + 258)), some (.int (nI i)), none, none, none] [] := by
  have hk0 : k ≤ 100000 := by omega
  have hs0 : sl ≤ 1000000 := by omega
  obtain ⟨q0, q1, -⟩ := hq
  refine tv_aload_n C dk_L_law_1725 rfl ?_
  refine tv_cV1 C dk_L_law_1726 ml_RL_243 yk_X8_totalValue yi_X8_totalValue (m_X8_totalValue _ M) (Nat.le_of_ble_eq_true rfl) rfl rfl rfl rfl (Nat.le_of_ble_eq_true rfl) (Nat.le_of_ble_eq_true rfl) (Nat.le_of_ble_eq_true rfl) (by omega) (by omega) ?_
  refine tv_aload_n C dk_L_law_1729 rfl ?_
  refine tv_cV1 C dk_L_law_1730 ml_RL_247 yk_X9_totalValue yi_X9_totalValue (n_X9_totalValue _ M q0) (Nat.le_of_ble_eq_true rfl) rfl rfl rfl rfl (Nat.le_of_ble_eq_true rfl) (Nat.le_of_ble_eq_true rfl) (Nat.le_of_ble_eq_true rfl) (by omega) (by omega) ?_
  refine tv_lcmp C dk_L_law_1733 ?_
  refine tv_if_eq C dk_L_law_1734 (fun _ => ?_) (fun h => tv_no (h q1))
  refine tv_widen (k' := k + 2) (sl' := sl + 12) (by omega) (by omega) ?_
  exact tv_drop (L2 := [some (.ref b), some (.ref (E.G.2.1 + 0)), some (.ref (E.G.2.1 + 249)), some (.ref (E.G.2.1 + 257)), some (.ref (E.G.2.1 + 258)), some (.int (nI i)), none, none, none]) (by simp [tvSubL]) kk
/-- case 29 -/
def lq_29 (M : tvM) (a1 a2 a3 : Int32) : Prop := ((lg_cmp (f_X8_totalValueByLedger M) ((f_X9_totalValueByLedger M).1)) = 0) ∧ True
def lm_29 (M : tvM) (a1 a2 a3 : Int32) : tvM := (f_X9_totalValueByLedger M).2
theorem w_law_29 {E : tvE} {b Ln i k sl : Nat} {xs : Nat → Int32} (C : tvC E RL cL_law 9 (some .boolean) 1000 100000 1000000 []) (hN : tvNcE E.s) (hX : tvScr E b Ln xs) (hi : i + 4 ≤ Ln) (hk : k + 2 ≤ 100000) (hs : sl + 12 ≤ 1000000) (M : tvM) (hq : lq_29 M (xs (i + 1)) (xs (i + 2)) (xs (i + 3))) (kk : tv_W E tvP0 (k + 2) (sl + 12) (lm_29 M (xs (i + 1)) (xs (i + 2)) (xs (i + 3))) 2545 [some (.ref b), some (.ref (E.G.2.1 + 0)), some (.ref (E.G.2.1 + 249)), some (.ref (E.G.2.1 + 257)), some (.ref (E.G.2.1 + 258)), some (.int (nI i)), none, none, none] []) : tv_W E tvP0 k sl M 1739 [some (.ref b), some (.ref (E.G.2.1 + 0)), some (.ref (E.G.2.1 + 249)), some (.ref (E.G.2.1 + 257)), some (.ref (E.G.2.1 + 258)), some (.int (nI i)), none, none, none] [] := by
  have hk0 : k ≤ 100000 := by omega
  have hs0 : sl ≤ 1000000 := by omega
  obtain ⟨q0, -⟩ := hq
  refine tv_aload_n C dk_L_law_1739 rfl ?_
  refine tv_cV1 C dk_L_law_1740 ml_RL_248 yk_X8_totalValueByLedger yi_X8_totalValueByLedger (m_X8_totalValueByLedger _ M) (Nat.le_of_ble_eq_true rfl) rfl rfl rfl rfl (Nat.le_of_ble_eq_true rfl) (Nat.le_of_ble_eq_true rfl) (Nat.le_of_ble_eq_true rfl) (by omega) (by omega) ?_
  refine tv_aload_n C dk_L_law_1743 rfl ?_
  refine tv_cV1 C dk_L_law_1744 ml_RL_251 yk_X9_totalValueByLedger yi_X9_totalValueByLedger (m_X9_totalValueByLedger _ M) (Nat.le_of_ble_eq_true rfl) rfl rfl rfl rfl (Nat.le_of_ble_eq_true rfl) (Nat.le_of_ble_eq_true rfl) (Nat.le_of_ble_eq_true rfl) (by omega) (by omega) ?_
  refine tv_lcmp C dk_L_law_1747 ?_
  refine tv_if_eq C dk_L_law_1748 (fun _ => ?_) (fun h => tv_no (h q0))
  refine tv_widen (k' := k + 2) (sl' := sl + 12) (by omega) (by omega) ?_
  exact tv_drop (L2 := [some (.ref b), some (.ref (E.G.2.1 + 0)), some (.ref (E.G.2.1 + 249)), some (.ref (E.G.2.1 + 257)), some (.ref (E.G.2.1 + 258)), some (.int (nI i)), none, none, none]) (by simp [tvSubL]) kk
/-- case 30 -/
def lq_30 (M : tvM) (a1 a2 a3 : Int32) : Prop := (q_L_meanValue M) ∧ (q_X9_meanValue ((f_L_meanValue M).2)) ∧ ((f_X9_thrown ((f_X9_meanValue ((f_L_meanValue M).2)).2)) = (f_L_meanValue M).1) ∧ ((f_L_meanValue M).1 = 0 → (Op.cmpValue (FP.dcmp (tgd ((f_X9_meanValue ((f_L_meanValue M).2)).2) 258 0) ((f_X9_meanValue ((f_L_meanValue M).2)).1)) .l) = 0) ∧ True
def lm_30 (M : tvM) (a1 a2 a3 : Int32) : tvM := (f_X9_meanValue ((f_L_meanValue M).2)).2
theorem w_law_30 {E : tvE} {b Ln i k sl : Nat} {xs : Nat → Int32} (C : tvC E RL cL_law 9 (some .boolean) 1000 100000 1000000 []) (hN : tvNcE E.s) (hX : tvScr E b Ln xs) (hi : i + 4 ≤ Ln) (hk : k + 2 ≤ 100000) (hs : sl + 12 ≤ 1000000) (M : tvM) (hq : lq_30 M (xs (i + 1)) (xs (i + 2)) (xs (i + 3))) (kk : tv_W E tvP0 (k + 2) (sl + 12) (lm_30 M (xs (i + 1)) (xs (i + 2)) (xs (i + 3))) 2545 [some (.ref b), some (.ref (E.G.2.1 + 0)), some (.ref (E.G.2.1 + 249)), some (.ref (E.G.2.1 + 257)), some (.ref (E.G.2.1 + 258)), some (.int (nI i)), none, none, none] []) : tv_W E tvP0 k sl M 1753 [some (.ref b), some (.ref (E.G.2.1 + 0)), some (.ref (E.G.2.1 + 249)), some (.ref (E.G.2.1 + 257)), some (.ref (E.G.2.1 + 258)), some (.int (nI i)), none, none, none] [] := by
  have hk0 : k ≤ 100000 := by omega
  have hs0 : sl ≤ 1000000 := by omega
  obtain ⟨q0, q1, q2, q3, -⟩ := hq
  refine tv_aload_n C dk_L_law_1753 rfl ?_
  refine tv_aload C dk_L_law_1754 rfl ?_
  refine tv_callSW C hN dk_L_law_1756 ml_RL_252 yw_L_meanValue yi_L_meanValue (m_L_meanValue _ M q0) rfl rfl (Nat.le_of_ble_eq_true rfl) (Nat.le_of_ble_eq_true rfl) (Nat.le_of_ble_eq_true rfl) (by omega) (by omega) rfl rfl rfl ?_
  refine tv_istore (L' := [_, _, _, _, _, _, _, _, _]) (hn := by decide) (hlt := (Nat.le_of_ble_eq_true rfl)) (hno := rfl) C dk_L_law_1759 rfl ?_
  refine tv_aload_n C dk_L_law_1761 rfl ?_
  refine tv_cV1 C dk_L_law_1762 ml_RL_255 yk_X9_meanValue yi_X9_meanValue (n_X9_meanValue _ ((f_L_meanValue M).2) q1) (Nat.le_of_ble_eq_true rfl) rfl rfl rfl rfl (Nat.le_of_ble_eq_true rfl) (Nat.le_of_ble_eq_true rfl) (Nat.le_of_ble_eq_true rfl) (by omega) (by omega) ?_
  refine tv_dstore (L' := [_, _, _, _, _, _, _, _, _]) (hn := by decide) (hlt := (Nat.le_of_ble_eq_true rfl)) (hno := rfl) C dk_L_law_1765 rfl ?_
  refine tv_aload_n C dk_L_law_1767 rfl ?_
  refine tv_cV1 C dk_L_law_1768 ml_RL_152 yk_X9_thrown yi_X9_thrown (m_X9_thrown _ ((f_X9_meanValue ((f_L_meanValue M).2)).2)) (Nat.le_of_ble_eq_true rfl) rfl rfl rfl rfl (Nat.le_of_ble_eq_true rfl) (Nat.le_of_ble_eq_true rfl) (Nat.le_of_ble_eq_true rfl) (by omega) (by omega) ?_
  refine tv_iload C dk_L_law_1771 rfl ?_
  refine tv_icmp_eq C dk_L_law_1773 (fun _ => ?_) (fun h => tv_no (h q2))
  refine tv_iload C dk_L_law_1778 rfl ?_
  refine tv_if_ne C dk_L_law_1780 (fun _ => ?_) (fun h1 => ?_)
  · refine tv_goto C dk_L_law_1815 ?_
    refine tv_widen (k' := k + 2) (sl' := sl + 12) (by omega) (by omega) ?_
    exact tv_drop (L2 := [some (.ref b), some (.ref (E.G.2.1 + 0)), some (.ref (E.G.2.1 + 249)), some (.ref (E.G.2.1 + 257)), some (.ref (E.G.2.1 + 258)), some (.int (nI i)), none, none, none]) (by simp [tvSubL]) kk
  refine tv_aload C dk_L_law_1783 rfl ?_
  refine tv_iconst (v := 0) C dk_L_law_1785 (by decide) ?_
  refine tv_dald (j := 0) rfl C dk_L_law_1786 (Nat.le_of_ble_eq_true rfl) rfl (vp_in_nI (n := 0) (by decide) (by decide)) ?_
  refine tv_dload C dk_L_law_1787 rfl ?_
  refine tv_dcmp C dk_L_law_1789 ?_
  refine tv_if_eq C dk_L_law_1790 (fun _ => ?_) (fun h => tv_no (h (q3 h1)))
  refine tv_goto C dk_L_law_1815 ?_
  refine tv_widen (k' := k + 2) (sl' := sl + 12) (by omega) (by omega) ?_
  exact tv_drop (L2 := [some (.ref b), some (.ref (E.G.2.1 + 0)), some (.ref (E.G.2.1 + 249)), some (.ref (E.G.2.1 + 257)), some (.ref (E.G.2.1 + 258)), some (.int (nI i)), none, none, none]) (by simp [tvSubL]) kk
/-- case 31 -/
def lq_31 (M : tvM) (a1 a2 a3 : Int32) : Prop := (q_L_failureRate M) ∧ (q_X9_failureRate ((f_L_failureRate M).2)) ∧ ((f_X9_thrown ((f_X9_failureRate ((f_L_failureRate M).2)).2)) = (f_L_failureRate M).1) ∧ ((f_L_failureRate M).1 = 0 → vf_n64 (FP.f2d ((f_X9_failureRate ((f_L_failureRate M).2)).1))) ∧ ((f_L_failureRate M).1 = 0 → (Op.cmpValue (FP.dcmp (tgd ((f_X9_failureRate ((f_L_failureRate M).2)).2) 258 0) (FP.f2d ((f_X9_failureRate ((f_L_failureRate M).2)).1))) .l) = 0) ∧ True
def lm_31 (M : tvM) (a1 a2 a3 : Int32) : tvM := (f_X9_failureRate ((f_L_failureRate M).2)).2
theorem w_law_31 {E : tvE} {b Ln i k sl : Nat} {xs : Nat → Int32} (C : tvC E RL cL_law 9 (some .boolean) 1000 100000 1000000 []) (hN : tvNcE E.s) (hX : tvScr E b Ln xs) (hi : i + 4 ≤ Ln) (hk : k + 2 ≤ 100000) (hs : sl + 12 ≤ 1000000) (M : tvM) (hq : lq_31 M (xs (i + 1)) (xs (i + 2)) (xs (i + 3))) (kk : tv_W E tvP0 (k + 2) (sl + 12) (lm_31 M (xs (i + 1)) (xs (i + 2)) (xs (i + 3))) 2545 [some (.ref b), some (.ref (E.G.2.1 + 0)), some (.ref (E.G.2.1 + 249)), some (.ref (E.G.2.1 + 257)), some (.ref (E.G.2.1 + 258)), some (.int (nI i)), none, none, none] []) : tv_W E tvP0 k sl M 1818 [some (.ref b), some (.ref (E.G.2.1 + 0)), some (.ref (E.G.2.1 + 249)), some (.ref (E.G.2.1 + 257)), some (.ref (E.G.2.1 + 258)), some (.int (nI i)), none, none, none] [] := by
  have hk0 : k ≤ 100000 := by omega
  have hs0 : sl ≤ 1000000 := by omega
  obtain ⟨q0, q1, q2, q3, q4, -⟩ := hq
  refine tv_aload_n C dk_L_law_1818 rfl ?_
  refine tv_aload C dk_L_law_1819 rfl ?_
  refine tv_callSW C hN dk_L_law_1821 ml_RL_256 yw_L_failureRate yi_L_failureRate (m_L_failureRate _ M q0) rfl rfl (Nat.le_of_ble_eq_true rfl) (Nat.le_of_ble_eq_true rfl) (Nat.le_of_ble_eq_true rfl) (by omega) (by omega) rfl rfl rfl ?_
  refine tv_istore (L' := [_, _, _, _, _, _, _, _, _]) (hn := by decide) (hlt := (Nat.le_of_ble_eq_true rfl)) (hno := rfl) C dk_L_law_1824 rfl ?_
  refine tv_aload_n C dk_L_law_1826 rfl ?_
  refine tv_cV1 C dk_L_law_1827 ml_RL_258 yk_X9_failureRate yi_X9_failureRate (m_X9_failureRate _ ((f_L_failureRate M).2) q1) (Nat.le_of_ble_eq_true rfl) rfl rfl rfl rfl (Nat.le_of_ble_eq_true rfl) (Nat.le_of_ble_eq_true rfl) (Nat.le_of_ble_eq_true rfl) (by omega) (by omega) ?_
  refine tv_fstore (L' := [_, _, _, _, _, _, _, _, _]) (hn := by decide) (hlt := (Nat.le_of_ble_eq_true rfl)) (hno := rfl) C dk_L_law_1830 rfl ?_
  refine tv_aload_n C dk_L_law_1832 rfl ?_
  refine tv_cV1 C dk_L_law_1833 ml_RL_152 yk_X9_thrown yi_X9_thrown (m_X9_thrown _ ((f_X9_failureRate ((f_L_failureRate M).2)).2)) (Nat.le_of_ble_eq_true rfl) rfl rfl rfl rfl (Nat.le_of_ble_eq_true rfl) (Nat.le_of_ble_eq_true rfl) (Nat.le_of_ble_eq_true rfl) (by omega) (by omega) ?_
  refine tv_iload C dk_L_law_1836 rfl ?_
  refine tv_icmp_eq C dk_L_law_1838 (fun _ => ?_) (fun h => tv_no (h q2))
  refine tv_iload C dk_L_law_1843 rfl ?_
  refine tv_if_ne C dk_L_law_1845 (fun _ => ?_) (fun h1 => ?_)
  · refine tv_goto C dk_L_law_1881 ?_
    refine tv_widen (k' := k + 2) (sl' := sl + 12) (by omega) (by omega) ?_
    exact tv_drop (L2 := [some (.ref b), some (.ref (E.G.2.1 + 0)), some (.ref (E.G.2.1 + 249)), some (.ref (E.G.2.1 + 257)), some (.ref (E.G.2.1 + 258)), some (.int (nI i)), none, none, none]) (by simp [tvSubL]) kk
  refine tv_aload C dk_L_law_1848 rfl ?_
  refine tv_iconst (v := 0) C dk_L_law_1850 (by decide) ?_
  refine tv_dald (j := 0) rfl C dk_L_law_1851 (Nat.le_of_ble_eq_true rfl) rfl (vp_in_nI (n := 0) (by decide) (by decide)) ?_
  refine tv_fload C dk_L_law_1852 rfl ?_
  refine tv_f2d C dk_L_law_1854 (q3 h1) ?_
  refine tv_dcmp C dk_L_law_1855 ?_
  refine tv_if_eq C dk_L_law_1856 (fun _ => ?_) (fun h => tv_no (h (q4 h1)))
  refine tv_goto C dk_L_law_1881 ?_
  refine tv_widen (k' := k + 2) (sl' := sl + 12) (by omega) (by omega) ?_
  exact tv_drop (L2 := [some (.ref b), some (.ref (E.G.2.1 + 0)), some (.ref (E.G.2.1 + 249)), some (.ref (E.G.2.1 + 257)), some (.ref (E.G.2.1 + 258)), some (.int (nI i)), none, none, none]) (by simp [tvSubL]) kk
/-- case 32 -/
def lq_32 (M : tvM) (a1 a2 a3 : Int32) : Prop := ((f_X8_events M) = (f_X9_events M).1) ∧ True
def lm_32 (M : tvM) (a1 a2 a3 : Int32) : tvM := (f_X9_events M).2
theorem w_law_32 {E : tvE} {b Ln i k sl : Nat} {xs : Nat → Int32} (C : tvC E RL cL_law 9 (some .boolean) 1000 100000 1000000 []) (hN : tvNcE E.s) (hX : tvScr E b Ln xs) (hi : i + 4 ≤ Ln) (hk : k + 2 ≤ 100000) (hs : sl + 12 ≤ 1000000) (M : tvM) (hq : lq_32 M (xs (i + 1)) (xs (i + 2)) (xs (i + 3))) (kk : tv_W E tvP0 (k + 2) (sl + 12) (lm_32 M (xs (i + 1)) (xs (i + 2)) (xs (i + 3))) 2545 [some (.ref b), some (.ref (E.G.2.1 + 0)), some (.ref (E.G.2.1 + 249)), some (.ref (E.G.2.1 + 257)), some (.ref (E.G.2.1 + 258)), some (.int (nI i)), none, none, none] []) : tv_W E tvP0 k sl M 1884 [some (.ref b), some (.ref (E.G.2.1 + 0)), some (.ref (E.G.2.1 + 249)), some (.ref (E.G.2.1 + 257)), some (.ref (E.G.2.1 + 258)), some (.int (nI i)), none, none, none] [] := by
  have hk0 : k ≤ 100000 := by omega
  have hs0 : sl ≤ 1000000 := by omega
  obtain ⟨q0, -⟩ := hq
  refine tv_aload_n C dk_L_law_1884 rfl ?_
  refine tv_cV1 C dk_L_law_1885 ml_RL_259 yk_X8_events yi_X8_events (m_X8_events _ M) (Nat.le_of_ble_eq_true rfl) rfl rfl rfl rfl (Nat.le_of_ble_eq_true rfl) (Nat.le_of_ble_eq_true rfl) (Nat.le_of_ble_eq_true rfl) (by omega) (by omega) ?_
  refine tv_aload_n C dk_L_law_1888 rfl ?_
  refine tv_cV1 C dk_L_law_1889 ml_RL_262 yk_X9_events yi_X9_events (m_X9_events _ M) (Nat.le_of_ble_eq_true rfl) rfl rfl rfl rfl (Nat.le_of_ble_eq_true rfl) (Nat.le_of_ble_eq_true rfl) (Nat.le_of_ble_eq_true rfl) (by omega) (by omega) ?_
  refine tv_icmp_eq C dk_L_law_1892 (fun _ => ?_) (fun h => tv_no (h q0))
  refine tv_widen (k' := k + 2) (sl' := sl + 12) (by omega) (by omega) ?_
  exact tv_drop (L2 := [some (.ref b), some (.ref (E.G.2.1 + 0)), some (.ref (E.G.2.1 + 249)), some (.ref (E.G.2.1 + 257)), some (.ref (E.G.2.1 + 258)), some (.int (nI i)), none, none, none]) (by simp [tvSubL]) kk
/-- case 33 -/
def lq_33 (M : tvM) (a1 a2 a3 : Int32) : Prop := (q_L_eventKind M a1) ∧ (q_X9_eventKind ((f_L_eventKind M a1).2) a1) ∧ ((f_X9_thrown ((f_X9_eventKind ((f_L_eventKind M a1).2) a1).2)) = (f_L_eventKind M a1).1) ∧ ((f_L_eventKind M a1).1 = 0 → (lg_cmp (tgl ((f_X9_eventKind ((f_L_eventKind M a1).2) a1).2) 257 0) (((f_X9_eventKind ((f_L_eventKind M a1).2) a1).1).toInt64)) = 0) ∧ True
def lm_33 (M : tvM) (a1 a2 a3 : Int32) : tvM := (f_X9_eventKind ((f_L_eventKind M a1).2) a1).2
theorem w_law_33 {E : tvE} {b Ln i k sl : Nat} {xs : Nat → Int32} (C : tvC E RL cL_law 9 (some .boolean) 1000 100000 1000000 []) (hN : tvNcE E.s) (hX : tvScr E b Ln xs) (hi : i + 4 ≤ Ln) (hk : k + 2 ≤ 100000) (hs : sl + 12 ≤ 1000000) (M : tvM) (hq : lq_33 M (xs (i + 1)) (xs (i + 2)) (xs (i + 3))) (kk : tv_W E tvP0 (k + 2) (sl + 12) (lm_33 M (xs (i + 1)) (xs (i + 2)) (xs (i + 3))) 2545 [some (.ref b), some (.ref (E.G.2.1 + 0)), some (.ref (E.G.2.1 + 249)), some (.ref (E.G.2.1 + 257)), some (.ref (E.G.2.1 + 258)), some (.int (nI i)), none, none, none] []) : tv_W E tvP0 k sl M 1897 [some (.ref b), some (.ref (E.G.2.1 + 0)), some (.ref (E.G.2.1 + 249)), some (.ref (E.G.2.1 + 257)), some (.ref (E.G.2.1 + 258)), some (.int (nI i)), none, none, none] [] := by
  have hk0 : k ≤ 100000 := by omega
  have hs0 : sl ≤ 1000000 := by omega
  obtain ⟨q0, q1, q2, q3, -⟩ := hq
  refine tv_aload_n C dk_L_law_1897 rfl ?_
  refine tv_aload_n C dk_L_law_1898 rfl ?_
  refine tv_iload C dk_L_law_1899 rfl ?_
  refine tv_iconst (v := 1) C dk_L_law_1901 (by decide) ?_
  refine tv_iadd C dk_L_law_1902 ?_
  refine tv_sld (j := i + 1) (tvl_1 hi hX.2.2.2) C hX dk_L_law_1903 (tvli_1 hi hX.2.2.2) ?_
  refine tv_aload_n C dk_L_law_1904 rfl ?_
  refine tv_callSW C hN dk_L_law_1905 ml_RL_263 yw_L_eventKind yi_L_eventKind (m_L_eventKind _ M (xs (i + 1)) q0) rfl rfl (Nat.le_of_ble_eq_true rfl) (Nat.le_of_ble_eq_true rfl) (Nat.le_of_ble_eq_true rfl) (by omega) (by omega) rfl rfl rfl ?_
  refine tv_istore (L' := [_, _, _, _, _, _, _, _, _]) (hn := by decide) (hlt := (Nat.le_of_ble_eq_true rfl)) (hno := rfl) C dk_L_law_1908 rfl ?_
  refine tv_aload_n C dk_L_law_1910 rfl ?_
  refine tv_aload_n C dk_L_law_1911 rfl ?_
  refine tv_iload C dk_L_law_1912 rfl ?_
  refine tv_iconst (v := 1) C dk_L_law_1914 (by decide) ?_
  refine tv_iadd C dk_L_law_1915 ?_
  refine tv_sld (j := i + 1) (tvl_1 hi hX.2.2.2) C hX dk_L_law_1916 (tvli_1 hi hX.2.2.2) ?_
  refine tv_cV1 C dk_L_law_1917 ml_RL_265 yk_X9_eventKind yi_X9_eventKind (m_X9_eventKind _ ((f_L_eventKind M (xs (i + 1))).2) (xs (i + 1)) q1) (Nat.le_of_ble_eq_true rfl) rfl rfl rfl rfl (Nat.le_of_ble_eq_true rfl) (Nat.le_of_ble_eq_true rfl) (Nat.le_of_ble_eq_true rfl) (by omega) (by omega) ?_
  refine tv_istore (L' := [_, _, _, _, _, _, _, _, _]) (hn := by decide) (hlt := (Nat.le_of_ble_eq_true rfl)) (hno := rfl) C dk_L_law_1920 rfl ?_
  refine tv_aload_n C dk_L_law_1922 rfl ?_
  refine tv_cV1 C dk_L_law_1923 ml_RL_152 yk_X9_thrown yi_X9_thrown (m_X9_thrown _ ((f_X9_eventKind ((f_L_eventKind M (xs (i + 1))).2) (xs (i + 1))).2)) (Nat.le_of_ble_eq_true rfl) rfl rfl rfl rfl (Nat.le_of_ble_eq_true rfl) (Nat.le_of_ble_eq_true rfl) (Nat.le_of_ble_eq_true rfl) (by omega) (by omega) ?_
  refine tv_iload C dk_L_law_1926 rfl ?_
  refine tv_icmp_eq C dk_L_law_1928 (fun _ => ?_) (fun h => tv_no (h q2))
  refine tv_iload C dk_L_law_1933 rfl ?_
  refine tv_if_ne C dk_L_law_1935 (fun _ => ?_) (fun h1 => ?_)
  · refine tv_goto C dk_L_law_1950 ?_
    refine tv_widen (k' := k + 2) (sl' := sl + 12) (by omega) (by omega) ?_
    exact tv_drop (L2 := [some (.ref b), some (.ref (E.G.2.1 + 0)), some (.ref (E.G.2.1 + 249)), some (.ref (E.G.2.1 + 257)), some (.ref (E.G.2.1 + 258)), some (.int (nI i)), none, none, none]) (by simp [tvSubL]) kk
  refine tv_aload_n C dk_L_law_1938 rfl ?_
  refine tv_iconst (v := 0) C dk_L_law_1939 (by decide) ?_
  refine tv_lald (j := 0) rfl C dk_L_law_1940 (Nat.le_of_ble_eq_true rfl) rfl (vp_in_nI (n := 0) (by decide) (by decide)) ?_
  refine tv_iload C dk_L_law_1941 rfl ?_
  refine tv_i2l C dk_L_law_1943 ?_
  refine tv_lcmp C dk_L_law_1944 ?_
  refine tv_if_eq C dk_L_law_1945 (fun _ => ?_) (fun h => tv_no (h (q3 h1)))
  refine tv_goto C dk_L_law_1950 ?_
  refine tv_widen (k' := k + 2) (sl' := sl + 12) (by omega) (by omega) ?_
  exact tv_drop (L2 := [some (.ref b), some (.ref (E.G.2.1 + 0)), some (.ref (E.G.2.1 + 249)), some (.ref (E.G.2.1 + 257)), some (.ref (E.G.2.1 + 258)), some (.int (nI i)), none, none, none]) (by simp [tvSubL]) kk
/-- case 34 -/
def lq_34 (M : tvM) (a1 a2 a3 : Int32) : Prop := (q_L_eventTime M a1) ∧ (q_X9_eventTime ((f_L_eventTime M a1).2) a1) ∧ ((f_X9_thrown ((f_X9_eventTime ((f_L_eventTime M a1).2) a1).2)) = (f_L_eventTime M a1).1) ∧ ((f_L_eventTime M a1).1 = 0 → (lg_cmp (tgl ((f_X9_eventTime ((f_L_eventTime M a1).2) a1).2) 257 0) (((f_X9_eventTime ((f_L_eventTime M a1).2) a1).1).toInt64)) = 0) ∧ True
def lm_34 (M : tvM) (a1 a2 a3 : Int32) : tvM := (f_X9_eventTime ((f_L_eventTime M a1).2) a1).2
theorem w_law_34 {E : tvE} {b Ln i k sl : Nat} {xs : Nat → Int32} (C : tvC E RL cL_law 9 (some .boolean) 1000 100000 1000000 []) (hN : tvNcE E.s) (hX : tvScr E b Ln xs) (hi : i + 4 ≤ Ln) (hk : k + 2 ≤ 100000) (hs : sl + 12 ≤ 1000000) (M : tvM) (hq : lq_34 M (xs (i + 1)) (xs (i + 2)) (xs (i + 3))) (kk : tv_W E tvP0 (k + 2) (sl + 12) (lm_34 M (xs (i + 1)) (xs (i + 2)) (xs (i + 3))) 2545 [some (.ref b), some (.ref (E.G.2.1 + 0)), some (.ref (E.G.2.1 + 249)), some (.ref (E.G.2.1 + 257)), some (.ref (E.G.2.1 + 258)), some (.int (nI i)), none, none, none] []) : tv_W E tvP0 k sl M 1953 [some (.ref b), some (.ref (E.G.2.1 + 0)), some (.ref (E.G.2.1 + 249)), some (.ref (E.G.2.1 + 257)), some (.ref (E.G.2.1 + 258)), some (.int (nI i)), none, none, none] [] := by
  have hk0 : k ≤ 100000 := by omega
  have hs0 : sl ≤ 1000000 := by omega
  obtain ⟨q0, q1, q2, q3, -⟩ := hq
  refine tv_aload_n C dk_L_law_1953 rfl ?_
  refine tv_aload_n C dk_L_law_1954 rfl ?_
  refine tv_iload C dk_L_law_1955 rfl ?_
  refine tv_iconst (v := 1) C dk_L_law_1957 (by decide) ?_
  refine tv_iadd C dk_L_law_1958 ?_
  refine tv_sld (j := i + 1) (tvl_1 hi hX.2.2.2) C hX dk_L_law_1959 (tvli_1 hi hX.2.2.2) ?_
  refine tv_aload_n C dk_L_law_1960 rfl ?_
  refine tv_callSW C hN dk_L_law_1961 ml_RL_266 yw_L_eventTime yi_L_eventTime (m_L_eventTime _ M (xs (i + 1)) q0) rfl rfl (Nat.le_of_ble_eq_true rfl) (Nat.le_of_ble_eq_true rfl) (Nat.le_of_ble_eq_true rfl) (by omega) (by omega) rfl rfl rfl ?_
  refine tv_istore (L' := [_, _, _, _, _, _, _, _, _]) (hn := by decide) (hlt := (Nat.le_of_ble_eq_true rfl)) (hno := rfl) C dk_L_law_1964 rfl ?_
  refine tv_aload_n C dk_L_law_1966 rfl ?_
  refine tv_aload_n C dk_L_law_1967 rfl ?_
  refine tv_iload C dk_L_law_1968 rfl ?_
  refine tv_iconst (v := 1) C dk_L_law_1970 (by decide) ?_
  refine tv_iadd C dk_L_law_1971 ?_
  refine tv_sld (j := i + 1) (tvl_1 hi hX.2.2.2) C hX dk_L_law_1972 (tvli_1 hi hX.2.2.2) ?_
  refine tv_cV1 C dk_L_law_1973 ml_RL_268 yk_X9_eventTime yi_X9_eventTime (m_X9_eventTime _ ((f_L_eventTime M (xs (i + 1))).2) (xs (i + 1)) q1) (Nat.le_of_ble_eq_true rfl) rfl rfl rfl rfl (Nat.le_of_ble_eq_true rfl) (Nat.le_of_ble_eq_true rfl) (Nat.le_of_ble_eq_true rfl) (by omega) (by omega) ?_
  refine tv_istore (L' := [_, _, _, _, _, _, _, _, _]) (hn := by decide) (hlt := (Nat.le_of_ble_eq_true rfl)) (hno := rfl) C dk_L_law_1976 rfl ?_
  refine tv_aload_n C dk_L_law_1978 rfl ?_
  refine tv_cV1 C dk_L_law_1979 ml_RL_152 yk_X9_thrown yi_X9_thrown (m_X9_thrown _ ((f_X9_eventTime ((f_L_eventTime M (xs (i + 1))).2) (xs (i + 1))).2)) (Nat.le_of_ble_eq_true rfl) rfl rfl rfl rfl (Nat.le_of_ble_eq_true rfl) (Nat.le_of_ble_eq_true rfl) (Nat.le_of_ble_eq_true rfl) (by omega) (by omega) ?_
  refine tv_iload C dk_L_law_1982 rfl ?_
  refine tv_icmp_eq C dk_L_law_1984 (fun _ => ?_) (fun h => tv_no (h q2))
  refine tv_iload C dk_L_law_1989 rfl ?_
  refine tv_if_ne C dk_L_law_1991 (fun _ => ?_) (fun h1 => ?_)
  · refine tv_goto C dk_L_law_2006 ?_
    refine tv_widen (k' := k + 2) (sl' := sl + 12) (by omega) (by omega) ?_
    exact tv_drop (L2 := [some (.ref b), some (.ref (E.G.2.1 + 0)), some (.ref (E.G.2.1 + 249)), some (.ref (E.G.2.1 + 257)), some (.ref (E.G.2.1 + 258)), some (.int (nI i)), none, none, none]) (by simp [tvSubL]) kk
  refine tv_aload_n C dk_L_law_1994 rfl ?_
  refine tv_iconst (v := 0) C dk_L_law_1995 (by decide) ?_
  refine tv_lald (j := 0) rfl C dk_L_law_1996 (Nat.le_of_ble_eq_true rfl) rfl (vp_in_nI (n := 0) (by decide) (by decide)) ?_
  refine tv_iload C dk_L_law_1997 rfl ?_
  refine tv_i2l C dk_L_law_1999 ?_
  refine tv_lcmp C dk_L_law_2000 ?_
  refine tv_if_eq C dk_L_law_2001 (fun _ => ?_) (fun h => tv_no (h (q3 h1)))
  refine tv_goto C dk_L_law_2006 ?_
  refine tv_widen (k' := k + 2) (sl' := sl + 12) (by omega) (by omega) ?_
  exact tv_drop (L2 := [some (.ref b), some (.ref (E.G.2.1 + 0)), some (.ref (E.G.2.1 + 249)), some (.ref (E.G.2.1 + 257)), some (.ref (E.G.2.1 + 258)), some (.int (nI i)), none, none, none]) (by simp [tvSubL]) kk
/-- case 35 -/
def lq_35 (M : tvM) (a1 a2 a3 : Int32) : Prop := (q_L_eventNumber M a1) ∧ (q_X9_eventNumber ((f_L_eventNumber M a1).2) a1) ∧ ((f_X9_thrown ((f_X9_eventNumber ((f_L_eventNumber M a1).2) a1).2)) = (f_L_eventNumber M a1).1) ∧ ((f_L_eventNumber M a1).1 = 0 → (lg_cmp (tgl ((f_X9_eventNumber ((f_L_eventNumber M a1).2) a1).2) 257 0) (((f_X9_eventNumber ((f_L_eventNumber M a1).2) a1).1).toInt64)) = 0) ∧ True
def lm_35 (M : tvM) (a1 a2 a3 : Int32) : tvM := (f_X9_eventNumber ((f_L_eventNumber M a1).2) a1).2
theorem w_law_35 {E : tvE} {b Ln i k sl : Nat} {xs : Nat → Int32} (C : tvC E RL cL_law 9 (some .boolean) 1000 100000 1000000 []) (hN : tvNcE E.s) (hX : tvScr E b Ln xs) (hi : i + 4 ≤ Ln) (hk : k + 2 ≤ 100000) (hs : sl + 12 ≤ 1000000) (M : tvM) (hq : lq_35 M (xs (i + 1)) (xs (i + 2)) (xs (i + 3))) (kk : tv_W E tvP0 (k + 2) (sl + 12) (lm_35 M (xs (i + 1)) (xs (i + 2)) (xs (i + 3))) 2545 [some (.ref b), some (.ref (E.G.2.1 + 0)), some (.ref (E.G.2.1 + 249)), some (.ref (E.G.2.1 + 257)), some (.ref (E.G.2.1 + 258)), some (.int (nI i)), none, none, none] []) : tv_W E tvP0 k sl M 2009 [some (.ref b), some (.ref (E.G.2.1 + 0)), some (.ref (E.G.2.1 + 249)), some (.ref (E.G.2.1 + 257)), some (.ref (E.G.2.1 + 258)), some (.int (nI i)), none, none, none] [] := by
  have hk0 : k ≤ 100000 := by omega
  have hs0 : sl ≤ 1000000 := by omega
  obtain ⟨q0, q1, q2, q3, -⟩ := hq
  refine tv_aload_n C dk_L_law_2009 rfl ?_
  refine tv_aload_n C dk_L_law_2010 rfl ?_
  refine tv_iload C dk_L_law_2011 rfl ?_
  refine tv_iconst (v := 1) C dk_L_law_2013 (by decide) ?_
  refine tv_iadd C dk_L_law_2014 ?_
  refine tv_sld (j := i + 1) (tvl_1 hi hX.2.2.2) C hX dk_L_law_2015 (tvli_1 hi hX.2.2.2) ?_
  refine tv_aload_n C dk_L_law_2016 rfl ?_
  refine tv_callSW C hN dk_L_law_2017 ml_RL_269 yw_L_eventNumber yi_L_eventNumber (m_L_eventNumber _ M (xs (i + 1)) q0) rfl rfl (Nat.le_of_ble_eq_true rfl) (Nat.le_of_ble_eq_true rfl) (Nat.le_of_ble_eq_true rfl) (by omega) (by omega) rfl rfl rfl ?_
  refine tv_istore (L' := [_, _, _, _, _, _, _, _, _]) (hn := by decide) (hlt := (Nat.le_of_ble_eq_true rfl)) (hno := rfl) C dk_L_law_2020 rfl ?_
  refine tv_aload_n C dk_L_law_2022 rfl ?_
  refine tv_aload_n C dk_L_law_2023 rfl ?_
  refine tv_iload C dk_L_law_2024 rfl ?_
  refine tv_iconst (v := 1) C dk_L_law_2026 (by decide) ?_
  refine tv_iadd C dk_L_law_2027 ?_
  refine tv_sld (j := i + 1) (tvl_1 hi hX.2.2.2) C hX dk_L_law_2028 (tvli_1 hi hX.2.2.2) ?_
  refine tv_cV1 C dk_L_law_2029 ml_RL_271 yk_X9_eventNumber yi_X9_eventNumber (m_X9_eventNumber _ ((f_L_eventNumber M (xs (i + 1))).2) (xs (i + 1)) q1) (Nat.le_of_ble_eq_true rfl) rfl rfl rfl rfl (Nat.le_of_ble_eq_true rfl) (Nat.le_of_ble_eq_true rfl) (Nat.le_of_ble_eq_true rfl) (by omega) (by omega) ?_
  refine tv_istore (L' := [_, _, _, _, _, _, _, _, _]) (hn := by decide) (hlt := (Nat.le_of_ble_eq_true rfl)) (hno := rfl) C dk_L_law_2032 rfl ?_
  refine tv_aload_n C dk_L_law_2034 rfl ?_
  refine tv_cV1 C dk_L_law_2035 ml_RL_152 yk_X9_thrown yi_X9_thrown (m_X9_thrown _ ((f_X9_eventNumber ((f_L_eventNumber M (xs (i + 1))).2) (xs (i + 1))).2)) (Nat.le_of_ble_eq_true rfl) rfl rfl rfl rfl (Nat.le_of_ble_eq_true rfl) (Nat.le_of_ble_eq_true rfl) (Nat.le_of_ble_eq_true rfl) (by omega) (by omega) ?_
  refine tv_iload C dk_L_law_2038 rfl ?_
  refine tv_icmp_eq C dk_L_law_2040 (fun _ => ?_) (fun h => tv_no (h q2))
  refine tv_iload C dk_L_law_2045 rfl ?_
  refine tv_if_ne C dk_L_law_2047 (fun _ => ?_) (fun h1 => ?_)
  · refine tv_goto C dk_L_law_2062 ?_
    refine tv_widen (k' := k + 2) (sl' := sl + 12) (by omega) (by omega) ?_
    exact tv_drop (L2 := [some (.ref b), some (.ref (E.G.2.1 + 0)), some (.ref (E.G.2.1 + 249)), some (.ref (E.G.2.1 + 257)), some (.ref (E.G.2.1 + 258)), some (.int (nI i)), none, none, none]) (by simp [tvSubL]) kk
  refine tv_aload_n C dk_L_law_2050 rfl ?_
  refine tv_iconst (v := 0) C dk_L_law_2051 (by decide) ?_
  refine tv_lald (j := 0) rfl C dk_L_law_2052 (Nat.le_of_ble_eq_true rfl) rfl (vp_in_nI (n := 0) (by decide) (by decide)) ?_
  refine tv_iload C dk_L_law_2053 rfl ?_
  refine tv_i2l C dk_L_law_2055 ?_
  refine tv_lcmp C dk_L_law_2056 ?_
  refine tv_if_eq C dk_L_law_2057 (fun _ => ?_) (fun h => tv_no (h (q3 h1)))
  refine tv_goto C dk_L_law_2062 ?_
  refine tv_widen (k' := k + 2) (sl' := sl + 12) (by omega) (by omega) ?_
  exact tv_drop (L2 := [some (.ref b), some (.ref (E.G.2.1 + 0)), some (.ref (E.G.2.1 + 249)), some (.ref (E.G.2.1 + 257)), some (.ref (E.G.2.1 + 258)), some (.int (nI i)), none, none, none]) (by simp [tvSubL]) kk
