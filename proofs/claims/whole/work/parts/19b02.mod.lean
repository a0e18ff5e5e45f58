/-- TideVaultModel.addBox(III)I -/
def f_X9_addBox (M : tvM) (x1 : Int32) (x2 : Int32) (x3 : Int32) : Int32 × tvM := ((f_X9_ends ((f_X9_boxed (f_X9_keeps M) x1 x2 x3).2) ((f_X9_boxed (f_X9_keeps M) x1 x2 x3).1)).1, (f_X9_ends ((f_X9_boxed (f_X9_keeps M) x1 x2 x3).2) ((f_X9_boxed (f_X9_keeps M) x1 x2 x3).1)).2)
def q_X9_addBox (M : tvM) (x1 : Int32) (x2 : Int32) (x3 : Int32) : Prop := ((q_X9_boxed (f_X9_keeps M) x1 x2 x3) ∧ ((q_X9_ends ((f_X9_boxed (f_X9_keeps M) x1 x2 x3).2) ((f_X9_boxed (f_X9_keeps M) x1 x2 x3).1)) ∧ True))
theorem m_X9_addBox (G : tvG) (M : tvM) (x1 : Int32) (x2 : Int32) (x3 : Int32) (hq : q_X9_addBox M x1 x2 x3) : tvRun G yX9_addBox cX9_addBox 4 (some .int) 4 0 0 tvP0 tvP0 [.ref (G.2.1 + 249), .int x1, .int x2, .int x3] M (.inl (some (.int (f_X9_addBox M x1 x2 x3).1))) ((f_X9_addBox M x1 x2 x3).2) := by
  refine tvRun.of yk_X9_addBox rfl [some (.ref (G.2.1 + 249)), some (.int x1), some (.int x2), some (.int x3)] rfl (Nat.le_of_ble_eq_true rfl) ?_
  intro E hG C hQ; subst hG
  refine tv_aload_n C dk_X9_addBox_0 rfl ?_
  refine tv_cV0 C dk_X9_addBox_1 ml_RX9_70 yk_X9_keeps yi_X9_keeps (m_X9_keeps _ M) (Nat.le_of_ble_eq_true rfl) rfl rfl rfl rfl (Nat.le_of_ble_eq_true rfl) (Nat.le_of_ble_eq_true rfl) (Nat.le_of_ble_eq_true rfl) (Nat.le_of_ble_eq_true rfl) (Nat.le_of_ble_eq_true rfl) ?_
  refine tv_aload_n C dk_X9_addBox_4 rfl ?_
  refine tv_aload_n C dk_X9_addBox_5 rfl ?_
  refine tv_iload_n C dk_X9_addBox_6 rfl ?_
  refine tv_iload_n C dk_X9_addBox_7 rfl ?_
  refine tv_iload_n C dk_X9_addBox_8 rfl ?_
  have q1 := hq.2
  refine tv_cV1 C dk_X9_addBox_9 ml_RX9_87 yk_X9_boxed yi_X9_boxed (m_X9_boxed _ (f_X9_keeps M) x1 x2 x3 hq.1) (Nat.le_of_ble_eq_true rfl) rfl rfl rfl rfl (Nat.le_of_ble_eq_true rfl) (Nat.le_of_ble_eq_true rfl) (Nat.le_of_ble_eq_true rfl) (Nat.le_of_ble_eq_true rfl) (Nat.le_of_ble_eq_true rfl) ?_
  have q2 := q1.2
  refine tv_cV1 C dk_X9_addBox_12 ml_RX9_77 yk_X9_ends yi_X9_ends (m_X9_ends _ ((f_X9_boxed (f_X9_keeps M) x1 x2 x3).2) ((f_X9_boxed (f_X9_keeps M) x1 x2 x3).1) q1.1) (Nat.le_of_ble_eq_true rfl) rfl rfl rfl rfl (Nat.le_of_ble_eq_true rfl) (Nat.le_of_ble_eq_true rfl) (Nat.le_of_ble_eq_true rfl) (Nat.le_of_ble_eq_true rfl) (Nat.le_of_ble_eq_true rfl) ?_
  exact tv_iret C hQ dk_X9_addBox_15 rfl (by rw [f_X9_addBox]) (by rw [f_X9_addBox])
/-- TideVaultModel.setTide(II)I -/
def f_X9_setTide (M : tvM) (x1 : Int32) (x2 : Int32) : Int32 × tvM := ((f_X9_ends ((f_X9_tides (f_X9_keeps M) x1 x2).2) ((f_X9_tides (f_X9_keeps M) x1 x2).1)).1, (f_X9_ends ((f_X9_tides (f_X9_keeps M) x1 x2).2) ((f_X9_tides (f_X9_keeps M) x1 x2).1)).2)
def q_X9_setTide (M : tvM) (x1 : Int32) (x2 : Int32) : Prop := ((q_X9_ends ((f_X9_tides (f_X9_keeps M) x1 x2).2) ((f_X9_tides (f_X9_keeps M) x1 x2).1)) ∧ True)
theorem m_X9_setTide (G : tvG) (M : tvM) (x1 : Int32) (x2 : Int32) (hq : q_X9_setTide M x1 x2) : tvRun G yX9_setTide cX9_setTide 3 (some .int) 4 0 0 tvP0 tvP0 [.ref (G.2.1 + 249), .int x1, .int x2] M (.inl (some (.int (f_X9_setTide M x1 x2).1))) ((f_X9_setTide M x1 x2).2) := by
  refine tvRun.of yk_X9_setTide rfl [some (.ref (G.2.1 + 249)), some (.int x1), some (.int x2)] rfl (Nat.le_of_ble_eq_true rfl) ?_
  intro E hG C hQ; subst hG
  refine tv_aload_n C dk_X9_setTide_0 rfl ?_
  refine tv_cV0 C dk_X9_setTide_1 ml_RX9_70 yk_X9_keeps yi_X9_keeps (m_X9_keeps _ M) (Nat.le_of_ble_eq_true rfl) rfl rfl rfl rfl (Nat.le_of_ble_eq_true rfl) (Nat.le_of_ble_eq_true rfl) (Nat.le_of_ble_eq_true rfl) (Nat.le_of_ble_eq_true rfl) (Nat.le_of_ble_eq_true rfl) ?_
  refine tv_aload_n C dk_X9_setTide_4 rfl ?_
  refine tv_aload_n C dk_X9_setTide_5 rfl ?_
  refine tv_iload_n C dk_X9_setTide_6 rfl ?_
  refine tv_iload_n C dk_X9_setTide_7 rfl ?_
  refine tv_cV1 C dk_X9_setTide_8 ml_RX9_91 yk_X9_tides yi_X9_tides (m_X9_tides _ (f_X9_keeps M) x1 x2) (Nat.le_of_ble_eq_true rfl) rfl rfl rfl rfl (Nat.le_of_ble_eq_true rfl) (Nat.le_of_ble_eq_true rfl) (Nat.le_of_ble_eq_true rfl) (Nat.le_of_ble_eq_true rfl) (Nat.le_of_ble_eq_true rfl) ?_
  have q1 := hq.2
  refine tv_cV1 C dk_X9_setTide_11 ml_RX9_77 yk_X9_ends yi_X9_ends (m_X9_ends _ ((f_X9_tides (f_X9_keeps M) x1 x2).2) ((f_X9_tides (f_X9_keeps M) x1 x2).1) hq.1) (Nat.le_of_ble_eq_true rfl) rfl rfl rfl rfl (Nat.le_of_ble_eq_true rfl) (Nat.le_of_ble_eq_true rfl) (Nat.le_of_ble_eq_true rfl) (Nat.le_of_ble_eq_true rfl) (Nat.le_of_ble_eq_true rfl) ?_
  exact tv_iret C hQ dk_X9_setTide_14 rfl (by rw [f_X9_setTide]) (by rw [f_X9_setTide])
/-- TideVaultModel.turnKey(III)C -/
def f_X9_turnKey (M : tvM) (x1 : Int32) (x2 : Int32) (x3 : Int32) : Int32 × tvM := ((((f_X9_endsTold ((f_X9_turns (f_X9_keeps M) x1 x2 x3).2) ((f_X9_turns (f_X9_keeps M) x1 x2 x3).1)).1).toUInt32 % 65536).toInt32, (f_X9_endsTold ((f_X9_turns (f_X9_keeps M) x1 x2 x3).2) ((f_X9_turns (f_X9_keeps M) x1 x2 x3).1)).2)
def q_X9_turnKey (M : tvM) (x1 : Int32) (x2 : Int32) (x3 : Int32) : Prop := ((q_X9_turns (f_X9_keeps M) x1 x2 x3) ∧ ((q_X9_endsTold ((f_X9_turns (f_X9_keeps M) x1 x2 x3).2) ((f_X9_turns (f_X9_keeps M) x1 x2 x3).1)) ∧ True))
theorem m_X9_turnKey (G : tvG) (M : tvM) (x1 : Int32) (x2 : Int32) (x3 : Int32) (hq : q_X9_turnKey M x1 x2 x3) : tvRun G yX9_turnKey cX9_turnKey 4 (some .char) 7 0 0 tvP0 tvP0 [.ref (G.2.1 + 249), .int x1, .int x2, .int x3] M (.inl (some (.int (f_X9_turnKey M x1 x2 x3).1))) ((f_X9_turnKey M x1 x2 x3).2) := by
  refine tvRun.of yk_X9_turnKey rfl [some (.ref (G.2.1 + 249)), some (.int x1), some (.int x2), some (.int x3)] rfl (Nat.le_of_ble_eq_true rfl) ?_
  intro E hG C hQ; subst hG
  refine tv_aload_n C dk_X9_turnKey_0 rfl ?_
  refine tv_cV0 C dk_X9_turnKey_1 ml_RX9_70 yk_X9_keeps yi_X9_keeps (m_X9_keeps _ M) (Nat.le_of_ble_eq_true rfl) rfl rfl rfl rfl (Nat.le_of_ble_eq_true rfl) (Nat.le_of_ble_eq_true rfl) (Nat.le_of_ble_eq_true rfl) (Nat.le_of_ble_eq_true rfl) (Nat.le_of_ble_eq_true rfl) ?_
  refine tv_aload_n C dk_X9_turnKey_4 rfl ?_
  refine tv_aload_n C dk_X9_turnKey_5 rfl ?_
  refine tv_iload_n C dk_X9_turnKey_6 rfl ?_
  refine tv_iload_n C dk_X9_turnKey_7 rfl ?_
  refine tv_iload_n C dk_X9_turnKey_8 rfl ?_
  have q1 := hq.2
  refine tv_cV1 C dk_X9_turnKey_9 ml_RX9_135 yk_X9_turns yi_X9_turns (m_X9_turns _ (f_X9_keeps M) x1 x2 x3 hq.1) (Nat.le_of_ble_eq_true rfl) rfl rfl rfl rfl (Nat.le_of_ble_eq_true rfl) (Nat.le_of_ble_eq_true rfl) (Nat.le_of_ble_eq_true rfl) (Nat.le_of_ble_eq_true rfl) (Nat.le_of_ble_eq_true rfl) ?_
  have q2 := q1.2
  refine tv_cV1 C dk_X9_turnKey_12 ml_RX9_138 yk_X9_endsTold yi_X9_endsTold (m_X9_endsTold _ ((f_X9_turns (f_X9_keeps M) x1 x2 x3).2) ((f_X9_turns (f_X9_keeps M) x1 x2 x3).1) q1.1) (Nat.le_of_ble_eq_true rfl) rfl rfl rfl rfl (Nat.le_of_ble_eq_true rfl) (Nat.le_of_ble_eq_true rfl) (Nat.le_of_ble_eq_true rfl) (Nat.le_of_ble_eq_true rfl) (Nat.le_of_ble_eq_true rfl) ?_
  refine tv_i2c C dk_X9_turnKey_15 ?_
  exact tv_iret C hQ dk_X9_turnKey_16 (pk_nc _) (by rw [f_X9_turnKey]) (by rw [f_X9_turnKey])
theorem fz_X9_turnKey {M : tvM} {x1 : Int32} {x2 : Int32} {x3 : Int32} : narrow .char (.int (f_X9_turnKey M x1 x2 x3).1) = .int ((f_X9_turnKey M x1 x2 x3).1) := by
  unfold f_X9_turnKey; repeat' split
  all_goals try dsimp only
  all_goals first | rfl | exact (pk_nc _)
/-- TideVaultModel.changeCode(III)I -/
def f_X9_changeCode (M : tvM) (x1 : Int32) (x2 : Int32) (x3 : Int32) : Int32 × tvM := ((f_X9_endsTold ((f_X9_codes (f_X9_keeps M) x1 x2 x3).2) ((f_X9_codes (f_X9_keeps M) x1 x2 x3).1)).1, (f_X9_endsTold ((f_X9_codes (f_X9_keeps M) x1 x2 x3).2) ((f_X9_codes (f_X9_keeps M) x1 x2 x3).1)).2)
def q_X9_changeCode (M : tvM) (x1 : Int32) (x2 : Int32) (x3 : Int32) : Prop := ((q_X9_codes (f_X9_keeps M) x1 x2 x3) ∧ ((q_X9_endsTold ((f_X9_codes (f_X9_keeps M) x1 x2 x3).2) ((f_X9_codes (f_X9_keeps M) x1 x2 x3).1)) ∧ True))
theorem m_X9_changeCode (G : tvG) (M : tvM) (x1 : Int32) (x2 : Int32) (x3 : Int32) (hq : q_X9_changeCode M x1 x2 x3) : tvRun G yX9_changeCode cX9_changeCode 4 (some .int) 4 0 0 tvP0 tvP0 [.ref (G.2.1 + 249), .int x1, .int x2, .int x3] M (.inl (some (.int (f_X9_changeCode M x1 x2 x3).1))) ((f_X9_changeCode M x1 x2 x3).2) := by
  refine tvRun.of yk_X9_changeCode rfl [some (.ref (G.2.1 + 249)), some (.int x1), some (.int x2), some (.int x3)] rfl (Nat.le_of_ble_eq_true rfl) ?_
  intro E hG C hQ; subst hG
  refine tv_aload_n C dk_X9_changeCode_0 rfl ?_
  refine tv_cV0 C dk_X9_changeCode_1 ml_RX9_70 yk_X9_keeps yi_X9_keeps (m_X9_keeps _ M) (Nat.le_of_ble_eq_true rfl) rfl rfl rfl rfl (Nat.le_of_ble_eq_true rfl) (Nat.le_of_ble_eq_true rfl) (Nat.le_of_ble_eq_true rfl) (Nat.le_of_ble_eq_true rfl) (Nat.le_of_ble_eq_true rfl) ?_
  refine tv_aload_n C dk_X9_changeCode_4 rfl ?_
  refine tv_aload_n C dk_X9_changeCode_5 rfl ?_
  refine tv_iload_n C dk_X9_changeCode_6 rfl ?_
  refine tv_iload_n C dk_X9_changeCode_7 rfl ?_
  refine tv_iload_n C dk_X9_changeCode_8 rfl ?_
  have q1 := hq.2
  refine tv_cV1 C dk_X9_changeCode_9 ml_RX9_141 yk_X9_codes yi_X9_codes (m_X9_codes _ (f_X9_keeps M) x1 x2 x3 hq.1) (Nat.le_of_ble_eq_true rfl) rfl rfl rfl rfl (Nat.le_of_ble_eq_true rfl) (Nat.le_of_ble_eq_true rfl) (Nat.le_of_ble_eq_true rfl) (Nat.le_of_ble_eq_true rfl) (Nat.le_of_ble_eq_true rfl) ?_
  have q2 := q1.2
  refine tv_cV1 C dk_X9_changeCode_12 ml_RX9_138 yk_X9_endsTold yi_X9_endsTold (m_X9_endsTold _ ((f_X9_codes (f_X9_keeps M) x1 x2 x3).2) ((f_X9_codes (f_X9_keeps M) x1 x2 x3).1) q1.1) (Nat.le_of_ble_eq_true rfl) rfl rfl rfl rfl (Nat.le_of_ble_eq_true rfl) (Nat.le_of_ble_eq_true rfl) (Nat.le_of_ble_eq_true rfl) (Nat.le_of_ble_eq_true rfl) (Nat.le_of_ble_eq_true rfl) ?_
  exact tv_iret C hQ dk_X9_changeCode_15 rfl (by rw [f_X9_changeCode]) (by rw [f_X9_changeCode])
