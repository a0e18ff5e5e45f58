/-- TideVault.run()I -/
def sb_X8_run (y1 : Int32) (y2 : Int32) (y3 : Int32) (y4 : Int32) (y5 : Int32) (y6 : Int32) (y7 : Int32) (M : tvM) : (Int32 × Int32 × Int32 × Int32 × Int32 × Int32 × Int32 × tvM) ⊕ (Option String × Int32 × tvM) := (if (tgi M 243 3) ≤ y2 then .inr (none, (tgi (f_X1_commit M) 243 3), (f_X1_commit M)) else (if (f_X6_refusalOfCommand M 1 (f_X5_verbOf M y2) (f_X5_argumentOf M y2 0) (f_X5_argumentOf M y2 1) (f_X5_argumentOf M y2 2)) = 0 then .inl (y1, (y2 + 1), 0, 0, 0, 0, 0, (f_X6_carryOut M 1 (f_X5_verbOf M y2) (f_X5_argumentOf M y2 0) (f_X5_argumentOf M y2 1) (f_X5_argumentOf M y2 2))) else (if (f_X6_refusalOfCommand M 1 (f_X5_verbOf M y2) (f_X5_argumentOf M y2 0) (f_X5_argumentOf M y2 1) (f_X5_argumentOf M y2 2)) = 4 then .inr ((some "java/lang/UnsupportedOperationException"), 0, (tpi (tpi (f_X1_cancel M) 0 8 y2) 0 9 1)) else .inr ((some "java/lang/UnsupportedOperationException"), 0, (tpi (tpi (f_X1_cancel M) 0 8 y2) 0 9 0)))))
def s_X8_run : (Int32 × Int32 × Int32 × Int32 × Int32 × Int32 × Int32 × tvM) → (Int32 × Int32 × Int32 × Int32 × Int32 × Int32 × Int32 × tvM) ⊕ (Option String × Int32 × tvM) := fun q => sb_X8_run q.1 q.2.1 q.2.2.1 q.2.2.2.1 q.2.2.2.2.1 q.2.2.2.2.2.1 q.2.2.2.2.2.2.1 q.2.2.2.2.2.2.2
def e_X8_run (M : tvM) : (Int32 × Int32 × Int32 × Int32 × Int32 × Int32 × Int32 × tvM) ⊕ (Option String × Int32 × tvM) := (if (f_X5_parse M).1 = (-1) then .inl ((f_X5_parse M).1, 0, 0, 0, 0, 0, 0, (f_X1_begin (f_X5_empty ((f_X5_parse M).2)))) else .inr ((some "java/lang/IllegalArgumentException"), 0, (tpi (f_X5_empty ((f_X5_parse M).2)) 0 7 ((f_X5_parse M).1))))
theorem m_X8_run (G : tvG) (M : tvM) (n : Nat) (r : (Option String × Int32 × tvM)) (hs : tvIter (s_X8_run) n (e_X8_run M) = some r) : tvRun G yX8_run cX8_run 8 (some .int) 9 1 6 tvP0 tvP0 [.ref (G.2.1 + 0)] M (tvOx (some (.int r.2.1)) r.1) r.2.2 := by
  refine tvRun.of yk_X8_run rfl [some (.ref (G.2.1 + 0)), none, none, none, none, none, none, none] rfl (Nat.le_of_ble_eq_true rfl) ?_
  intro E hG C hQ; subst hG
  have K : ∀ (n : Nat) (y1 : Int32) (y2 : Int32) (y3 : Int32) (y4 : Int32) (y5 : Int32) (y6 : Int32) (y7 : Int32) (M : tvM), tvIter (s_X8_run) n (.inl (y1, y2, y3, y4, y5, y6, y7, M)) = some r → tv_W E tvP0 0 0 M 49 [some (.ref (E.G.2.1 + 0)), some (.int y1), some (.int y2), none, none, none, none, none] [] := by
    intro n
    induction n with
    | zero => intro y1 y2 y3 y4 y5 y6 y7 M hq; exact (tvIter_0 hq).elim
    | succ n ih =>
      intro y1 y2 y3 y4 y5 y6 y7 M hq
      have hs : tvIter (s_X8_run) n (sb_X8_run y1 y2 y3 y4 y5 y6 y7 M) = some r := by have h9 := tvIter_go hq; exact h9
      refine tv_iload_n C dk_X8_run_49 rfl ?_
      refine tv_aload_n C dk_X8_run_50 rfl ?_
      refine tv_getR (r := 243) C dk_X8_run_51 fl_RX8_32 (Nat.le_of_ble_eq_true rfl) rfl rfl (fun _ _ _ _ => rfl) ?_
      refine tv_getI C dk_X8_run_54 fl_RX8_323 (Nat.le_of_ble_eq_true rfl) rfl (fun _ _ _ _ => rfl) ?_
      refine tv_icmp_ge C dk_X8_run_57 (fun h101 => ?_) (fun h101 => ?_)
      · refine tv_aload_n C dk_X8_run_185 rfl ?_
        refine tv_getR (r := 61) C dk_X8_run_186 fl_RX8_25 (Nat.le_of_ble_eq_true rfl) rfl rfl (fun _ _ _ _ => rfl) ?_
        refine tv_cV0 C dk_X8_run_189 ml_RX8_350 yk_X1_commit yi_X1_commit (m_X1_commit _ M) (Nat.le_of_ble_eq_true rfl) rfl rfl rfl rfl (Nat.le_of_ble_eq_true rfl) (Nat.le_of_ble_eq_true rfl) (Nat.le_of_ble_eq_true rfl) (Nat.le_of_ble_eq_true rfl) (Nat.le_of_ble_eq_true rfl) ?_
        refine tv_aload_n C dk_X8_run_192 rfl ?_
        refine tv_getR (r := 243) C dk_X8_run_193 fl_RX8_32 (Nat.le_of_ble_eq_true rfl) rfl rfl (fun _ _ _ _ => rfl) ?_
        refine tv_getI C dk_X8_run_196 fl_RX8_323 (Nat.le_of_ble_eq_true rfl) rfl (fun _ _ _ _ => rfl) ?_
        exact tv_iret C hQ dk_X8_run_199 rfl (by rw [sb_X8_run, if_pos h101] at hs; rw [← tvIter_out hs]; rfl) (by rw [sb_X8_run, if_pos h101] at hs; rw [← tvIter_out hs])
      refine tv_aload_n C dk_X8_run_60 rfl ?_
      refine tv_getR (r := 243) C dk_X8_run_61 fl_RX8_32 (Nat.le_of_ble_eq_true rfl) rfl rfl (fun _ _ _ _ => rfl) ?_
      refine tv_iload_n C dk_X8_run_64 rfl ?_
      refine tv_cV1 C dk_X8_run_65 ml_RX8_324 yk_X5_verbOf yi_X5_verbOf (m_X5_verbOf _ M y2) (Nat.le_of_ble_eq_true rfl) rfl rfl rfl rfl (Nat.le_of_ble_eq_true rfl) (Nat.le_of_ble_eq_true rfl) (Nat.le_of_ble_eq_true rfl) (Nat.le_of_ble_eq_true rfl) (Nat.le_of_ble_eq_true rfl) ?_
      refine tv_istore_n (L' := [_, _, _, _, _, _, _, _]) (hn := by decide) (hlt := (Nat.le_of_ble_eq_true rfl)) (hno := rfl) C dk_X8_run_68 rfl ?_
      refine tv_aload_n C dk_X8_run_69 rfl ?_
      refine tv_getR (r := 243) C dk_X8_run_70 fl_RX8_32 (Nat.le_of_ble_eq_true rfl) rfl rfl (fun _ _ _ _ => rfl) ?_
      refine tv_iload_n C dk_X8_run_73 rfl ?_
      refine tv_iconst (v := 0) C dk_X8_run_74 (by decide) ?_
      refine tv_cV1 C dk_X8_run_75 ml_RX8_327 yk_X5_argumentOf yi_X5_argumentOf (m_X5_argumentOf _ M y2 0) (Nat.le_of_ble_eq_true rfl) rfl rfl rfl rfl (Nat.le_of_ble_eq_true rfl) (Nat.le_of_ble_eq_true rfl) (Nat.le_of_ble_eq_true rfl) (Nat.le_of_ble_eq_true rfl) (Nat.le_of_ble_eq_true rfl) ?_
      refine tv_istore (L' := [_, _, _, _, _, _, _, _]) (hn := by decide) (hlt := (Nat.le_of_ble_eq_true rfl)) (hno := rfl) C dk_X8_run_78 rfl ?_
      refine tv_aload_n C dk_X8_run_80 rfl ?_
      refine tv_getR (r := 243) C dk_X8_run_81 fl_RX8_32 (Nat.le_of_ble_eq_true rfl) rfl rfl (fun _ _ _ _ => rfl) ?_
      refine tv_iload_n C dk_X8_run_84 rfl ?_
      refine tv_iconst (v := 1) C dk_X8_run_85 (by decide) ?_
      refine tv_cV1 C dk_X8_run_86 ml_RX8_327 yk_X5_argumentOf yi_X5_argumentOf (m_X5_argumentOf _ M y2 1) (Nat.le_of_ble_eq_true rfl) rfl rfl rfl rfl (Nat.le_of_ble_eq_true rfl) (Nat.le_of_ble_eq_true rfl) (Nat.le_of_ble_eq_true rfl) (Nat.le_of_ble_eq_true rfl) (Nat.le_of_ble_eq_true rfl) ?_
      refine tv_istore (L' := [_, _, _, _, _, _, _, _]) (hn := by decide) (hlt := (Nat.le_of_ble_eq_true rfl)) (hno := rfl) C dk_X8_run_89 rfl ?_
      refine tv_aload_n C dk_X8_run_91 rfl ?_
      refine tv_getR (r := 243) C dk_X8_run_92 fl_RX8_32 (Nat.le_of_ble_eq_true rfl) rfl rfl (fun _ _ _ _ => rfl) ?_
      refine tv_iload_n C dk_X8_run_95 rfl ?_
      refine tv_iconst (v := 2) C dk_X8_run_96 (by decide) ?_
      refine tv_cV1 C dk_X8_run_97 ml_RX8_327 yk_X5_argumentOf yi_X5_argumentOf (m_X5_argumentOf _ M y2 2) (Nat.le_of_ble_eq_true rfl) rfl rfl rfl rfl (Nat.le_of_ble_eq_true rfl) (Nat.le_of_ble_eq_true rfl) (Nat.le_of_ble_eq_true rfl) (Nat.le_of_ble_eq_true rfl) (Nat.le_of_ble_eq_true rfl) ?_
      refine tv_istore (L' := [_, _, _, _, _, _, _, _]) (hn := by decide) (hlt := (Nat.le_of_ble_eq_true rfl)) (hno := rfl) C dk_X8_run_100 rfl ?_
      refine tv_aload_n C dk_X8_run_102 rfl ?_
      refine tv_getR (r := 1) C dk_X8_run_103 fl_RX8_12 (Nat.le_of_ble_eq_true rfl) rfl rfl (fun _ _ _ _ => rfl) ?_
      refine tv_iload_n C dk_X8_run_106 rfl ?_
      refine tv_iload C dk_X8_run_107 rfl ?_
      refine tv_iload C dk_X8_run_109 rfl ?_
      refine tv_iload C dk_X8_run_111 rfl ?_
      refine tv_cV1 C dk_X8_run_113 ml_RX8_330 yk_X6_refusalOfCommand yi_X6_refusalOfCommand (m_X6_refusalOfCommand _ M tvSBn_1 (f_X5_verbOf M y2) (f_X5_argumentOf M y2 0) (f_X5_argumentOf M y2 1) (f_X5_argumentOf M y2 2)) (tvSB_sh tvSBn_1 0 (by decide)).2 (tvSB_sh tvSBn_1 0 (by decide)).1 rfl rfl rfl (Nat.le_of_ble_eq_true rfl) (Nat.le_of_ble_eq_true rfl) (Nat.le_of_ble_eq_true rfl) (Nat.le_of_ble_eq_true rfl) (Nat.le_of_ble_eq_true rfl) ?_
      refine tv_istore (L' := [_, _, _, _, _, _, _, _]) (hn := by decide) (hlt := (Nat.le_of_ble_eq_true rfl)) (hno := rfl) C dk_X8_run_116 rfl ?_
      refine tv_iload C dk_X8_run_118 rfl ?_
      refine tv_if_eq C dk_X8_run_120 (fun h102 => ?_) (fun h102 => ?_)
      · refine tv_aload_n C dk_X8_run_165 rfl ?_
        refine tv_getR (r := 1) C dk_X8_run_166 fl_RX8_12 (Nat.le_of_ble_eq_true rfl) rfl rfl (fun _ _ _ _ => rfl) ?_
        refine tv_iload_n C dk_X8_run_169 rfl ?_
        refine tv_iload C dk_X8_run_170 rfl ?_
        refine tv_iload C dk_X8_run_172 rfl ?_
        refine tv_iload C dk_X8_run_174 rfl ?_
        refine tv_cV0 C dk_X8_run_176 ml_RX8_346 yk_X6_carryOut yi_X6_carryOut (m_X6_carryOut _ M tvSBn_1 (f_X5_verbOf M y2) (f_X5_argumentOf M y2 0) (f_X5_argumentOf M y2 1) (f_X5_argumentOf M y2 2)) (tvSB_sh tvSBn_1 0 (by decide)).2 (tvSB_sh tvSBn_1 0 (by decide)).1 rfl rfl rfl (Nat.le_of_ble_eq_true rfl) (Nat.le_of_ble_eq_true rfl) (Nat.le_of_ble_eq_true rfl) (Nat.le_of_ble_eq_true rfl) (Nat.le_of_ble_eq_true rfl) ?_
        refine tv_iinc (v := (y2 + 1)) (L' := [_, _, _, _, _, _, _, _]) (hn := by decide) (hlt := (Nat.le_of_ble_eq_true rfl)) (hno := rfl) C dk_X8_run_179 rfl rfl rfl ?_
        refine tv_goto C dk_X8_run_182 ?_
        refine tv_drop (L2 := [some (.ref (E.G.2.1 + 0)), some (.int y1), some (.int (y2 + 1)), none, none, none, none, none]) (by simp [tvSubL]) ?_
        exact (ih y1 (y2 + 1) 0 0 0 0 0 (f_X6_carryOut M 1 (f_X5_verbOf M y2) (f_X5_argumentOf M y2 0) (f_X5_argumentOf M y2 1) (f_X5_argumentOf M y2 2)) (by rw [sb_X8_run, if_neg h101, if_pos h102] at hs; exact hs))
      refine tv_aload_n C dk_X8_run_123 rfl ?_
      refine tv_getR (r := 61) C dk_X8_run_124 fl_RX8_25 (Nat.le_of_ble_eq_true rfl) rfl rfl (fun _ _ _ _ => rfl) ?_
      refine tv_aload_n C dk_X8_run_127 rfl ?_
      refine tv_getR (r := 1) C dk_X8_run_128 fl_RX8_12 (Nat.le_of_ble_eq_true rfl) rfl rfl (fun _ _ _ _ => rfl) ?_
      refine tv_cV0 C dk_X8_run_131 ml_RX8_334 yk_X1_cancel yi_X1_cancel (m_X1_cancel _ M) (Nat.le_of_ble_eq_true rfl) rfl rfl rfl rfl (Nat.le_of_ble_eq_true rfl) (Nat.le_of_ble_eq_true rfl) (Nat.le_of_ble_eq_true rfl) (Nat.le_of_ble_eq_true rfl) (Nat.le_of_ble_eq_true rfl) ?_
      refine tv_aload_n C dk_X8_run_134 rfl ?_
      refine tv_iload_n C dk_X8_run_135 rfl ?_
      refine tv_putI C tvP0_ex dk_X8_run_136 fl_RX8_47 fw_8_8 (Nat.le_of_ble_eq_true rfl) rfl rfl (fun _ _ _ _ _ => rfl) rfl rfl ?_
      refine tv_aload_n C dk_X8_run_139 rfl ?_
      refine tv_iload C dk_X8_run_140 rfl ?_
      refine tv_iconst (v := 4) C dk_X8_run_142 (by decide) ?_
      refine tv_icmp_ne C dk_X8_run_143 (fun h103 => ?_) (fun h103 => ?_)
      · refine tv_iconst (v := 0) C dk_X8_run_150 (by decide) ?_
        refine tv_putI C tvP0_ex dk_X8_run_151 fl_RX8_337 fw_8_9 (Nat.le_of_ble_eq_true rfl) rfl rfl (fun _ _ _ _ _ => rfl) rfl rfl ?_
        exact tv_throwW C tvP0_ex hQ th_RX8_341_343 dk_X8_run_154 dk_X8_run_157 dk_X8_run_158 dk_X8_run_161 dk_X8_run_164 (Nat.le_of_ble_eq_true rfl) (Nat.le_of_ble_eq_true rfl) (by rw [sb_X8_run, if_neg h101, if_neg h102, if_neg h103] at hs; rw [← tvIter_out hs]; rfl) (by rw [sb_X8_run, if_neg h101, if_neg h102, if_neg h103] at hs; rw [← tvIter_out hs])
      refine tv_iconst (v := 1) C dk_X8_run_146 (by decide) ?_
      refine tv_goto C dk_X8_run_147 ?_
      refine tv_putI C tvP0_ex dk_X8_run_151 fl_RX8_337 fw_8_9 (Nat.le_of_ble_eq_true rfl) rfl rfl (fun _ _ _ _ _ => rfl) rfl rfl ?_
      exact tv_throwW C tvP0_ex hQ th_RX8_341_343 dk_X8_run_154 dk_X8_run_157 dk_X8_run_158 dk_X8_run_161 dk_X8_run_164 (Nat.le_of_ble_eq_true rfl) (Nat.le_of_ble_eq_true rfl) (by rw [sb_X8_run, if_neg h101, if_neg h102, if_pos h103] at hs; rw [← tvIter_out hs]; rfl) (by rw [sb_X8_run, if_neg h101, if_neg h102, if_pos h103] at hs; rw [← tvIter_out hs])
  refine tv_aload_n C dk_X8_run_0 rfl ?_
  refine tv_getR (r := 243) C dk_X8_run_1 fl_RX8_32 (Nat.le_of_ble_eq_true rfl) rfl rfl (fun _ _ _ _ => rfl) ?_
  refine tv_cV1 C dk_X8_run_4 ml_RX8_314 yk_X5_parse yi_X5_parse (n_X5_parse _ M) (Nat.le_of_ble_eq_true rfl) rfl rfl rfl rfl (Nat.le_of_ble_eq_true rfl) (Nat.le_of_ble_eq_true rfl) (Nat.le_of_ble_eq_true rfl) (Nat.le_of_ble_eq_true rfl) (Nat.le_of_ble_eq_true rfl) ?_
  refine tv_istore_n (L' := [_, _, _, _, _, _, _, _]) (hn := by decide) (hlt := (Nat.le_of_ble_eq_true rfl)) (hno := rfl) C dk_X8_run_7 rfl ?_
  refine tv_aload_n C dk_X8_run_8 rfl ?_
  refine tv_getR (r := 243) C dk_X8_run_9 fl_RX8_32 (Nat.le_of_ble_eq_true rfl) rfl rfl (fun _ _ _ _ => rfl) ?_
  refine tv_cV0 C dk_X8_run_12 ml_RX8_317 yk_X5_empty yi_X5_empty (m_X5_empty _ ((f_X5_parse M).2)) (Nat.le_of_ble_eq_true rfl) rfl rfl rfl rfl (Nat.le_of_ble_eq_true rfl) (Nat.le_of_ble_eq_true rfl) (Nat.le_of_ble_eq_true rfl) (Nat.le_of_ble_eq_true rfl) (Nat.le_of_ble_eq_true rfl) ?_
  refine tv_iload_n C dk_X8_run_15 rfl ?_
  refine tv_iconst (v := (-1)) C dk_X8_run_16 (by decide) ?_
  refine tv_icmp_eq C dk_X8_run_17 (fun h1 => ?_) (fun h1 => ?_)
  · refine tv_aload_n C dk_X8_run_36 rfl ?_
    refine tv_getR (r := 61) C dk_X8_run_37 fl_RX8_25 (Nat.le_of_ble_eq_true rfl) rfl rfl (fun _ _ _ _ => rfl) ?_
    refine tv_aload_n C dk_X8_run_40 rfl ?_
    refine tv_getR (r := 1) C dk_X8_run_41 fl_RX8_12 (Nat.le_of_ble_eq_true rfl) rfl rfl (fun _ _ _ _ => rfl) ?_
    refine tv_cV0 C dk_X8_run_44 ml_RX8_320 yk_X1_begin yi_X1_begin (m_X1_begin _ (f_X5_empty ((f_X5_parse M).2))) (Nat.le_of_ble_eq_true rfl) rfl rfl rfl rfl (Nat.le_of_ble_eq_true rfl) (Nat.le_of_ble_eq_true rfl) (Nat.le_of_ble_eq_true rfl) (Nat.le_of_ble_eq_true rfl) (Nat.le_of_ble_eq_true rfl) ?_
    refine tv_iconst (v := 0) C dk_X8_run_47 (by decide) ?_
    refine tv_istore_n (L' := [_, _, _, _, _, _, _, _]) (hn := by decide) (hlt := (Nat.le_of_ble_eq_true rfl)) (hno := rfl) C dk_X8_run_48 rfl ?_
    exact (K n ((f_X5_parse M).1) 0 0 0 0 0 0 (f_X1_begin (f_X5_empty ((f_X5_parse M).2))) (by rw [e_X8_run, if_pos h1] at hs; exact hs))
  refine tv_aload_n C dk_X8_run_20 rfl ?_
  refine tv_iload_n C dk_X8_run_21 rfl ?_
  refine tv_putI C tvP0_ex dk_X8_run_22 fl_RX8_43 fw_8_7 (Nat.le_of_ble_eq_true rfl) rfl rfl (fun _ _ _ _ _ => rfl) rfl rfl ?_
  exact tv_throwW C tvP0_ex hQ th_RX8_179_318 dk_X8_run_25 dk_X8_run_28 dk_X8_run_29 dk_X8_run_32 dk_X8_run_35 (Nat.le_of_ble_eq_true rfl) (Nat.le_of_ble_eq_true rfl) (by rw [e_X8_run, if_neg h1] at hs; rw [← tvIter_out hs]; rfl) (by rw [e_X8_run, if_neg h1] at hs; rw [← tvIter_out hs])
def tvRuR (M : tvM) (y : Int32) : Int32 := f_X6_refusalOfCommand M 1 (f_X5_verbOf M y) (f_X5_argumentOf M y 0) (f_X5_argumentOf M y 1) (f_X5_argumentOf M y 2)
def tvRuC (M : tvM) (y : Int32) : tvM := f_X6_carryOut M 1 (f_X5_verbOf M y) (f_X5_argumentOf M y 0) (f_X5_argumentOf M y 1) (f_X5_argumentOf M y 2)
def tvRuE (M : tvM) : Option String × Int32 × tvM := (none, tgi (f_X1_commit M) 243 3, f_X1_commit M)
def tvRuX (M : tvM) (y : Int32) : Option String × Int32 × tvM := (some "java/lang/UnsupportedOperationException", 0, tpi (tpi (f_X1_cancel M) 0 8 y) 0 9 (if tvRuR M y = 4 then 1 else 0))
def tvRu : Nat → Nat → tvM → Option String × Int32 × tvM
  | 0, _, M => tvRuE M
  | n + 1, i, M => if tgi M 243 3 ≤ nI i then tvRuE M else if tvRuR M (nI i) = 0 then tvRu n (i + 1) (tvRuC M (nI i)) else tvRuX M (nI i)
theorem tvRu_0 (i : Nat) (M : tvM) : tvRu 0 i M = tvRuE M := rfl
theorem tvRu_s (n i : Nat) (M : tvM) : tvRu (n + 1) i M = if tgi M 243 3 ≤ nI i then tvRuE M else if tvRuR M (nI i) = 0 then tvRu n (i + 1) (tvRuC M (nI i)) else tvRuX M (nI i) := rfl
theorem tvRu_run : ∀ n i y1 (M : tvM), i + n = 2147483647 → ∃ m, tvIter s_X8_run m (.inl (y1, nI i, 0, 0, 0, 0, 0, M)) = some (tvRu n i M) := by
  intro n
  induction n with
  | zero =>
    intro i y1 M hi
    have h : tgi M 243 3 ≤ nI i := by
      have h1 := Int32.toInt_lt (tgi M 243 3)
      rw [Int32.le_iff_toInt_le, nI_toInt (by omega)]
      omega
    rw [tvRu_0]
    refine tvIter_e ?_
    simp only [s_X8_run, sb_X8_run, if_pos h, tvRuE]
  | succ n ih =>
    intro i y1 M hi
    rw [tvRu_s]
    by_cases h : tgi M 243 3 ≤ nI i
    · rw [if_pos h]
      refine tvIter_e ?_
      simp only [s_X8_run, sb_X8_run, if_pos h, tvRuE]
    · rw [if_neg h]
      by_cases h1 : tvRuR M (nI i) = 0
      · rw [if_pos h1]
        refine tvIter_1 (s' := (y1, nI (i + 1), 0, 0, 0, 0, 0, tvRuC M (nI i))) ?_ (ih (i + 1) y1 _ (by omega))
        unfold tvRuR at h1
        simp only [s_X8_run, sb_X8_run, if_neg h, if_pos h1, nI_1, tvRuC]
      · rw [if_neg h1]
        refine tvIter_e ?_
        unfold tvRuX tvRuR
        unfold tvRuR at h1
        by_cases h2 : f_X6_refusalOfCommand M 1 (f_X5_verbOf M (nI i)) (f_X5_argumentOf M (nI i) 0) (f_X5_argumentOf M (nI i) 1) (f_X5_argumentOf M (nI i) 2) = 4
        · simp only [s_X8_run, sb_X8_run, if_neg h, if_neg h1, if_pos h2]
        · simp only [s_X8_run, sb_X8_run, if_neg h, if_neg h1, if_neg h2]
def f_X8_run (M : tvM) : Option String × Int32 × tvM := if (f_X5_parse M).1 = (-1) then tvRu 2147483647 0 (f_X1_begin (f_X5_empty ((f_X5_parse M).2))) else (some "java/lang/IllegalArgumentException", 0, tpi (f_X5_empty ((f_X5_parse M).2)) 0 7 ((f_X5_parse M).1))
theorem r_X8_run (M : tvM) : ∃ n, tvIter (s_X8_run) n (e_X8_run M) = some (f_X8_run M) := by
  unfold e_X8_run f_X8_run
  split
  · exact tvRu_run 2147483647 0 _ _ (by omega)
  · exact ⟨0, rfl⟩
theorem n_X8_run (G : tvG) (M : tvM) : tvRun G yX8_run cX8_run 8 (some .int) 9 1 6 tvP0 tvP0 [.ref (G.2.1 + 0)] M (tvOx (some (.int (f_X8_run M).2.1)) (f_X8_run M).1) ((f_X8_run M).2.2) := by
  obtain ⟨n, hn⟩ := r_X8_run M 
  exact m_X8_run G M n _ hn
