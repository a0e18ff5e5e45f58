theorem f_X5_wordOf_lt (x : Int32) : f_X5_wordOf x < tvNS := by
  unfold f_X5_wordOf
  repeat' split
  all_goals decide
theorem f_X5_formOf_lt (x : Int32) : f_X5_formOf x < tvNS := by
  unfold f_X5_formOf
  repeat' split
  all_goals decide
theorem tv_inc0 {y c : Int32} {n : Nat} (h : ¬ y < 0) (h2 : ¬ c ≤ y) (hc : c = nI n) (hn : n < 2 ^ 31) : ¬ (y + 1) < 0 := by
  subst hc
  obtain ⟨j, hj, rfl⟩ := nI_of h
  have h3 : j < n := Nat.not_le.mp (fun q => h2 (nI_le q hj))
  rw [nI_1]
  exact nI_pos (by omega)
theorem tv_sin {x : Nat} {y : Int32} (hx : x < tvNS) (h : ¬ y < 0) (h2 : ¬ f_J0_length_8abf5 x ≤ y) : vp_in y (tvLen.getD x 0) := tvin_2 h h2 rfl (by have := tvLen_ok x hx; omega)
theorem tv_sinc {x : Nat} {y : Int32} (hx : x < tvNS) (h : ¬ y < 0) (h2 : ¬ f_J0_length_8abf5 x ≤ y) : ¬ (y + 1) < 0 := tv_inc0 h h2 rfl (by have := tvLen_ok x hx; omega)
theorem tvZ1 : narrow .boolean (.int 1) = .int 1 := rfl
theorem tv_f0 : ¬ (0 : Int32) < 0 := by decide
/-- TideVault$Program.countSame(Ljava/lang/String;)I -/
def sb_X5_countSame (M : tvM) (x1 : Nat) (y2 : Int32) : (Int32) ⊕ Int32 := (if (f_J0_length_8abf5 x1) ≤ y2 then .inr y2 else (if (tgi M 243 1) ≤ ((tgi M 243 2) + y2) then .inr y2 else (if (f_X5_signAt M ((tgi M 243 2) + y2)) = (f_J0_charAt_5068e x1 y2) then .inl (y2 + 1) else .inr y2)))
def s_X5_countSame (M : tvM) (x1 : Nat) : (Int32) → (Int32) ⊕ Int32 := fun q => sb_X5_countSame M x1 q
def e_X5_countSame (M : tvM) (x1 : Nat) : (Int32) ⊕ Int32 := .inl 0
theorem m_X5_countSame (G : tvG) (M : tvM) (x1 : Nat) (hx1 : x1 < tvNS) (n : Nat) (r : Int32) (hs : tvIter (s_X5_countSame M x1) n (e_X5_countSame M x1) = some r) : tvRun G yX5_countSame cX5_countSame 3 (some .int) 5 0 0 tvP0 tvP0 [.ref (G.2.1 + 243), .ref (G.2.2.2.2.1 x1)] M (.inl (some (.int r))) M := by
  refine tvRun.of yk_X5_countSame rfl [some (.ref (G.2.1 + 243)), some (.ref (G.2.2.2.2.1 x1)), none] rfl (Nat.le_of_ble_eq_true rfl) ?_
  intro E hG C hQ; subst hG
  have K : ∀ (n : Nat) (q : Int32), ¬ q < 0 → tvIter (s_X5_countSame M x1) n (.inl q) = some r → tv_W E tvP0 0 0 M 2 [some (.ref (E.G.2.1 + 243)), some (.ref (E.G.2.2.2.2.1 x1)), some (.int q)] [] := by
    intro n
    induction n with
    | zero => intro q hI hq; exact (tvIter_0 hq).elim
    | succ n ih =>
      intro q hI hq
      obtain ⟨y2, rfl⟩ : ∃ z, z = q := ⟨_, rfl⟩
      have hI : ¬ y2 < 0 := hI
      have hs : tvIter (s_X5_countSame M x1) n (sb_X5_countSame M x1 y2) = some r := tvIter_go hq
      refine tv_iload_n C dk_X5_countSame_2 rfl ?_
      refine tv_aload_n C dk_X5_countSame_3 rfl ?_
      refine tv_cT1 C dk_X5_countSame_4 ml_RX5_69 yk_J0_length_8abf5 yi_J0_length_8abf5 (m_J0_length_8abf5 _ M hx1) hx1 rfl rfl rfl (Nat.le_of_ble_eq_true rfl) (Nat.le_of_ble_eq_true rfl) (Nat.le_of_ble_eq_true rfl) (Nat.le_of_ble_eq_true rfl) (Nat.le_of_ble_eq_true rfl) ?_
      refine tv_icmp_ge C dk_X5_countSame_7 (fun h101 => ?_) (fun h101 => ?_)
      · refine tv_iload_n C dk_X5_countSame_47 rfl ?_
        exact tv_iret C hQ dk_X5_countSame_48 rfl (by rw [sb_X5_countSame, if_pos h101] at hs; rw [← tvIter_out hs]) rfl
      refine tv_aload_n C dk_X5_countSame_10 rfl ?_
      refine tv_getI C dk_X5_countSame_11 fl_RX5_26 (Nat.le_of_ble_eq_true rfl) rfl (fun _ _ _ _ => rfl) ?_
      refine tv_iload_n C dk_X5_countSame_14 rfl ?_
      refine tv_iadd C dk_X5_countSame_15 ?_
      refine tv_aload_n C dk_X5_countSame_16 rfl ?_
      refine tv_getI C dk_X5_countSame_17 fl_RX5_22 (Nat.le_of_ble_eq_true rfl) rfl (fun _ _ _ _ => rfl) ?_
      refine tv_icmp_ge C dk_X5_countSame_20 (fun h102 => ?_) (fun h102 => ?_)
      · refine tv_iload_n C dk_X5_countSame_47 rfl ?_
        exact tv_iret C hQ dk_X5_countSame_48 rfl (by rw [sb_X5_countSame, if_neg h101, if_pos h102] at hs; rw [← tvIter_out hs]) rfl
      refine tv_aload_n C dk_X5_countSame_23 rfl ?_
      refine tv_aload_n C dk_X5_countSame_24 rfl ?_
      refine tv_getI C dk_X5_countSame_25 fl_RX5_26 (Nat.le_of_ble_eq_true rfl) rfl (fun _ _ _ _ => rfl) ?_
      refine tv_iload_n C dk_X5_countSame_28 rfl ?_
      refine tv_iadd C dk_X5_countSame_29 ?_
      refine tv_cV1 C dk_X5_countSame_30 ml_RX5_79 yk_X5_signAt yi_X5_signAt (m_X5_signAt _ M ((tgi M 243 2) + y2)) (Nat.le_of_ble_eq_true rfl) rfl rfl rfl rfl (Nat.le_of_ble_eq_true rfl) (Nat.le_of_ble_eq_true rfl) (Nat.le_of_ble_eq_true rfl) (Nat.le_of_ble_eq_true rfl) (Nat.le_of_ble_eq_true rfl) ?_
      refine tv_aload_n C dk_X5_countSame_33 rfl ?_
      refine tv_iload_n C dk_X5_countSame_34 rfl ?_
      refine tv_cT1 C dk_X5_countSame_35 ml_RX5_83 yk_J0_charAt_5068e yi_J0_charAt_5068e (m_J0_charAt_5068e _ M hx1 (tv_sin hx1 hI h101)) hx1 rfl rfl rfl (Nat.le_of_ble_eq_true rfl) (Nat.le_of_ble_eq_true rfl) (Nat.le_of_ble_eq_true rfl) (Nat.le_of_ble_eq_true rfl) (Nat.le_of_ble_eq_true rfl) ?_
      refine tv_icmp_ne C dk_X5_countSame_38 (fun h103 => ?_) (fun h103 => ?_)
      · refine tv_iload_n C dk_X5_countSame_47 rfl ?_
        exact tv_iret C hQ dk_X5_countSame_48 rfl (by rw [sb_X5_countSame, if_neg h101, if_neg h102, if_neg h103] at hs; rw [← tvIter_out hs]) rfl
      refine tv_iinc (v := (y2 + 1)) (L' := [_, _, _]) (hn := by decide) (hlt := (Nat.le_of_ble_eq_true rfl)) (hno := rfl) C dk_X5_countSame_41 rfl rfl rfl ?_
      refine tv_goto C dk_X5_countSame_44 ?_
      exact (ih ((y2 + 1)) (tv_sinc hx1 hI h101) (by rw [sb_X5_countSame, if_neg h101, if_neg h102, if_pos h103] at hs; exact hs))
  refine tv_iconst (v := 0) C dk_X5_countSame_0 (by decide) ?_
  refine tv_istore_n (L' := [_, _, _]) (hn := by decide) (hlt := (Nat.le_of_ble_eq_true rfl)) (hno := rfl) C dk_X5_countSame_1 rfl ?_
  exact (K n (0) tv_f0 (by rw [e_X5_countSame] at hs; exact hs))
def tvCsP (M : tvM) (x1 : Nat) (i : Nat) : Bool := decide (tgi M 243 1 ≤ tgi M 243 2 + nI i) || !decide (f_X5_signAt M (tgi M 243 2 + nI i) = f_J0_charAt_5068e x1 (nI i))
def f_X5_countSame (M : tvM) (x1 : Nat) : Int32 := nI (fa_first (tvCsP M x1) (tvLen.getD x1 0))
theorem r_X5_countSame (M : tvM) (x1 : Nat) (hx1 : x1 < tvNS) : ∃ n, tvIter (s_X5_countSame M x1) n (e_X5_countSame M x1) = some (f_X5_countSame M x1) := by
  have hl := tvLen_ok x1 hx1
  have h2 := fa_first_le (tvCsP M x1) (tvLen.getD x1 0)
  refine tvIter_for (s_X5_countSame M x1) (fun i => nI i) (fa_first (tvCsP M x1) (tvLen.getD x1 0)) _ (fun i hi => ?_) ?_
  · have h1 := fa_first_no _ _ _ hi
    simp only [tvCsP, Bool.or_eq_false_iff, decide_eq_false_iff_not, Bool.not_eq_false', decide_eq_true_eq] at h1
    have h3 : ¬ f_J0_length_8abf5 x1 ≤ nI i := nI_ge (by omega) (by omega)
    simp only [s_X5_countSame, sb_X5_countSame, if_neg h3, if_neg h1.1, if_pos h1.2, nI_1]
  · by_cases h : fa_first (tvCsP M x1) (tvLen.getD x1 0) < tvLen.getD x1 0
    · have h1 := fa_first_yes _ _ h
      have h3 : ¬ f_J0_length_8abf5 x1 ≤ nI (fa_first (tvCsP M x1) (tvLen.getD x1 0)) := nI_ge h (by omega)
      simp only [tvCsP, Bool.or_eq_true, decide_eq_true_eq, Bool.not_eq_true', decide_eq_false_iff_not] at h1
      simp only [s_X5_countSame, sb_X5_countSame, if_neg h3, f_X5_countSame]
      by_cases h4 : tgi M 243 1 ≤ tgi M 243 2 + nI (fa_first (tvCsP M x1) (tvLen.getD x1 0))
      · rw [if_pos h4]
      · rw [if_neg h4, if_neg (h1.resolve_left h4)]
    · have h3 : fa_first (tvCsP M x1) (tvLen.getD x1 0) = tvLen.getD x1 0 := by omega
      simp only [s_X5_countSame, sb_X5_countSame, f_X5_countSame]
      rw [h3]
      exact if_pos (Int32.le_refl _)
theorem n_X5_countSame (G : tvG) (M : tvM) (x1 : Nat) (hx1 : x1 < tvNS) : tvRun G yX5_countSame cX5_countSame 3 (some .int) 5 0 0 tvP0 tvP0 [.ref (G.2.1 + 243), .ref (G.2.2.2.2.1 x1)] M (.inl (some (.int (f_X5_countSame M x1)))) M := by
  obtain ⟨n, hn⟩ := r_X5_countSame M x1 hx1
  exact m_X5_countSame G M x1 hx1 n _ hn
/-- TideVault$Program.readVerb()I -/
def sb_X5_readVerb (y1 : Int32) (y2 : Int32) (y4 : Int32) (M : tvM) : (Int32 × Int32 × Int32 × tvM) ⊕ (Int32 × tvM) := (if 9 ≤ y2 then .inr ((-1), (tpi M 243 2 ((tgi M 243 2) + y1))) else (if (f_X5_countSame M (f_X5_wordOf y2)) = (f_J0_length_8abf5 (f_X5_wordOf y2)) then .inr (y2, (tpi M 243 2 ((tgi M 243 2) + (f_X5_countSame M (f_X5_wordOf y2))))) else .inl ((f_J9_max_7cf53 M y1 (f_X5_countSame M (f_X5_wordOf y2))), (y2 + 1), 0, M)))
def s_X5_readVerb : (Int32 × Int32 × Int32 × tvM) → (Int32 × Int32 × Int32 × tvM) ⊕ (Int32 × tvM) := fun q => sb_X5_readVerb q.1 q.2.1 q.2.2.1 q.2.2.2
def e_X5_readVerb (M : tvM) : (Int32 × Int32 × Int32 × tvM) ⊕ (Int32 × tvM) := .inl (0, 0, 0, M)
theorem m_X5_readVerb (G : tvG) (M : tvM) (n : Nat) (r : (Int32 × tvM)) (hs : tvIter (s_X5_readVerb) n (e_X5_readVerb M) = some r) : tvRun G yX5_readVerb cX5_readVerb 5 (some .int) 6 0 0 tvP0 tvP0 [.ref (G.2.1 + 243)] M (.inl (some (.int r.1))) r.2 := by
  refine tvRun.of yk_X5_readVerb rfl [some (.ref (G.2.1 + 243)), none, none, none, none] rfl (Nat.le_of_ble_eq_true rfl) ?_
  intro E hG C hQ; subst hG
  have K : ∀ (n : Nat) (q : Int32 × Int32 × Int32 × tvM), tvIter (s_X5_readVerb) n (.inl q) = some r → tv_W E tvP0 0 0 q.2.2.2 4 [some (.ref (E.G.2.1 + 243)), some (.int q.1), some (.int q.2.1), none, none] [] := by
    intro n
    induction n with
    | zero => intro q hq; exact (tvIter_0 hq).elim
    | succ n ih =>
      intro q hq
      obtain ⟨y1, y2, y4, M⟩ := q
      have hs : tvIter (s_X5_readVerb) n (sb_X5_readVerb y1 y2 y4 M) = some r := tvIter_go hq
      refine tv_iload_n C dk_X5_readVerb_4 rfl ?_
      refine tv_bipush (v := 9) C dk_X5_readVerb_5 (by decide) ?_
      refine tv_icmp_ge C dk_X5_readVerb_7 (fun h101 => ?_) (fun h101 => ?_)
      · refine tv_aload_n C dk_X5_readVerb_57 rfl ?_
        refine tv_dup C dk_X5_readVerb_58 rfl ?_
        refine tv_getI C dk_X5_readVerb_59 fl_RX5_26 (Nat.le_of_ble_eq_true rfl) rfl (fun _ _ _ _ => rfl) ?_
        refine tv_iload_n C dk_X5_readVerb_62 rfl ?_
        refine tv_iadd C dk_X5_readVerb_63 ?_
        refine tv_putI C tvP0_ex dk_X5_readVerb_64 fl_RX5_26 fw_5_2 (Nat.le_of_ble_eq_true rfl) rfl rfl (fun _ _ _ _ _ => rfl) rfl rfl ?_
        refine tv_iconst (v := (-1)) C dk_X5_readVerb_67 (by decide) ?_
        exact tv_iret C hQ dk_X5_readVerb_68 rfl (by rw [sb_X5_readVerb, if_pos h101] at hs; rw [← tvIter_out hs]) (by rw [sb_X5_readVerb, if_pos h101] at hs; rw [← tvIter_out hs])
      refine tv_iload_n C dk_X5_readVerb_10 rfl ?_
      refine tv_cS1 C dk_X5_readVerb_11 ml_RX5_62 yk_X5_wordOf yi_X5_wordOf (m_X5_wordOf _ M y2) rfl rfl (Nat.le_of_ble_eq_true rfl) (Nat.le_of_ble_eq_true rfl) (Nat.le_of_ble_eq_true rfl) (Nat.le_of_ble_eq_true rfl) (Nat.le_of_ble_eq_true rfl) ?_
      refine tv_astore_n (L' := [_, _, _, _, _]) (hn := by decide) (hlt := (Nat.le_of_ble_eq_true rfl)) (hno := rfl) C dk_X5_readVerb_14 rfl ?_
      refine tv_aload_n C dk_X5_readVerb_15 rfl ?_
      refine tv_aload_n C dk_X5_readVerb_16 rfl ?_
      refine tv_cV1 C dk_X5_readVerb_17 ml_RX5_65 yk_X5_countSame yi_X5_countSame (n_X5_countSame _ M (f_X5_wordOf y2) (f_X5_wordOf_lt _)) (Nat.le_of_ble_eq_true rfl) rfl rfl rfl rfl (Nat.le_of_ble_eq_true rfl) (Nat.le_of_ble_eq_true rfl) (Nat.le_of_ble_eq_true rfl) (Nat.le_of_ble_eq_true rfl) (Nat.le_of_ble_eq_true rfl) ?_
      refine tv_istore (L' := [_, _, _, _, _]) (hn := by decide) (hlt := (Nat.le_of_ble_eq_true rfl)) (hno := rfl) C dk_X5_readVerb_20 rfl ?_
      refine tv_iload C dk_X5_readVerb_22 rfl ?_
      refine tv_aload_n C dk_X5_readVerb_24 rfl ?_
      refine tv_cT1 C dk_X5_readVerb_25 ml_RX5_69 yk_J0_length_8abf5 yi_J0_length_8abf5 (m_J0_length_8abf5 _ M (f_X5_wordOf_lt _)) (f_X5_wordOf_lt _) rfl rfl rfl (Nat.le_of_ble_eq_true rfl) (Nat.le_of_ble_eq_true rfl) (Nat.le_of_ble_eq_true rfl) (Nat.le_of_ble_eq_true rfl) (Nat.le_of_ble_eq_true rfl) ?_
      refine tv_icmp_ne C dk_X5_readVerb_28 (fun h102 => ?_) (fun h102 => ?_)
      · refine tv_iload_n C dk_X5_readVerb_44 rfl ?_
        refine tv_iload C dk_X5_readVerb_45 rfl ?_
        refine tv_cS1 C dk_X5_readVerb_47 ml_RX5_73 yk_J9_max_7cf53 yi_J9_max_7cf53 (m_J9_max_7cf53 _ M y1 (f_X5_countSame M (f_X5_wordOf y2))) rfl rfl (Nat.le_of_ble_eq_true rfl) (Nat.le_of_ble_eq_true rfl) (Nat.le_of_ble_eq_true rfl) (Nat.le_of_ble_eq_true rfl) (Nat.le_of_ble_eq_true rfl) ?_
        refine tv_istore_n (L' := [_, _, _, _, _]) (hn := by decide) (hlt := (Nat.le_of_ble_eq_true rfl)) (hno := rfl) C dk_X5_readVerb_50 rfl ?_
        refine tv_iinc (v := (y2 + 1)) (L' := [_, _, _, _, _]) (hn := by decide) (hlt := (Nat.le_of_ble_eq_true rfl)) (hno := rfl) C dk_X5_readVerb_51 rfl rfl rfl ?_
        refine tv_goto C dk_X5_readVerb_54 ?_
        refine tv_drop (L2 := [some (.ref (E.G.2.1 + 243)), some (.int (f_J9_max_7cf53 M y1 (f_X5_countSame M (f_X5_wordOf y2)))), some (.int (y2 + 1)), none, none]) (by simp [tvSubL]) ?_
        exact (ih ((f_J9_max_7cf53 M y1 (f_X5_countSame M (f_X5_wordOf y2))), (y2 + 1), 0, M) (by rw [sb_X5_readVerb, if_neg h101, if_neg h102] at hs; exact hs))
      refine tv_aload_n C dk_X5_readVerb_31 rfl ?_
      refine tv_dup C dk_X5_readVerb_32 rfl ?_
      refine tv_getI C dk_X5_readVerb_33 fl_RX5_26 (Nat.le_of_ble_eq_true rfl) rfl (fun _ _ _ _ => rfl) ?_
      refine tv_iload C dk_X5_readVerb_36 rfl ?_
      refine tv_iadd C dk_X5_readVerb_38 ?_
      refine tv_putI C tvP0_ex dk_X5_readVerb_39 fl_RX5_26 fw_5_2 (Nat.le_of_ble_eq_true rfl) rfl rfl (fun _ _ _ _ _ => rfl) rfl rfl ?_
      refine tv_iload_n C dk_X5_readVerb_42 rfl ?_
      exact tv_iret C hQ dk_X5_readVerb_43 rfl (by rw [sb_X5_readVerb, if_neg h101, if_pos h102] at hs; rw [← tvIter_out hs]) (by rw [sb_X5_readVerb, if_neg h101, if_pos h102] at hs; rw [← tvIter_out hs])
  refine tv_iconst (v := 0) C dk_X5_readVerb_0 (by decide) ?_
  refine tv_istore_n (L' := [_, _, _, _, _]) (hn := by decide) (hlt := (Nat.le_of_ble_eq_true rfl)) (hno := rfl) C dk_X5_readVerb_1 rfl ?_
  refine tv_iconst (v := 0) C dk_X5_readVerb_2 (by decide) ?_
  refine tv_istore_n (L' := [_, _, _, _, _]) (hn := by decide) (hlt := (Nat.le_of_ble_eq_true rfl)) (hno := rfl) C dk_X5_readVerb_3 rfl ?_
  exact (K n (0, 0, 0, M) (by rw [e_X5_readVerb] at hs; exact hs))
def tvRvP (M : tvM) (i : Nat) : Bool := decide (f_X5_countSame M (f_X5_wordOf (nI i)) = f_J0_length_8abf5 (f_X5_wordOf (nI i)))
def tvRvL (M : tvM) : Nat → Int32
  | 0 => 0
  | i + 1 => f_J9_max_7cf53 M (tvRvL M i) (f_X5_countSame M (f_X5_wordOf (nI i)))
def f_X5_readVerb (M : tvM) : Int32 × tvM := if fa_first (tvRvP M) 9 < 9 then (nI (fa_first (tvRvP M) 9), tpi M 243 2 (tgi M 243 2 + f_X5_countSame M (f_X5_wordOf (nI (fa_first (tvRvP M) 9))))) else (-1, tpi M 243 2 (tgi M 243 2 + tvRvL M 9))
theorem r_X5_readVerb (M : tvM) : ∃ n, tvIter (s_X5_readVerb) n (e_X5_readVerb M) = some (f_X5_readVerb M) := by
  have h2 := fa_first_le (tvRvP M) 9
  refine tvIter_for (s_X5_readVerb) (fun i => (tvRvL M i, nI i, 0, M)) (fa_first (tvRvP M) 9) _ (fun i hi => ?_) ?_
  · have h1 := fa_first_no _ _ _ hi
    have h3 : ¬ (9 : Int32) ≤ nI i := nI_ge (b := 9) (by omega) (by omega)
    simp only [tvRvP, decide_eq_false_iff_not] at h1
    simp only [s_X5_readVerb, sb_X5_readVerb, if_neg h3, if_neg h1, nI_1, tvRvL]
  · by_cases h : fa_first (tvRvP M) 9 < 9
    · have h1 := fa_first_yes _ _ h
      have h3 : ¬ (9 : Int32) ≤ nI (fa_first (tvRvP M) 9) := nI_ge (b := 9) h (by omega)
      simp only [tvRvP, decide_eq_true_eq] at h1
      simp only [s_X5_readVerb, sb_X5_readVerb, if_neg h3, f_X5_readVerb, if_pos h]
      exact if_pos h1
    · have h3 : fa_first (tvRvP M) 9 = 9 := by omega
      simp only [s_X5_readVerb, sb_X5_readVerb, f_X5_readVerb, if_neg h]
      rw [h3]
      exact if_pos (by decide)
theorem n_X5_readVerb (G : tvG) (M : tvM) : tvRun G yX5_readVerb cX5_readVerb 5 (some .int) 6 0 0 tvP0 tvP0 [.ref (G.2.1 + 243)] M (.inl (some (.int (f_X5_readVerb M).1))) ((f_X5_readVerb M).2) := by
  obtain ⟨n, hn⟩ := r_X5_readVerb M 
  exact m_X5_readVerb G M n _ hn
/-- TideVault$Program.readNumber(II)Z -/
def sb_X5_readNumber (x1 : Int32) (x2 : Int32) (y3 : Int32) (y4 : Int32) (M : tvM) : (Int32 × Int32 × tvM) ⊕ (Int32 × tvM) := (if x2 ≤ y4 then (if y4 ≤ 0 then .inr (0, (f_X5_setArgument M x1 y3)) else .inr (1, (f_X5_setArgument M x1 y3))) else (if (tgi M 243 1) ≤ (tgi M 243 2) then (if y4 ≤ 0 then .inr (0, (f_X5_setArgument M x1 y3)) else .inr (1, (f_X5_setArgument M x1 y3))) else (if (f_X5_isDigit M (f_X5_sign M)) = 0 then (if y4 ≤ 0 then .inr (0, (f_X5_setArgument M x1 y3)) else .inr (1, (f_X5_setArgument M x1 y3))) else .inl (((y3 * 10) + ((f_X5_sign M) - 48)), (y4 + 1), (tpi M 243 2 ((tgi M 243 2) + 1))))))
def s_X5_readNumber (x1 : Int32) (x2 : Int32) : (Int32 × Int32 × tvM) → (Int32 × Int32 × tvM) ⊕ (Int32 × tvM) := fun q => sb_X5_readNumber x1 x2 q.1 q.2.1 q.2.2
def e_X5_readNumber (M : tvM) (x1 : Int32) (x2 : Int32) : (Int32 × Int32 × tvM) ⊕ (Int32 × tvM) := .inl (0, 0, M)
theorem m_X5_readNumber (G : tvG) (M : tvM) (x1 : Int32) (x2 : Int32) (n : Nat) (r : (Int32 × tvM)) (hs : tvIter (s_X5_readNumber x1 x2) n (e_X5_readNumber M x1 x2) = some r) : tvRun G yX5_readNumber cX5_readNumber 5 (some .boolean) 3 0 0 tvP0 tvP0 [.ref (G.2.1 + 243), .int x1, .int x2] M (.inl (some (.int r.1))) r.2 := by
  refine tvRun.of yk_X5_readNumber rfl [some (.ref (G.2.1 + 243)), some (.int x1), some (.int x2), none, none] rfl (Nat.le_of_ble_eq_true rfl) ?_
  intro E hG C hQ; subst hG
  have K : ∀ (n : Nat) (q : Int32 × Int32 × tvM), tvIter (s_X5_readNumber x1 x2) n (.inl q) = some r → tv_W E tvP0 0 0 q.2.2 5 [some (.ref (E.G.2.1 + 243)), some (.int x1), some (.int x2), some (.int q.1), some (.int q.2.1)] [] := by
    intro n
    induction n with
    | zero => intro q hq; exact (tvIter_0 hq).elim
    | succ n ih =>
      intro q hq
      obtain ⟨y3, y4, M⟩ := q
      have hs : tvIter (s_X5_readNumber x1 x2) n (sb_X5_readNumber x1 x2 y3 y4 M) = some r := tvIter_go hq
      refine tv_iload C dk_X5_readNumber_5 rfl ?_
      refine tv_iload_n C dk_X5_readNumber_7 rfl ?_
      refine tv_icmp_ge C dk_X5_readNumber_8 (fun h101 => ?_) (fun h101 => ?_)
      · refine tv_aload_n C dk_X5_readNumber_61 rfl ?_
        refine tv_iload_n C dk_X5_readNumber_62 rfl ?_
        refine tv_iload_n C dk_X5_readNumber_63 rfl ?_
        refine tv_cV0 C dk_X5_readNumber_64 ml_RX5_44 yk_X5_setArgument yi_X5_setArgument (m_X5_setArgument _ M x1 y3) (Nat.le_of_ble_eq_true rfl) rfl rfl rfl rfl (Nat.le_of_ble_eq_true rfl) (Nat.le_of_ble_eq_true rfl) (Nat.le_of_ble_eq_true rfl) (Nat.le_of_ble_eq_true rfl) (Nat.le_of_ble_eq_true rfl) ?_
        refine tv_iload C dk_X5_readNumber_67 rfl ?_
        refine tv_if_le C dk_X5_readNumber_69 (fun h102 => ?_) (fun h102 => ?_)
        · refine tv_iconst (v := 0) C dk_X5_readNumber_76 (by decide) ?_
          exact tv_iret C hQ dk_X5_readNumber_77 rfl (by rw [sb_X5_readNumber, if_pos h101, if_pos h102] at hs; rw [← tvIter_out hs]) (by rw [sb_X5_readNumber, if_pos h101, if_pos h102] at hs; rw [← tvIter_out hs])
        refine tv_iconst (v := 1) C dk_X5_readNumber_72 (by decide) ?_
        refine tv_goto C dk_X5_readNumber_73 ?_
        exact tv_iret C hQ dk_X5_readNumber_77 rfl (by rw [sb_X5_readNumber, if_pos h101, if_neg h102] at hs; rw [← tvIter_out hs]) (by rw [sb_X5_readNumber, if_pos h101, if_neg h102] at hs; rw [← tvIter_out hs])
      refine tv_aload_n C dk_X5_readNumber_11 rfl ?_
      refine tv_getI C dk_X5_readNumber_12 fl_RX5_26 (Nat.le_of_ble_eq_true rfl) rfl (fun _ _ _ _ => rfl) ?_
      refine tv_aload_n C dk_X5_readNumber_15 rfl ?_
      refine tv_getI C dk_X5_readNumber_16 fl_RX5_22 (Nat.le_of_ble_eq_true rfl) rfl (fun _ _ _ _ => rfl) ?_
      refine tv_icmp_ge C dk_X5_readNumber_19 (fun h103 => ?_) (fun h103 => ?_)
      · refine tv_aload_n C dk_X5_readNumber_61 rfl ?_
        refine tv_iload_n C dk_X5_readNumber_62 rfl ?_
        refine tv_iload_n C dk_X5_readNumber_63 rfl ?_
        refine tv_cV0 C dk_X5_readNumber_64 ml_RX5_44 yk_X5_setArgument yi_X5_setArgument (m_X5_setArgument _ M x1 y3) (Nat.le_of_ble_eq_true rfl) rfl rfl rfl rfl (Nat.le_of_ble_eq_true rfl) (Nat.le_of_ble_eq_true rfl) (Nat.le_of_ble_eq_true rfl) (Nat.le_of_ble_eq_true rfl) (Nat.le_of_ble_eq_true rfl) ?_
        refine tv_iload C dk_X5_readNumber_67 rfl ?_
        refine tv_if_le C dk_X5_readNumber_69 (fun h104 => ?_) (fun h104 => ?_)
        · refine tv_iconst (v := 0) C dk_X5_readNumber_76 (by decide) ?_
          exact tv_iret C hQ dk_X5_readNumber_77 rfl (by rw [sb_X5_readNumber, if_neg h101, if_pos h103, if_pos h104] at hs; rw [← tvIter_out hs]) (by rw [sb_X5_readNumber, if_neg h101, if_pos h103, if_pos h104] at hs; rw [← tvIter_out hs])
        refine tv_iconst (v := 1) C dk_X5_readNumber_72 (by decide) ?_
        refine tv_goto C dk_X5_readNumber_73 ?_
        exact tv_iret C hQ dk_X5_readNumber_77 rfl (by rw [sb_X5_readNumber, if_neg h101, if_pos h103, if_neg h104] at hs; rw [← tvIter_out hs]) (by rw [sb_X5_readNumber, if_neg h101, if_pos h103, if_neg h104] at hs; rw [← tvIter_out hs])
      refine tv_aload_n C dk_X5_readNumber_22 rfl ?_
      refine tv_cV1 C dk_X5_readNumber_23 ml_RX5_48 yk_X5_sign yi_X5_sign (m_X5_sign _ M) (Nat.le_of_ble_eq_true rfl) rfl rfl rfl rfl (Nat.le_of_ble_eq_true rfl) (Nat.le_of_ble_eq_true rfl) (Nat.le_of_ble_eq_true rfl) (Nat.le_of_ble_eq_true rfl) (Nat.le_of_ble_eq_true rfl) ?_
      refine tv_cS1 C dk_X5_readNumber_26 ml_RX5_90 yk_X5_isDigit yi_X5_isDigit (m_X5_isDigit _ M (f_X5_sign M)) rfl rfl (Nat.le_of_ble_eq_true rfl) (Nat.le_of_ble_eq_true rfl) (Nat.le_of_ble_eq_true rfl) (Nat.le_of_ble_eq_true rfl) (Nat.le_of_ble_eq_true rfl) ?_
      refine tv_if_eq C dk_X5_readNumber_29 (fun h105 => ?_) (fun h105 => ?_)
      · refine tv_aload_n C dk_X5_readNumber_61 rfl ?_
        refine tv_iload_n C dk_X5_readNumber_62 rfl ?_
        refine tv_iload_n C dk_X5_readNumber_63 rfl ?_
        refine tv_cV0 C dk_X5_readNumber_64 ml_RX5_44 yk_X5_setArgument yi_X5_setArgument (m_X5_setArgument _ M x1 y3) (Nat.le_of_ble_eq_true rfl) rfl rfl rfl rfl (Nat.le_of_ble_eq_true rfl) (Nat.le_of_ble_eq_true rfl) (Nat.le_of_ble_eq_true rfl) (Nat.le_of_ble_eq_true rfl) (Nat.le_of_ble_eq_true rfl) ?_
        refine tv_iload C dk_X5_readNumber_67 rfl ?_
        refine tv_if_le C dk_X5_readNumber_69 (fun h106 => ?_) (fun h106 => ?_)
        · refine tv_iconst (v := 0) C dk_X5_readNumber_76 (by decide) ?_
          exact tv_iret C hQ dk_X5_readNumber_77 rfl (by rw [sb_X5_readNumber, if_neg h101, if_neg h103, if_pos h105, if_pos h106] at hs; rw [← tvIter_out hs]) (by rw [sb_X5_readNumber, if_neg h101, if_neg h103, if_pos h105, if_pos h106] at hs; rw [← tvIter_out hs])
        refine tv_iconst (v := 1) C dk_X5_readNumber_72 (by decide) ?_
        refine tv_goto C dk_X5_readNumber_73 ?_
        exact tv_iret C hQ dk_X5_readNumber_77 rfl (by rw [sb_X5_readNumber, if_neg h101, if_neg h103, if_pos h105, if_neg h106] at hs; rw [← tvIter_out hs]) (by rw [sb_X5_readNumber, if_neg h101, if_neg h103, if_pos h105, if_neg h106] at hs; rw [← tvIter_out hs])
      refine tv_iload_n C dk_X5_readNumber_32 rfl ?_
      refine tv_bipush (v := 10) C dk_X5_readNumber_33 (by decide) ?_
      refine tv_imul C dk_X5_readNumber_35 ?_
      refine tv_aload_n C dk_X5_readNumber_36 rfl ?_
      refine tv_cV1 C dk_X5_readNumber_37 ml_RX5_48 yk_X5_sign yi_X5_sign (m_X5_sign _ M) (Nat.le_of_ble_eq_true rfl) rfl rfl rfl rfl (Nat.le_of_ble_eq_true rfl) (Nat.le_of_ble_eq_true rfl) (Nat.le_of_ble_eq_true rfl) (Nat.le_of_ble_eq_true rfl) (Nat.le_of_ble_eq_true rfl) ?_
      refine tv_bipush (v := 48) C dk_X5_readNumber_40 (by decide) ?_
      refine tv_isub C dk_X5_readNumber_42 ?_
      refine tv_iadd C dk_X5_readNumber_43 ?_
      refine tv_istore_n (L' := [_, _, _, _, _]) (hn := by decide) (hlt := (Nat.le_of_ble_eq_true rfl)) (hno := rfl) C dk_X5_readNumber_44 rfl ?_
      refine tv_iinc (v := (y4 + 1)) (L' := [_, _, _, _, _]) (hn := by decide) (hlt := (Nat.le_of_ble_eq_true rfl)) (hno := rfl) C dk_X5_readNumber_45 rfl rfl rfl ?_
      refine tv_aload_n C dk_X5_readNumber_48 rfl ?_
      refine tv_dup C dk_X5_readNumber_49 rfl ?_
      refine tv_getI C dk_X5_readNumber_50 fl_RX5_26 (Nat.le_of_ble_eq_true rfl) rfl (fun _ _ _ _ => rfl) ?_
      refine tv_iconst (v := 1) C dk_X5_readNumber_53 (by decide) ?_
      refine tv_iadd C dk_X5_readNumber_54 ?_
      refine tv_putI C tvP0_ex dk_X5_readNumber_55 fl_RX5_26 fw_5_2 (Nat.le_of_ble_eq_true rfl) rfl rfl (fun _ _ _ _ _ => rfl) rfl rfl ?_
      refine tv_goto C dk_X5_readNumber_58 ?_
      exact (ih (((y3 * 10) + ((f_X5_sign M) - 48)), (y4 + 1), (tpi M 243 2 ((tgi M 243 2) + 1))) (by rw [sb_X5_readNumber, if_neg h101, if_neg h103, if_neg h105] at hs; exact hs))
  refine tv_iconst (v := 0) C dk_X5_readNumber_0 (by decide) ?_
  refine tv_istore_n (L' := [_, _, _, _, _]) (hn := by decide) (hlt := (Nat.le_of_ble_eq_true rfl)) (hno := rfl) C dk_X5_readNumber_1 rfl ?_
  refine tv_iconst (v := 0) C dk_X5_readNumber_2 (by decide) ?_
  refine tv_istore (L' := [_, _, _, _, _]) (hn := by decide) (hlt := (Nat.le_of_ble_eq_true rfl)) (hno := rfl) C dk_X5_readNumber_3 rfl ?_
  exact (K n (0, 0, M) (by rw [e_X5_readNumber] at hs; exact hs))
def tvRn (x1 x2 : Int32) : Nat → Nat → Int32 → tvM → Int32 × tvM
  | 0, d, v, M => (if nI d ≤ 0 then 0 else 1, f_X5_setArgument M x1 v)
  | n + 1, d, v, M => if tgi M 243 1 ≤ tgi M 243 2 ∨ f_X5_isDigit M (f_X5_sign M) = 0 then (if nI d ≤ 0 then 0 else 1, f_X5_setArgument M x1 v) else tvRn x1 x2 n (d + 1) (v * 10 + (f_X5_sign M - 48)) (tpi M 243 2 (tgi M 243 2 + 1))
def f_X5_readNumber (M : tvM) (x1 x2 : Int32) : Int32 × tvM := tvRn x1 x2 x2.toNatClampNeg 0 0 M
theorem r_X5_readNumber (M : tvM) (x1 : Int32) (x2 : Int32) : ∃ n, tvIter (s_X5_readNumber x1 x2) n (e_X5_readNumber M x1 x2) = some (f_X5_readNumber M x1 x2) := by
  have key : ∀ n d v (M : tvM), d + n = x2.toNatClampNeg → ∃ m, tvIter (s_X5_readNumber x1 x2) m (.inl (v, nI d, M)) = some (tvRn x1 x2 n d v M) := by
    intro n
    induction n with
    | zero =>
      intro d v M hd
      have h : x2 ≤ nI d := by rw [show d = x2.toNatClampNeg by omega]; exact tv_le
      refine tvIter_e ?_
      simp only [s_X5_readNumber, sb_X5_readNumber, if_pos h, tvRn]
      split <;> rfl
    | succ n ih =>
      intro d v M hd
      have h : ¬ x2 ≤ nI d := tv_nle (by omega)
      by_cases h1 : tgi M 243 1 ≤ tgi M 243 2
      · rw [tvRn, if_pos (Or.inl h1)]
        refine tvIter_e ?_
        simp only [s_X5_readNumber, sb_X5_readNumber, if_neg h, if_pos h1]
        split <;> rfl
      · by_cases h2 : f_X5_isDigit M (f_X5_sign M) = 0
        · rw [tvRn, if_pos (Or.inr h2)]
          refine tvIter_e ?_
          simp only [s_X5_readNumber, sb_X5_readNumber, if_neg h, if_neg h1, if_pos h2]
          split <;> rfl
        · rw [tvRn, if_neg (by rintro (q | q); exact h1 q; exact h2 q)]
          refine tvIter_1 (s' := (v * 10 + (f_X5_sign M - 48), nI (d + 1), tpi M 243 2 (tgi M 243 2 + 1))) ?_ (ih _ _ _ (by omega))
          simp only [s_X5_readNumber, sb_X5_readNumber, if_neg h, if_neg h1, if_neg h2, nI_1]
  exact key _ 0 0 M (by omega)
theorem n_X5_readNumber (G : tvG) (M : tvM) (x1 : Int32) (x2 : Int32) : tvRun G yX5_readNumber cX5_readNumber 5 (some .boolean) 3 0 0 tvP0 tvP0 [.ref (G.2.1 + 243), .int x1, .int x2] M (.inl (some (.int (f_X5_readNumber M x1 x2).1))) ((f_X5_readNumber M x1 x2).2) := by
  obtain ⟨n, hn⟩ := r_X5_readNumber M x1 x2 
  exact m_X5_readNumber G M x1 x2 n _ hn
theorem tvRn_z (x1 x2 : Int32) : ∀ n d v M, narrow .boolean (.int (tvRn x1 x2 n d v M).1) = .int (tvRn x1 x2 n d v M).1 := by
  intro n
  induction n with
  | zero => intro d v M; rw [tvRn]; dsimp only; split <;> rfl
  | succ n ih =>
    intro d v M
    rw [tvRn]
    split
    · dsimp only; split <;> rfl
    · exact ih _ _ _
theorem fz_X5_readNumber {M : tvM} {x1 x2 : Int32} : narrow .boolean (.int (f_X5_readNumber M x1 x2).1) = .int (f_X5_readNumber M x1 x2).1 := tvRn_z _ _ _ _ _ _
/-- TideVault$Program.readForm(Ljava/lang/String;)Z -/
def sb_X5_readForm (x1 : Nat) (y2 : Int32) (y3 : Int32) (y4 : Int32) (y5 : Int32) (M : tvM) : (Int32 × Int32 × Int32 × Int32 × tvM) ⊕ (Int32 × tvM) := (if y2 = 0 then .inr (y2, M) else (if (f_J0_length_8abf5 x1) ≤ y4 then .inr (y2, M) else (if (f_J0_charAt_5068e x1 y4) = 100 then .inl ((f_X5_readNumber M y3 1).1, (y3 + 1), (y4 + 1), 0, (f_X5_readNumber M y3 1).2) else (if (f_J0_charAt_5068e x1 y4) = 110 then .inl ((f_X5_readNumber M y3 3).1, (y3 + 1), (y4 + 1), 0, (f_X5_readNumber M y3 3).2) else .inl ((f_X5_readSign M (f_J0_charAt_5068e x1 y4)).1, y3, (y4 + 1), 0, (f_X5_readSign M (f_J0_charAt_5068e x1 y4)).2)))))
def s_X5_readForm (x1 : Nat) : (Int32 × Int32 × Int32 × Int32 × tvM) → (Int32 × Int32 × Int32 × Int32 × tvM) ⊕ (Int32 × tvM) := fun q => sb_X5_readForm x1 q.1 q.2.1 q.2.2.1 q.2.2.2.1 q.2.2.2.2
def e_X5_readForm (M : tvM) (x1 : Nat) : (Int32 × Int32 × Int32 × Int32 × tvM) ⊕ (Int32 × tvM) := .inl (1, 0, 0, 0, M)
theorem m_X5_readForm (G : tvG) (M : tvM) (x1 : Nat) (hx1 : x1 < tvNS) (n : Nat) (r : (Int32 × tvM)) (hs : tvIter (s_X5_readForm x1) n (e_X5_readForm M x1) = some r) : tvRun G yX5_readForm cX5_readForm 6 (some .boolean) 5 0 0 tvP0 tvP0 [.ref (G.2.1 + 243), .ref (G.2.2.2.2.1 x1)] M (.inl (some (.int r.1))) r.2 := by
  refine tvRun.of yk_X5_readForm rfl [some (.ref (G.2.1 + 243)), some (.ref (G.2.2.2.2.1 x1)), none, none, none, none] rfl (Nat.le_of_ble_eq_true rfl) ?_
  intro E hG C hQ; subst hG
  have K : ∀ (n : Nat) (q : Int32 × Int32 × Int32 × Int32 × tvM), ¬ q.2.2.1 < 0 ∧ narrow .boolean (.int q.1) = .int q.1 → tvIter (s_X5_readForm x1) n (.inl q) = some r → tv_W E tvP0 0 0 q.2.2.2.2 7 [some (.ref (E.G.2.1 + 243)), some (.ref (E.G.2.2.2.2.1 x1)), some (.int q.1), some (.int q.2.1), some (.int q.2.2.1), none] [] := by
    intro n
    induction n with
    | zero => intro q hI hq; exact (tvIter_0 hq).elim
    | succ n ih =>
      intro q hI hq
      obtain ⟨y2, y3, y4, y5, M⟩ := q
      have hI : ¬ y4 < 0 ∧ narrow .boolean (.int y2) = .int y2 := hI
      have hs : tvIter (s_X5_readForm x1) n (sb_X5_readForm x1 y2 y3 y4 y5 M) = some r := tvIter_go hq
      refine tv_iload_n C dk_X5_readForm_7 rfl ?_
      refine tv_if_eq C dk_X5_readForm_8 (fun h101 => ?_) (fun h101 => ?_)
      · refine tv_iload_n C dk_X5_readForm_79 rfl ?_
        exact tv_iret C hQ dk_X5_readForm_80 hI.2 (by rw [sb_X5_readForm, if_pos h101] at hs; rw [← tvIter_out hs]) (by rw [sb_X5_readForm, if_pos h101] at hs; rw [← tvIter_out hs])
      refine tv_iload C dk_X5_readForm_11 rfl ?_
      refine tv_aload_n C dk_X5_readForm_13 rfl ?_
      refine tv_cT1 C dk_X5_readForm_14 ml_RX5_69 yk_J0_length_8abf5 yi_J0_length_8abf5 (m_J0_length_8abf5 _ M hx1) hx1 rfl rfl rfl (Nat.le_of_ble_eq_true rfl) (Nat.le_of_ble_eq_true rfl) (Nat.le_of_ble_eq_true rfl) (Nat.le_of_ble_eq_true rfl) (Nat.le_of_ble_eq_true rfl) ?_
      refine tv_icmp_ge C dk_X5_readForm_17 (fun h102 => ?_) (fun h102 => ?_)
      · refine tv_iload_n C dk_X5_readForm_79 rfl ?_
        exact tv_iret C hQ dk_X5_readForm_80 hI.2 (by rw [sb_X5_readForm, if_neg h101, if_pos h102] at hs; rw [← tvIter_out hs]) (by rw [sb_X5_readForm, if_neg h101, if_pos h102] at hs; rw [← tvIter_out hs])
      refine tv_aload_n C dk_X5_readForm_20 rfl ?_
      refine tv_iload C dk_X5_readForm_21 rfl ?_
      refine tv_cT1 C dk_X5_readForm_23 ml_RX5_83 yk_J0_charAt_5068e yi_J0_charAt_5068e (m_J0_charAt_5068e _ M hx1 (tv_sin hx1 hI.1 h102)) hx1 rfl rfl rfl (Nat.le_of_ble_eq_true rfl) (Nat.le_of_ble_eq_true rfl) (Nat.le_of_ble_eq_true rfl) (Nat.le_of_ble_eq_true rfl) (Nat.le_of_ble_eq_true rfl) ?_
      refine tv_istore (L' := [_, _, _, _, _, _]) (hn := by decide) (hlt := (Nat.le_of_ble_eq_true rfl)) (hno := rfl) C dk_X5_readForm_26 rfl ?_
      refine tv_iload C dk_X5_readForm_28 rfl ?_
      refine tv_bipush (v := 100) C dk_X5_readForm_30 (by decide) ?_
      refine tv_icmp_eq C dk_X5_readForm_32 (fun h103 => ?_) (fun h103 => ?_)
      · refine tv_aload_n C dk_X5_readForm_42 rfl ?_
        refine tv_iload_n C dk_X5_readForm_43 rfl ?_
        refine tv_iload C dk_X5_readForm_44 rfl ?_
        refine tv_bipush (v := 100) C dk_X5_readForm_46 (by decide) ?_
        refine tv_icmp_ne C dk_X5_readForm_48 (fun h => absurd h103 h) (fun _ => ?_)
        refine tv_iconst (v := 1) C dk_X5_readForm_51 (by decide) ?_
        refine tv_goto C dk_X5_readForm_52 ?_
        refine tv_cV1 C dk_X5_readForm_56 ml_RX5_86 yk_X5_readNumber yi_X5_readNumber (n_X5_readNumber _ M y3 1) (Nat.le_of_ble_eq_true rfl) rfl rfl rfl rfl (Nat.le_of_ble_eq_true rfl) (Nat.le_of_ble_eq_true rfl) (Nat.le_of_ble_eq_true rfl) (Nat.le_of_ble_eq_true rfl) (Nat.le_of_ble_eq_true rfl) ?_
        refine tv_istore_n (L' := [_, _, _, _, _, _]) (hn := by decide) (hlt := (Nat.le_of_ble_eq_true rfl)) (hno := rfl) C dk_X5_readForm_59 rfl ?_
        refine tv_iinc (v := (y3 + 1)) (L' := [_, _, _, _, _, _]) (hn := by decide) (hlt := (Nat.le_of_ble_eq_true rfl)) (hno := rfl) C dk_X5_readForm_60 rfl rfl rfl ?_
        refine tv_goto C dk_X5_readForm_63 ?_
        refine tv_iinc (v := (y4 + 1)) (L' := [_, _, _, _, _, _]) (hn := by decide) (hlt := (Nat.le_of_ble_eq_true rfl)) (hno := rfl) C dk_X5_readForm_73 rfl rfl rfl ?_
        refine tv_goto C dk_X5_readForm_76 ?_
        refine tv_drop (L2 := [some (.ref (E.G.2.1 + 243)), some (.ref (E.G.2.2.2.2.1 x1)), some (.int ((f_X5_readNumber M y3 1).1)), some (.int (y3 + 1)), some (.int (y4 + 1)), none]) (by simp [tvSubL]) ?_
        exact (ih ((f_X5_readNumber M y3 1).1, (y3 + 1), (y4 + 1), 0, (f_X5_readNumber M y3 1).2) ⟨tv_sinc hx1 hI.1 h102, fz_X5_readNumber⟩ (by rw [sb_X5_readForm, if_neg h101, if_neg h102, if_pos h103] at hs; exact hs))
      refine tv_iload C dk_X5_readForm_35 rfl ?_
      refine tv_bipush (v := 110) C dk_X5_readForm_37 (by decide) ?_
      refine tv_icmp_ne C dk_X5_readForm_39 (fun h105 => ?_) (fun h105 => ?_)
      · refine tv_aload_n C dk_X5_readForm_66 rfl ?_
        refine tv_iload C dk_X5_readForm_67 rfl ?_
        refine tv_cV1 C dk_X5_readForm_69 ml_RX5_36 yk_X5_readSign yi_X5_readSign (m_X5_readSign _ M (f_J0_charAt_5068e x1 y4)) (Nat.le_of_ble_eq_true rfl) rfl rfl rfl rfl (Nat.le_of_ble_eq_true rfl) (Nat.le_of_ble_eq_true rfl) (Nat.le_of_ble_eq_true rfl) (Nat.le_of_ble_eq_true rfl) (Nat.le_of_ble_eq_true rfl) ?_
        refine tv_istore_n (L' := [_, _, _, _, _, _]) (hn := by decide) (hlt := (Nat.le_of_ble_eq_true rfl)) (hno := rfl) C dk_X5_readForm_72 rfl ?_
        refine tv_iinc (v := (y4 + 1)) (L' := [_, _, _, _, _, _]) (hn := by decide) (hlt := (Nat.le_of_ble_eq_true rfl)) (hno := rfl) C dk_X5_readForm_73 rfl rfl rfl ?_
        refine tv_goto C dk_X5_readForm_76 ?_
        refine tv_drop (L2 := [some (.ref (E.G.2.1 + 243)), some (.ref (E.G.2.2.2.2.1 x1)), some (.int ((f_X5_readSign M (f_J0_charAt_5068e x1 y4)).1)), some (.int y3), some (.int (y4 + 1)), none]) (by simp [tvSubL]) ?_
        exact (ih ((f_X5_readSign M (f_J0_charAt_5068e x1 y4)).1, y3, (y4 + 1), 0, (f_X5_readSign M (f_J0_charAt_5068e x1 y4)).2) ⟨tv_sinc hx1 hI.1 h102, fz_X5_readSign⟩ (by rw [sb_X5_readForm, if_neg h101, if_neg h102, if_neg h103, if_neg h105] at hs; exact hs))
      refine tv_aload_n C dk_X5_readForm_42 rfl ?_
      refine tv_iload_n C dk_X5_readForm_43 rfl ?_
      refine tv_iload C dk_X5_readForm_44 rfl ?_
      refine tv_bipush (v := 100) C dk_X5_readForm_46 (by decide) ?_
      refine tv_icmp_ne C dk_X5_readForm_48 (fun _ => ?_) (fun h => absurd h h103)
      refine tv_iconst (v := 3) C dk_X5_readForm_55 (by decide) ?_
      refine tv_cV1 C dk_X5_readForm_56 ml_RX5_86 yk_X5_readNumber yi_X5_readNumber (n_X5_readNumber _ M y3 3) (Nat.le_of_ble_eq_true rfl) rfl rfl rfl rfl (Nat.le_of_ble_eq_true rfl) (Nat.le_of_ble_eq_true rfl) (Nat.le_of_ble_eq_true rfl) (Nat.le_of_ble_eq_true rfl) (Nat.le_of_ble_eq_true rfl) ?_
      refine tv_istore_n (L' := [_, _, _, _, _, _]) (hn := by decide) (hlt := (Nat.le_of_ble_eq_true rfl)) (hno := rfl) C dk_X5_readForm_59 rfl ?_
      refine tv_iinc (v := (y3 + 1)) (L' := [_, _, _, _, _, _]) (hn := by decide) (hlt := (Nat.le_of_ble_eq_true rfl)) (hno := rfl) C dk_X5_readForm_60 rfl rfl rfl ?_
      refine tv_goto C dk_X5_readForm_63 ?_
      refine tv_iinc (v := (y4 + 1)) (L' := [_, _, _, _, _, _]) (hn := by decide) (hlt := (Nat.le_of_ble_eq_true rfl)) (hno := rfl) C dk_X5_readForm_73 rfl rfl rfl ?_
      refine tv_goto C dk_X5_readForm_76 ?_
      refine tv_drop (L2 := [some (.ref (E.G.2.1 + 243)), some (.ref (E.G.2.2.2.2.1 x1)), some (.int ((f_X5_readNumber M y3 3).1)), some (.int (y3 + 1)), some (.int (y4 + 1)), none]) (by simp [tvSubL]) ?_
      exact (ih ((f_X5_readNumber M y3 3).1, (y3 + 1), (y4 + 1), 0, (f_X5_readNumber M y3 3).2) ⟨tv_sinc hx1 hI.1 h102, fz_X5_readNumber⟩ (by rw [sb_X5_readForm, if_neg h101, if_neg h102, if_neg h103, if_pos h105] at hs; exact hs))
  refine tv_iconst (v := 1) C dk_X5_readForm_0 (by decide) ?_
  refine tv_istore_n (L' := [_, _, _, _, _, _]) (hn := by decide) (hlt := (Nat.le_of_ble_eq_true rfl)) (hno := rfl) C dk_X5_readForm_1 rfl ?_
  refine tv_iconst (v := 0) C dk_X5_readForm_2 (by decide) ?_
  refine tv_istore_n (L' := [_, _, _, _, _, _]) (hn := by decide) (hlt := (Nat.le_of_ble_eq_true rfl)) (hno := rfl) C dk_X5_readForm_3 rfl ?_
  refine tv_iconst (v := 0) C dk_X5_readForm_4 (by decide) ?_
  refine tv_istore (L' := [_, _, _, _, _, _]) (hn := by decide) (hlt := (Nat.le_of_ble_eq_true rfl)) (hno := rfl) C dk_X5_readForm_5 rfl ?_
  exact (K n (1, 0, 0, 0, M) ⟨tv_f0, tvZ1⟩ (by rw [e_X5_readForm] at hs; exact hs))
def tvRfm (x1 : Nat) : Nat → Nat → Int32 → Int32 → tvM → Int32 × tvM
  | 0, _, _, y2, M => (y2, M)
  | n + 1, i, y3, y2, M => if y2 = 0 then (y2, M) else if f_J0_charAt_5068e x1 (nI i) = 100 then tvRfm x1 n (i + 1) (y3 + 1) (f_X5_readNumber M y3 1).1 (f_X5_readNumber M y3 1).2 else if f_J0_charAt_5068e x1 (nI i) = 110 then tvRfm x1 n (i + 1) (y3 + 1) (f_X5_readNumber M y3 3).1 (f_X5_readNumber M y3 3).2 else tvRfm x1 n (i + 1) y3 (f_X5_readSign M (f_J0_charAt_5068e x1 (nI i))).1 (f_X5_readSign M (f_J0_charAt_5068e x1 (nI i))).2
def f_X5_readForm (M : tvM) (x1 : Nat) : Int32 × tvM := tvRfm x1 (tvLen.getD x1 0) 0 0 1 M
theorem r_X5_readForm (M : tvM) (x1 : Nat) (hx1 : x1 < tvNS) : ∃ n, tvIter (s_X5_readForm x1) n (e_X5_readForm M x1) = some (f_X5_readForm M x1) := by
  have hl := tvLen_ok x1 hx1
  have key : ∀ n i y3 y2 (M : tvM), i + n = tvLen.getD x1 0 → ∃ m, tvIter (s_X5_readForm x1) m (.inl (y2, y3, nI i, 0, M)) = some (tvRfm x1 n i y3 y2 M) := by
    intro n
    induction n with
    | zero =>
      intro i y3 y2 M hi
      have h : f_J0_length_8abf5 x1 ≤ nI i := nI_le (by omega) (by omega)
      refine tvIter_e ?_
      simp only [s_X5_readForm, sb_X5_readForm, tvRfm, if_pos h]
      split <;> rfl
    | succ n ih =>
      intro i y3 y2 M hi
      have h : ¬ f_J0_length_8abf5 x1 ≤ nI i := nI_ge (by omega) (by omega)
      rw [tvRfm]
      by_cases h0 : y2 = 0
      · rw [if_pos h0]
        exact tvIter_e (by simp only [s_X5_readForm, sb_X5_readForm, if_pos h0])
      · rw [if_neg h0]
        by_cases h1 : f_J0_charAt_5068e x1 (nI i) = 100
        · rw [if_pos h1]
          exact tvIter_1 (by simp only [s_X5_readForm, sb_X5_readForm, if_neg h0, if_neg h, if_pos h1, nI_1]) (ih _ _ _ _ (by omega))
        · rw [if_neg h1]
          by_cases h2 : f_J0_charAt_5068e x1 (nI i) = 110
          · rw [if_pos h2]
            exact tvIter_1 (by simp only [s_X5_readForm, sb_X5_readForm, if_neg h0, if_neg h, if_neg h1, if_pos h2, nI_1]) (ih _ _ _ _ (by omega))
          · rw [if_neg h2]
            exact tvIter_1 (by simp only [s_X5_readForm, sb_X5_readForm, if_neg h0, if_neg h, if_neg h1, if_neg h2, nI_1]) (ih _ _ _ _ (by omega))
  exact key _ 0 0 1 M (by omega)
theorem n_X5_readForm (G : tvG) (M : tvM) (x1 : Nat) (hx1 : x1 < tvNS) : tvRun G yX5_readForm cX5_readForm 6 (some .boolean) 5 0 0 tvP0 tvP0 [.ref (G.2.1 + 243), .ref (G.2.2.2.2.1 x1)] M (.inl (some (.int (f_X5_readForm M x1).1))) ((f_X5_readForm M x1).2) := by
  obtain ⟨n, hn⟩ := r_X5_readForm M x1 hx1
  exact m_X5_readForm G M x1 hx1 n _ hn
theorem tvRfm_z (x1 : Nat) : ∀ n i y3 y2 M, narrow .boolean (.int y2) = .int y2 → narrow .boolean (.int (tvRfm x1 n i y3 y2 M).1) = .int (tvRfm x1 n i y3 y2 M).1 := by
  intro n
  induction n with
  | zero => intro i y3 y2 M h; exact h
  | succ n ih =>
    intro i y3 y2 M h
    rw [tvRfm]
    split
    · exact h
    · split
      · exact ih _ _ _ _ fz_X5_readNumber
      · split
        · exact ih _ _ _ _ fz_X5_readNumber
        · exact ih _ _ _ _ fz_X5_readSign
theorem fz_X5_readForm {M : tvM} {x1 : Nat} : narrow .boolean (.int (f_X5_readForm M x1).1) = .int (f_X5_readForm M x1).1 := tvRfm_z _ _ _ _ _ _ rfl
/-- TideVault$Program.readCommand()Z -/
def f_X5_readCommand (M : tvM) : Int32 × tvM := (if (f_X5_readVerb M).1 = (-1) then (0, (f_X5_readVerb M).2) else (if (tgi ((f_X5_readVerb M).2) 243 3) < 0 then (0, (f_X5_readVerb M).2) else (if (tgi ((f_X5_readVerb M).2) 243 3) < 60 then (if (f_X5_readVerb M).1 = 8 then (if (f_X5_sign (f_X5_setArgument (tpi ((f_X5_readVerb M).2) 245 (tgi ((f_X5_readVerb M).2) 243 3).toNatClampNeg ((f_X5_readVerb M).1)) 0 1)) = 32 then ((f_X5_readForm (f_X5_setArgument (tpi ((f_X5_readVerb M).2) 245 (tgi ((f_X5_readVerb M).2) 243 3).toNatClampNeg ((f_X5_readVerb M).1)) 0 1) 9).1, (tpi ((f_X5_readForm (f_X5_setArgument (tpi ((f_X5_readVerb M).2) 245 (tgi ((f_X5_readVerb M).2) 243 3).toNatClampNeg ((f_X5_readVerb M).1)) 0 1) 9).2) 243 3 ((tgi ((f_X5_readForm (f_X5_setArgument (tpi ((f_X5_readVerb M).2) 245 (tgi ((f_X5_readVerb M).2) 243 3).toNatClampNeg ((f_X5_readVerb M).1)) 0 1) 9).2) 243 3) + 1))) else ((f_X5_readForm (f_X5_setArgument (tpi ((f_X5_readVerb M).2) 245 (tgi ((f_X5_readVerb M).2) 243 3).toNatClampNeg ((f_X5_readVerb M).1)) 0 1) (f_X5_formOf ((f_X5_readVerb M).1))).1, (tpi ((f_X5_readForm (f_X5_setArgument (tpi ((f_X5_readVerb M).2) 245 (tgi ((f_X5_readVerb M).2) 243 3).toNatClampNeg ((f_X5_readVerb M).1)) 0 1) (f_X5_formOf ((f_X5_readVerb M).1))).2) 243 3 ((tgi ((f_X5_readForm (f_X5_setArgument (tpi ((f_X5_readVerb M).2) 245 (tgi ((f_X5_readVerb M).2) 243 3).toNatClampNeg ((f_X5_readVerb M).1)) 0 1) (f_X5_formOf ((f_X5_readVerb M).1))).2) 243 3) + 1)))) else ((f_X5_readForm (tpi ((f_X5_readVerb M).2) 245 (tgi ((f_X5_readVerb M).2) 243 3).toNatClampNeg ((f_X5_readVerb M).1)) (f_X5_formOf ((f_X5_readVerb M).1))).1, (tpi ((f_X5_readForm (tpi ((f_X5_readVerb M).2) 245 (tgi ((f_X5_readVerb M).2) 243 3).toNatClampNeg ((f_X5_readVerb M).1)) (f_X5_formOf ((f_X5_readVerb M).1))).2) 243 3 ((tgi ((f_X5_readForm (tpi ((f_X5_readVerb M).2) 245 (tgi ((f_X5_readVerb M).2) 243 3).toNatClampNeg ((f_X5_readVerb M).1)) (f_X5_formOf ((f_X5_readVerb M).1))).2) 243 3) + 1)))) else (0, (f_X5_readVerb M).2))))
theorem m_X5_readCommand (G : tvG) (M : tvM) : tvRun G yX5_readCommand cX5_readCommand 3 (some .boolean) 7 0 0 tvP0 tvP0 [.ref (G.2.1 + 243)] M (.inl (some (.int (f_X5_readCommand M).1))) ((f_X5_readCommand M).2) := by
  refine tvRun.of yk_X5_readCommand rfl [some (.ref (G.2.1 + 243)), none, none] rfl (Nat.le_of_ble_eq_true rfl) ?_
  intro E hG C hQ; subst hG
  refine tv_aload_n C dk_X5_readCommand_0 rfl ?_
  refine tv_cV1 C dk_X5_readCommand_1 ml_RX5_40 yk_X5_readVerb yi_X5_readVerb (n_X5_readVerb _ M) (Nat.le_of_ble_eq_true rfl) rfl rfl rfl rfl (Nat.le_of_ble_eq_true rfl) (Nat.le_of_ble_eq_true rfl) (Nat.le_of_ble_eq_true rfl) (Nat.le_of_ble_eq_true rfl) (Nat.le_of_ble_eq_true rfl) ?_
  refine tv_istore_n (L' := [_, _, _]) (hn := by decide) (hlt := (Nat.le_of_ble_eq_true rfl)) (hno := rfl) C dk_X5_readCommand_4 rfl ?_
  refine tv_iload_n C dk_X5_readCommand_5 rfl ?_
  refine tv_iconst (v := (-1)) C dk_X5_readCommand_6 (by decide) ?_
  refine tv_icmp_eq C dk_X5_readCommand_7 (fun h1 => ?_) (fun h1 => ?_)
  · refine tv_iconst (v := 0) C dk_X5_readCommand_26 (by decide) ?_
    exact tv_iret C hQ dk_X5_readCommand_27 rfl (by rw [f_X5_readCommand, if_pos h1]) (by rw [f_X5_readCommand, if_pos h1])
  refine tv_aload_n C dk_X5_readCommand_10 rfl ?_
  refine tv_getI C dk_X5_readCommand_11 fl_RX5_29 (Nat.le_of_ble_eq_true rfl) rfl (fun _ _ _ _ => rfl) ?_
  refine tv_if_lt C dk_X5_readCommand_14 (fun h2 => ?_) (fun h2 => ?_)
  · refine tv_iconst (v := 0) C dk_X5_readCommand_26 (by decide) ?_
    exact tv_iret C hQ dk_X5_readCommand_27 rfl (by rw [f_X5_readCommand, if_neg h1, if_pos h2]) (by rw [f_X5_readCommand, if_neg h1, if_pos h2])
  refine tv_aload_n C dk_X5_readCommand_17 rfl ?_
  refine tv_getI C dk_X5_readCommand_18 fl_RX5_29 (Nat.le_of_ble_eq_true rfl) rfl (fun _ _ _ _ => rfl) ?_
  refine tv_bipush (v := 60) C dk_X5_readCommand_21 (by decide) ?_
  refine tv_icmp_lt C dk_X5_readCommand_23 (fun h3 => ?_) (fun h3 => ?_)
  · refine tv_aload_n C dk_X5_readCommand_28 rfl ?_
    refine tv_getR (r := 245) C dk_X5_readCommand_29 fl_RX5_15 (Nat.le_of_ble_eq_true rfl) rfl rfl (fun _ _ _ _ => rfl) ?_
    refine tv_aload_n C dk_X5_readCommand_32 rfl ?_
    refine tv_getI C dk_X5_readCommand_33 fl_RX5_29 (Nat.le_of_ble_eq_true rfl) rfl (fun _ _ _ _ => rfl) ?_
    refine tv_iload_n C dk_X5_readCommand_36 rfl ?_
    refine tv_iast (j := (tgi ((f_X5_readVerb M).2) 243 3).toNatClampNeg) rfl C tvP0_ex dk_X5_readCommand_37 (Nat.le_of_ble_eq_true rfl) rfl (tvin_3 (n := 60) h2 h3 rfl (by decide)) ?_
    refine tv_iload_n C dk_X5_readCommand_38 rfl ?_
    refine tv_bipush (v := 8) C dk_X5_readCommand_39 (by decide) ?_
    refine tv_icmp_ne C dk_X5_readCommand_41 (fun h4 => ?_) (fun h4 => ?_)
    · refine tv_aload_n C dk_X5_readCommand_50 rfl ?_
      refine tv_iload_n C dk_X5_readCommand_51 rfl ?_
      refine tv_bipush (v := 8) C dk_X5_readCommand_52 (by decide) ?_
      refine tv_icmp_ne C dk_X5_readCommand_54 (fun _ => ?_) (fun h => absurd h h4)
      refine tv_iload_n C dk_X5_readCommand_71 rfl ?_
      refine tv_cS1 C dk_X5_readCommand_72 ml_RX5_54 yk_X5_formOf yi_X5_formOf (m_X5_formOf _ (tpi ((f_X5_readVerb M).2) 245 (tgi ((f_X5_readVerb M).2) 243 3).toNatClampNeg ((f_X5_readVerb M).1)) ((f_X5_readVerb M).1)) rfl rfl (Nat.le_of_ble_eq_true rfl) (Nat.le_of_ble_eq_true rfl) (Nat.le_of_ble_eq_true rfl) (Nat.le_of_ble_eq_true rfl) (Nat.le_of_ble_eq_true rfl) ?_
      refine tv_cV1 C dk_X5_readCommand_75 ml_RX5_58 yk_X5_readForm yi_X5_readForm (n_X5_readForm _ (tpi ((f_X5_readVerb M).2) 245 (tgi ((f_X5_readVerb M).2) 243 3).toNatClampNeg ((f_X5_readVerb M).1)) (f_X5_formOf ((f_X5_readVerb M).1)) (f_X5_formOf_lt _)) (Nat.le_of_ble_eq_true rfl) rfl rfl rfl rfl (Nat.le_of_ble_eq_true rfl) (Nat.le_of_ble_eq_true rfl) (Nat.le_of_ble_eq_true rfl) (Nat.le_of_ble_eq_true rfl) (Nat.le_of_ble_eq_true rfl) ?_
      refine tv_istore_n (L' := [_, _, _]) (hn := by decide) (hlt := (Nat.le_of_ble_eq_true rfl)) (hno := rfl) C dk_X5_readCommand_78 rfl ?_
      refine tv_aload_n C dk_X5_readCommand_79 rfl ?_
      refine tv_dup C dk_X5_readCommand_80 rfl ?_
      refine tv_getI C dk_X5_readCommand_81 fl_RX5_29 (Nat.le_of_ble_eq_true rfl) rfl (fun _ _ _ _ => rfl) ?_
      refine tv_iconst (v := 1) C dk_X5_readCommand_84 (by decide) ?_
      refine tv_iadd C dk_X5_readCommand_85 ?_
      refine tv_putI C tvP0_ex dk_X5_readCommand_86 fl_RX5_29 fw_5_3 (Nat.le_of_ble_eq_true rfl) rfl rfl (fun _ _ _ _ _ => rfl) rfl rfl ?_
      refine tv_iload_n C dk_X5_readCommand_89 rfl ?_
      exact tv_iret C hQ dk_X5_readCommand_90 (fz_X5_readForm) (by rw [f_X5_readCommand, if_neg h1, if_neg h2, if_pos h3, if_neg h4]) (by rw [f_X5_readCommand, if_neg h1, if_neg h2, if_pos h3, if_neg h4])
    refine tv_aload_n C dk_X5_readCommand_44 rfl ?_
    refine tv_iconst (v := 0) C dk_X5_readCommand_45 (by decide) ?_
    refine tv_iconst (v := 1) C dk_X5_readCommand_46 (by decide) ?_
    refine tv_cV0 C dk_X5_readCommand_47 ml_RX5_44 yk_X5_setArgument yi_X5_setArgument (m_X5_setArgument _ (tpi ((f_X5_readVerb M).2) 245 (tgi ((f_X5_readVerb M).2) 243 3).toNatClampNeg ((f_X5_readVerb M).1)) 0 1) (Nat.le_of_ble_eq_true rfl) rfl rfl rfl rfl (Nat.le_of_ble_eq_true rfl) (Nat.le_of_ble_eq_true rfl) (Nat.le_of_ble_eq_true rfl) (Nat.le_of_ble_eq_true rfl) (Nat.le_of_ble_eq_true rfl) ?_
    refine tv_aload_n C dk_X5_readCommand_50 rfl ?_
    refine tv_iload_n C dk_X5_readCommand_51 rfl ?_
    refine tv_bipush (v := 8) C dk_X5_readCommand_52 (by decide) ?_
    refine tv_icmp_ne C dk_X5_readCommand_54 (fun h => absurd h4 h) (fun _ => ?_)
    refine tv_aload_n C dk_X5_readCommand_57 rfl ?_
    refine tv_cV1 C dk_X5_readCommand_58 ml_RX5_48 yk_X5_sign yi_X5_sign (m_X5_sign _ (f_X5_setArgument (tpi ((f_X5_readVerb M).2) 245 (tgi ((f_X5_readVerb M).2) 243 3).toNatClampNeg ((f_X5_readVerb M).1)) 0 1)) (Nat.le_of_ble_eq_true rfl) rfl rfl rfl rfl (Nat.le_of_ble_eq_true rfl) (Nat.le_of_ble_eq_true rfl) (Nat.le_of_ble_eq_true rfl) (Nat.le_of_ble_eq_true rfl) (Nat.le_of_ble_eq_true rfl) ?_
    refine tv_bipush (v := 32) C dk_X5_readCommand_61 (by decide) ?_
    refine tv_icmp_ne C dk_X5_readCommand_63 (fun h7 => ?_) (fun h7 => ?_)
    · refine tv_iload_n C dk_X5_readCommand_71 rfl ?_
      refine tv_cS1 C dk_X5_readCommand_72 ml_RX5_54 yk_X5_formOf yi_X5_formOf (m_X5_formOf _ (f_X5_setArgument (tpi ((f_X5_readVerb M).2) 245 (tgi ((f_X5_readVerb M).2) 243 3).toNatClampNeg ((f_X5_readVerb M).1)) 0 1) ((f_X5_readVerb M).1)) rfl rfl (Nat.le_of_ble_eq_true rfl) (Nat.le_of_ble_eq_true rfl) (Nat.le_of_ble_eq_true rfl) (Nat.le_of_ble_eq_true rfl) (Nat.le_of_ble_eq_true rfl) ?_
      refine tv_cV1 C dk_X5_readCommand_75 ml_RX5_58 yk_X5_readForm yi_X5_readForm (n_X5_readForm _ (f_X5_setArgument (tpi ((f_X5_readVerb M).2) 245 (tgi ((f_X5_readVerb M).2) 243 3).toNatClampNeg ((f_X5_readVerb M).1)) 0 1) (f_X5_formOf ((f_X5_readVerb M).1)) (f_X5_formOf_lt _)) (Nat.le_of_ble_eq_true rfl) rfl rfl rfl rfl (Nat.le_of_ble_eq_true rfl) (Nat.le_of_ble_eq_true rfl) (Nat.le_of_ble_eq_true rfl) (Nat.le_of_ble_eq_true rfl) (Nat.le_of_ble_eq_true rfl) ?_
      refine tv_istore_n (L' := [_, _, _]) (hn := by decide) (hlt := (Nat.le_of_ble_eq_true rfl)) (hno := rfl) C dk_X5_readCommand_78 rfl ?_
      refine tv_aload_n C dk_X5_readCommand_79 rfl ?_
      refine tv_dup C dk_X5_readCommand_80 rfl ?_
      refine tv_getI C dk_X5_readCommand_81 fl_RX5_29 (Nat.le_of_ble_eq_true rfl) rfl (fun _ _ _ _ => rfl) ?_
      refine tv_iconst (v := 1) C dk_X5_readCommand_84 (by decide) ?_
      refine tv_iadd C dk_X5_readCommand_85 ?_
      refine tv_putI C tvP0_ex dk_X5_readCommand_86 fl_RX5_29 fw_5_3 (Nat.le_of_ble_eq_true rfl) rfl rfl (fun _ _ _ _ _ => rfl) rfl rfl ?_
      refine tv_iload_n C dk_X5_readCommand_89 rfl ?_
      exact tv_iret C hQ dk_X5_readCommand_90 (fz_X5_readForm) (by rw [f_X5_readCommand, if_neg h1, if_neg h2, if_pos h3, if_pos h4, if_neg h7]) (by rw [f_X5_readCommand, if_neg h1, if_neg h2, if_pos h3, if_pos h4, if_neg h7])
    refine tv_ldcS (i := 9) C dk_X5_readCommand_66 (List.mem_of_getElem? (i := 9) rfl) ?_
    refine tv_goto C dk_X5_readCommand_68 ?_
    refine tv_cV1 C dk_X5_readCommand_75 ml_RX5_58 yk_X5_readForm yi_X5_readForm (n_X5_readForm _ (f_X5_setArgument (tpi ((f_X5_readVerb M).2) 245 (tgi ((f_X5_readVerb M).2) 243 3).toNatClampNeg ((f_X5_readVerb M).1)) 0 1) 9 (by decide)) (Nat.le_of_ble_eq_true rfl) rfl rfl rfl rfl (Nat.le_of_ble_eq_true rfl) (Nat.le_of_ble_eq_true rfl) (Nat.le_of_ble_eq_true rfl) (Nat.le_of_ble_eq_true rfl) (Nat.le_of_ble_eq_true rfl) ?_
    refine tv_istore_n (L' := [_, _, _]) (hn := by decide) (hlt := (Nat.le_of_ble_eq_true rfl)) (hno := rfl) C dk_X5_readCommand_78 rfl ?_
    refine tv_aload_n C dk_X5_readCommand_79 rfl ?_
    refine tv_dup C dk_X5_readCommand_80 rfl ?_
    refine tv_getI C dk_X5_readCommand_81 fl_RX5_29 (Nat.le_of_ble_eq_true rfl) rfl (fun _ _ _ _ => rfl) ?_
    refine tv_iconst (v := 1) C dk_X5_readCommand_84 (by decide) ?_
    refine tv_iadd C dk_X5_readCommand_85 ?_
    refine tv_putI C tvP0_ex dk_X5_readCommand_86 fl_RX5_29 fw_5_3 (Nat.le_of_ble_eq_true rfl) rfl rfl (fun _ _ _ _ _ => rfl) rfl rfl ?_
    refine tv_iload_n C dk_X5_readCommand_89 rfl ?_
    exact tv_iret C hQ dk_X5_readCommand_90 (fz_X5_readForm) (by rw [f_X5_readCommand, if_neg h1, if_neg h2, if_pos h3, if_pos h4, if_pos h7]) (by rw [f_X5_readCommand, if_neg h1, if_neg h2, if_pos h3, if_pos h4, if_pos h7])
  refine tv_iconst (v := 0) C dk_X5_readCommand_26 (by decide) ?_
  exact tv_iret C hQ dk_X5_readCommand_27 rfl (by rw [f_X5_readCommand, if_neg h1, if_neg h2, if_neg h3]) (by rw [f_X5_readCommand, if_neg h1, if_neg h2, if_neg h3])
theorem fz_X5_readCommand {M : tvM} : narrow .boolean (.int (f_X5_readCommand M).1) = .int ((f_X5_readCommand M).1) := by
  unfold f_X5_readCommand; repeat' split
  all_goals try dsimp only
  all_goals first | exact (fz_X5_readForm) | rfl
/-- TideVault$Program.parse()I -/
def sb_X5_parse (y1 : Int32) (y2 : Int32) (M : tvM) : (Int32 × Int32 × tvM) ⊕ (Int32 × tvM) := (if 60 ≤ y2 then (if y1 = 0 then .inr ((tgi M 243 2), M) else .inr ((-1), M)) else (if y1 = 0 then .inr ((tgi M 243 2), M) else (if (tgi M 243 1) ≤ (tgi M 243 2) then .inr ((-1), M) else (if (f_X5_readSign M 59).1 = 0 then .inl (0, (y2 + 1), (f_X5_readSign M 59).2) else (if (f_X5_readCommand ((f_X5_readSign M 59).2)).1 = 0 then .inl (0, (y2 + 1), (f_X5_readCommand ((f_X5_readSign M 59).2)).2) else .inl (1, (y2 + 1), (f_X5_readCommand ((f_X5_readSign M 59).2)).2))))))
def s_X5_parse : (Int32 × Int32 × tvM) → (Int32 × Int32 × tvM) ⊕ (Int32 × tvM) := fun q => sb_X5_parse q.1 q.2.1 q.2.2
def e_X5_parse (M : tvM) : (Int32 × Int32 × tvM) ⊕ (Int32 × tvM) := .inl ((f_X5_readCommand (tpi (tpi M 243 2 0) 243 3 0)).1, 0, (f_X5_readCommand (tpi (tpi M 243 2 0) 243 3 0)).2)
theorem m_X5_parse (G : tvG) (M : tvM) (n : Nat) (r : (Int32 × tvM)) (hs : tvIter (s_X5_parse) n (e_X5_parse M) = some r) : tvRun G yX5_parse cX5_parse 3 (some .int) 8 0 0 tvP0 tvP0 [.ref (G.2.1 + 243)] M (.inl (some (.int r.1))) r.2 := by
  refine tvRun.of yk_X5_parse rfl [some (.ref (G.2.1 + 243)), none, none] rfl (Nat.le_of_ble_eq_true rfl) ?_
  intro E hG C hQ; subst hG
  have K : ∀ (n : Nat) (y1 : Int32) (y2 : Int32) (M : tvM), tvIter (s_X5_parse) n (.inl (y1, y2, M)) = some r → tv_W E tvP0 0 0 M 17 [some (.ref (E.G.2.1 + 243)), some (.int y1), some (.int y2)] [] := by
    intro n
    induction n with
    | zero => intro y1 y2 M hq; exact (tvIter_0 hq).elim
    | succ n ih =>
      intro y1 y2 M hq
      have hs : tvIter (s_X5_parse) n (sb_X5_parse y1 y2 M) = some r := by have h9 := tvIter_go hq; exact h9
      refine tv_iload_n C dk_X5_parse_17 rfl ?_
      refine tv_bipush (v := 60) C dk_X5_parse_18 (by decide) ?_
      refine tv_icmp_ge C dk_X5_parse_20 (fun h101 => ?_) (fun h101 => ?_)
      · refine tv_iload_n C dk_X5_parse_66 rfl ?_
        refine tv_if_eq C dk_X5_parse_67 (fun h102 => ?_) (fun h102 => ?_)
        · refine tv_aload_n C dk_X5_parse_74 rfl ?_
          refine tv_getI C dk_X5_parse_75 fl_RX5_26 (Nat.le_of_ble_eq_true rfl) rfl (fun _ _ _ _ => rfl) ?_
          exact tv_iret C hQ dk_X5_parse_78 rfl (by rw [sb_X5_parse, if_pos h101, if_pos h102] at hs; rw [← tvIter_out hs]) (by rw [sb_X5_parse, if_pos h101, if_pos h102] at hs; rw [← tvIter_out hs])
        refine tv_iconst (v := (-1)) C dk_X5_parse_70 (by decide) ?_
        refine tv_goto C dk_X5_parse_71 ?_
        exact tv_iret C hQ dk_X5_parse_78 rfl (by rw [sb_X5_parse, if_pos h101, if_neg h102] at hs; rw [← tvIter_out hs]) (by rw [sb_X5_parse, if_pos h101, if_neg h102] at hs; rw [← tvIter_out hs])
      refine tv_iload_n C dk_X5_parse_23 rfl ?_
      refine tv_if_eq C dk_X5_parse_24 (fun h103 => ?_) (fun h103 => ?_)
      · refine tv_iload_n C dk_X5_parse_66 rfl ?_
        refine tv_if_eq C dk_X5_parse_67 (fun _ => ?_) (fun h => absurd h103 h)
        refine tv_aload_n C dk_X5_parse_74 rfl ?_
        refine tv_getI C dk_X5_parse_75 fl_RX5_26 (Nat.le_of_ble_eq_true rfl) rfl (fun _ _ _ _ => rfl) ?_
        exact tv_iret C hQ dk_X5_parse_78 rfl (by rw [sb_X5_parse, if_neg h101, if_pos h103] at hs; rw [← tvIter_out hs]) (by rw [sb_X5_parse, if_neg h101, if_pos h103] at hs; rw [← tvIter_out hs])
      refine tv_aload_n C dk_X5_parse_27 rfl ?_
      refine tv_getI C dk_X5_parse_28 fl_RX5_26 (Nat.le_of_ble_eq_true rfl) rfl (fun _ _ _ _ => rfl) ?_
      refine tv_aload_n C dk_X5_parse_31 rfl ?_
      refine tv_getI C dk_X5_parse_32 fl_RX5_22 (Nat.le_of_ble_eq_true rfl) rfl (fun _ _ _ _ => rfl) ?_
      refine tv_icmp_ge C dk_X5_parse_35 (fun h105 => ?_) (fun h105 => ?_)
      · refine tv_iload_n C dk_X5_parse_66 rfl ?_
        refine tv_if_eq C dk_X5_parse_67 (fun h => absurd h h103) (fun _ => ?_)
        refine tv_iconst (v := (-1)) C dk_X5_parse_70 (by decide) ?_
        refine tv_goto C dk_X5_parse_71 ?_
        exact tv_iret C hQ dk_X5_parse_78 rfl (by rw [sb_X5_parse, if_neg h101, if_neg h103, if_pos h105] at hs; rw [← tvIter_out hs]) (by rw [sb_X5_parse, if_neg h101, if_neg h103, if_pos h105] at hs; rw [← tvIter_out hs])
      refine tv_aload_n C dk_X5_parse_38 rfl ?_
      refine tv_bipush (v := 59) C dk_X5_parse_39 (by decide) ?_
      refine tv_cV1 C dk_X5_parse_41 ml_RX5_36 yk_X5_readSign yi_X5_readSign (m_X5_readSign _ M 59) (Nat.le_of_ble_eq_true rfl) rfl rfl rfl rfl (Nat.le_of_ble_eq_true rfl) (Nat.le_of_ble_eq_true rfl) (Nat.le_of_ble_eq_true rfl) (Nat.le_of_ble_eq_true rfl) (Nat.le_of_ble_eq_true rfl) ?_
      refine tv_if_eq C dk_X5_parse_44 (fun h107 => ?_) (fun h107 => ?_)
      · refine tv_iconst (v := 0) C dk_X5_parse_58 (by decide) ?_
        refine tv_istore_n (L' := [_, _, _]) (hn := by decide) (hlt := (Nat.le_of_ble_eq_true rfl)) (hno := rfl) C dk_X5_parse_59 rfl ?_
        refine tv_iinc (v := (y2 + 1)) (L' := [_, _, _]) (hn := by decide) (hlt := (Nat.le_of_ble_eq_true rfl)) (hno := rfl) C dk_X5_parse_60 rfl rfl rfl ?_
        refine tv_goto C dk_X5_parse_63 ?_
        exact (ih 0 (y2 + 1) ((f_X5_readSign M 59).2) (by rw [sb_X5_parse, if_neg h101, if_neg h103, if_neg h105, if_pos h107] at hs; exact hs))
      refine tv_aload_n C dk_X5_parse_47 rfl ?_
      refine tv_cV1 C dk_X5_parse_48 ml_RX5_32 yk_X5_readCommand yi_X5_readCommand (m_X5_readCommand _ ((f_X5_readSign M 59).2)) (Nat.le_of_ble_eq_true rfl) rfl rfl rfl rfl (Nat.le_of_ble_eq_true rfl) (Nat.le_of_ble_eq_true rfl) (Nat.le_of_ble_eq_true rfl) (Nat.le_of_ble_eq_true rfl) (Nat.le_of_ble_eq_true rfl) ?_
      refine tv_if_eq C dk_X5_parse_51 (fun h108 => ?_) (fun h108 => ?_)
      · refine tv_iconst (v := 0) C dk_X5_parse_58 (by decide) ?_
        refine tv_istore_n (L' := [_, _, _]) (hn := by decide) (hlt := (Nat.le_of_ble_eq_true rfl)) (hno := rfl) C dk_X5_parse_59 rfl ?_
        refine tv_iinc (v := (y2 + 1)) (L' := [_, _, _]) (hn := by decide) (hlt := (Nat.le_of_ble_eq_true rfl)) (hno := rfl) C dk_X5_parse_60 rfl rfl rfl ?_
        refine tv_goto C dk_X5_parse_63 ?_
        exact (ih 0 (y2 + 1) ((f_X5_readCommand ((f_X5_readSign M 59).2)).2) (by rw [sb_X5_parse, if_neg h101, if_neg h103, if_neg h105, if_neg h107, if_pos h108] at hs; exact hs))
      refine tv_iconst (v := 1) C dk_X5_parse_54 (by decide) ?_
      refine tv_goto C dk_X5_parse_55 ?_
      refine tv_istore_n (L' := [_, _, _]) (hn := by decide) (hlt := (Nat.le_of_ble_eq_true rfl)) (hno := rfl) C dk_X5_parse_59 rfl ?_
      refine tv_iinc (v := (y2 + 1)) (L' := [_, _, _]) (hn := by decide) (hlt := (Nat.le_of_ble_eq_true rfl)) (hno := rfl) C dk_X5_parse_60 rfl rfl rfl ?_
      refine tv_goto C dk_X5_parse_63 ?_
      exact (ih 1 (y2 + 1) ((f_X5_readCommand ((f_X5_readSign M 59).2)).2) (by rw [sb_X5_parse, if_neg h101, if_neg h103, if_neg h105, if_neg h107, if_neg h108] at hs; exact hs))
  refine tv_aload_n C dk_X5_parse_0 rfl ?_
  refine tv_iconst (v := 0) C dk_X5_parse_1 (by decide) ?_
  refine tv_putI C tvP0_ex dk_X5_parse_2 fl_RX5_26 fw_5_2 (Nat.le_of_ble_eq_true rfl) rfl rfl (fun _ _ _ _ _ => rfl) rfl rfl ?_
  refine tv_aload_n C dk_X5_parse_5 rfl ?_
  refine tv_iconst (v := 0) C dk_X5_parse_6 (by decide) ?_
  refine tv_putI C tvP0_ex dk_X5_parse_7 fl_RX5_29 fw_5_3 (Nat.le_of_ble_eq_true rfl) rfl rfl (fun _ _ _ _ _ => rfl) rfl rfl ?_
  refine tv_aload_n C dk_X5_parse_10 rfl ?_
  refine tv_cV1 C dk_X5_parse_11 ml_RX5_32 yk_X5_readCommand yi_X5_readCommand (m_X5_readCommand _ (tpi (tpi M 243 2 0) 243 3 0)) (Nat.le_of_ble_eq_true rfl) rfl rfl rfl rfl (Nat.le_of_ble_eq_true rfl) (Nat.le_of_ble_eq_true rfl) (Nat.le_of_ble_eq_true rfl) (Nat.le_of_ble_eq_true rfl) (Nat.le_of_ble_eq_true rfl) ?_
  refine tv_istore_n (L' := [_, _, _]) (hn := by decide) (hlt := (Nat.le_of_ble_eq_true rfl)) (hno := rfl) C dk_X5_parse_14 rfl ?_
  refine tv_iconst (v := 0) C dk_X5_parse_15 (by decide) ?_
  refine tv_istore_n (L' := [_, _, _]) (hn := by decide) (hlt := (Nat.le_of_ble_eq_true rfl)) (hno := rfl) C dk_X5_parse_16 rfl ?_
  exact (K n ((f_X5_readCommand (tpi (tpi M 243 2 0) 243 3 0)).1) 0 ((f_X5_readCommand (tpi (tpi M 243 2 0) 243 3 0)).2) (by rw [e_X5_parse] at hs; exact hs))
def tvPs : Nat → Int32 → tvM → Int32 × tvM
  | 0, y1, M => (if y1 = 0 then tgi M 243 2 else -1, M)
  | n + 1, y1, M => if y1 = 0 then (tgi M 243 2, M) else if tgi M 243 1 ≤ tgi M 243 2 then (-1, M) else if (f_X5_readSign M 59).1 = 0 then tvPs n 0 (f_X5_readSign M 59).2 else tvPs n (if (f_X5_readCommand (f_X5_readSign M 59).2).1 = 0 then 0 else 1) (f_X5_readCommand (f_X5_readSign M 59).2).2
def f_X5_parse (M : tvM) : Int32 × tvM := tvPs 60 (f_X5_readCommand (tpi (tpi M 243 2 0) 243 3 0)).1 (f_X5_readCommand (tpi (tpi M 243 2 0) 243 3 0)).2
theorem r_X5_parse (M : tvM) : ∃ n, tvIter (s_X5_parse) n (e_X5_parse M) = some (f_X5_parse M) := by
  have key : ∀ n i y1 (M : tvM), i + n = 60 → ∃ m, tvIter s_X5_parse m (.inl (y1, nI i, M)) = some (tvPs n y1 M) := by
    intro n
    induction n with
    | zero =>
      intro i y1 M hi
      have h : (60 : Int32) ≤ nI i := nI_le (a := 60) (by omega) (by omega)
      refine tvIter_e ?_
      simp only [s_X5_parse, sb_X5_parse, if_pos h, tvPs]
      split <;> rfl
    | succ n ih =>
      intro i y1 M hi
      have h : ¬ (60 : Int32) ≤ nI i := nI_ge (b := 60) (by omega) (by omega)
      rw [tvPs]
      by_cases h0 : y1 = 0
      · rw [if_pos h0]
        exact tvIter_e (by simp only [s_X5_parse, sb_X5_parse, if_neg h, if_pos h0])
      · rw [if_neg h0]
        by_cases h1 : tgi M 243 1 ≤ tgi M 243 2
        · rw [if_pos h1]
          exact tvIter_e (by simp only [s_X5_parse, sb_X5_parse, if_neg h, if_neg h0, if_pos h1])
        · rw [if_neg h1]
          by_cases h2 : (f_X5_readSign M 59).1 = 0
          · rw [if_pos h2]
            exact tvIter_1 (by simp only [s_X5_parse, sb_X5_parse, if_neg h, if_neg h0, if_neg h1, if_pos h2, nI_1]) (ih (i + 1) _ _ (by omega))
          · rw [if_neg h2]
            by_cases h3 : (f_X5_readCommand (f_X5_readSign M 59).2).1 = 0
            · rw [if_pos h3]
              exact tvIter_1 (by simp only [s_X5_parse, sb_X5_parse, if_neg h, if_neg h0, if_neg h1, if_neg h2, if_pos h3, nI_1]) (ih (i + 1) _ _ (by omega))
            · rw [if_neg h3]
              exact tvIter_1 (by simp only [s_X5_parse, sb_X5_parse, if_neg h, if_neg h0, if_neg h1, if_neg h2, if_neg h3, nI_1]) (ih (i + 1) _ _ (by omega))
  exact key 60 0 _ _ (by omega)
theorem n_X5_parse (G : tvG) (M : tvM) : tvRun G yX5_parse cX5_parse 3 (some .int) 8 0 0 tvP0 tvP0 [.ref (G.2.1 + 243)] M (.inl (some (.int (f_X5_parse M).1))) ((f_X5_parse M).2) := by
  obtain ⟨n, hn⟩ := r_X5_parse M 
  exact m_X5_parse G M n _ hn
