def tvSm (f : Nat → Int32) : Nat → Int32
  | 0 => 0
  | n + 1 => tvSm f n + f n
def tvSl (f : Nat → Int64) : Nat → Int64
  | 0 => 0
  | n + 1 => tvSl f n + f n
theorem tvIter_seg {σ ρ : Type} (step : σ → σ ⊕ ρ) (I : Nat → σ) (N : Nat) (r : ρ) (hs : ∀ i, i < N → step (I i) = .inl (I (i + 1))) (he : ∃ n, tvIter step n (.inl (I N)) = some r) : ∃ n, tvIter step n (.inl (I 0)) = some r := by
  have key : ∀ k i, i + k = N → ∃ n, tvIter step n (.inl (I i)) = some r := by
    intro k
    induction k with
    | zero =>
      intro i hi
      have : i = N := by omega
      subst this
      exact he
    | succ k ih =>
      intro i hi
      obtain ⟨n, hn⟩ := ih (i + 1) (by omega)
      exact ⟨n + 1, by rw [tvIter, hs i (by omega)]; exact hn⟩
  exact key N 0 (by omega)
theorem tvIter_1 {σ ρ : Type} {step : σ → σ ⊕ ρ} {s s' : σ} {r : ρ} (h : step s = .inl s') (he : ∃ n, tvIter step n (.inl s') = some r) : ∃ n, tvIter step n (.inl s) = some r := by
  obtain ⟨n, hn⟩ := he
  exact ⟨n + 1, by rw [tvIter, h]; exact hn⟩
theorem tvIter_e {σ ρ : Type} {step : σ → σ ⊕ ρ} {s : σ} {r : ρ} (h : step s = .inr r) : ∃ n, tvIter step n (.inl s) = some r := ⟨1, by rw [tvIter, h]; rfl⟩
theorem tv_lt1 {x : Int32} {j : Nat} (h : j < x.toNatClampNeg - 1) : ¬ x ≤ nI (j + 1) := tv_nle (by omega)
theorem tv_le1 {x : Int32} : x ≤ nI (x.toNatClampNeg - 1 + 1) := by
  rcases Nat.eq_zero_or_pos x.toNatClampNeg with h | h
  · rw [h]
    have := (tv_le (x := x))
    rw [h] at this
    rw [Int32.le_iff_toInt_le] at *
    rw [nI_toInt (by omega)] at *
    omega
  · rw [show x.toNatClampNeg - 1 + 1 = x.toNatClampNeg by omega]
    exact tv_le
theorem tv_bd {x : Int32} : x.toNatClampNeg < 2 ^ 31 := by
  have := Int32.toInt_lt x
  simp only [Int32.toNatClampNeg] at *
  omega
/-- TideVault$Boxes.sumIn(I)I -/
def sb_X0_sumIn (M : tvM) (b : Nat) (x1 : Int32) (y2 : Int32) (y3 : Int32) : (Int32 × Int32) ⊕ Int32 := (if (f_X0_pearlsIn M b x1) ≤ y3 then .inr y2 else .inl ((y2 + (f_X0_valueOf M b x1 y3)), (y3 + 1)))
def s_X0_sumIn (M : tvM) (b : Nat) (x1 : Int32) : (Int32 × Int32) → (Int32 × Int32) ⊕ Int32 := fun q => sb_X0_sumIn M b x1 q.1 q.2
def e_X0_sumIn (M : tvM) (b : Nat) (x1 : Int32) : (Int32 × Int32) ⊕ Int32 := .inl (0, 0)
theorem m_X0_sumIn (G : tvG) (M : tvM) {b : Nat} (hb : tvSB b) (x1 : Int32) (n : Nat) (r : Int32) (hs : tvIter (s_X0_sumIn M b x1) n (e_X0_sumIn M b x1) = some r) : tvRun G yX0_sumIn cX0_sumIn 4 (some .int) 3 0 0 tvP0 tvP0 [.ref (G.2.1 + (b + 6)), .int x1] M (.inl (some (.int r))) M := by
  refine tvRun.of yk_X0_sumIn rfl [some (.ref (G.2.1 + (b + 6))), some (.int x1), none, none] rfl (Nat.le_of_ble_eq_true rfl) ?_
  intro E hG C hQ; subst hG
  have K : ∀ (n : Nat) (q : Int32 × Int32), tvIter (s_X0_sumIn M b x1) n (.inl q) = some r → tv_W E tvP0 0 0 M 4 [some (.ref (E.G.2.1 + (b + 6))), some (.int x1), some (.int q.1), some (.int q.2)] [] := by
    intro n
    induction n with
    | zero => intro q hq; exact (tvIter_0 hq).elim
    | succ n ih =>
      intro q hq
      obtain ⟨y2, y3⟩ := q
      have hs : tvIter (s_X0_sumIn M b x1) n (sb_X0_sumIn M b x1 y2 y3) = some r := tvIter_go hq
      refine tv_iload_n C dk_X0_sumIn_4 rfl ?_
      refine tv_aload_n C dk_X0_sumIn_5 rfl ?_
      refine tv_iload_n C dk_X0_sumIn_6 rfl ?_
      refine tv_cV1 C dk_X0_sumIn_7 ml_RX0_73 yk_X0_pearlsIn yi_X0_pearlsIn (m_X0_pearlsIn _ M hb x1) (tvSB_sh hb 6 (by decide)).2 (tvSB_sh hb 6 (by decide)).1 rfl rfl rfl (Nat.le_of_ble_eq_true rfl) (Nat.le_of_ble_eq_true rfl) (Nat.le_of_ble_eq_true rfl) (Nat.le_of_ble_eq_true rfl) (Nat.le_of_ble_eq_true rfl) ?_
      refine tv_icmp_ge C dk_X0_sumIn_10 (fun h101 => ?_) (fun h101 => ?_)
      · refine tv_iload_n C dk_X0_sumIn_28 rfl ?_
        exact tv_iret C hQ dk_X0_sumIn_29 rfl (by rw [sb_X0_sumIn, if_pos h101] at hs; rw [← tvIter_out hs]) rfl
      refine tv_iload_n C dk_X0_sumIn_13 rfl ?_
      refine tv_aload_n C dk_X0_sumIn_14 rfl ?_
      refine tv_iload_n C dk_X0_sumIn_15 rfl ?_
      refine tv_iload_n C dk_X0_sumIn_16 rfl ?_
      refine tv_cV1 C dk_X0_sumIn_17 ml_RX0_84 yk_X0_valueOf yi_X0_valueOf (m_X0_valueOf _ M hb x1 y3) (tvSB_sh hb 6 (by decide)).2 (tvSB_sh hb 6 (by decide)).1 rfl rfl rfl (Nat.le_of_ble_eq_true rfl) (Nat.le_of_ble_eq_true rfl) (Nat.le_of_ble_eq_true rfl) (Nat.le_of_ble_eq_true rfl) (Nat.le_of_ble_eq_true rfl) ?_
      refine tv_iadd C dk_X0_sumIn_20 ?_
      refine tv_istore_n (L' := [_, _, _, _]) (hn := by decide) (hlt := (Nat.le_of_ble_eq_true rfl)) (hno := rfl) C dk_X0_sumIn_21 rfl ?_
      refine tv_iinc (v := (y3 + 1)) (L' := [_, _, _, _]) (hn := by decide) (hlt := (Nat.le_of_ble_eq_true rfl)) (hno := rfl) C dk_X0_sumIn_22 rfl rfl rfl ?_
      refine tv_goto C dk_X0_sumIn_25 ?_
      exact (ih ((y2 + (f_X0_valueOf M b x1 y3)), (y3 + 1)) (by rw [sb_X0_sumIn, if_neg h101] at hs; exact hs))
  refine tv_iconst (v := 0) C dk_X0_sumIn_0 (by decide) ?_
  refine tv_istore_n (L' := [_, _, _, _]) (hn := by decide) (hlt := (Nat.le_of_ble_eq_true rfl)) (hno := rfl) C dk_X0_sumIn_1 rfl ?_
  refine tv_iconst (v := 0) C dk_X0_sumIn_2 (by decide) ?_
  refine tv_istore_n (L' := [_, _, _, _]) (hn := by decide) (hlt := (Nat.le_of_ble_eq_true rfl)) (hno := rfl) C dk_X0_sumIn_3 rfl ?_
  exact (K n (0, 0) (by rw [e_X0_sumIn] at hs; exact hs))
def f_X0_sumIn (M : tvM) (b : Nat) (x1 : Int32) : Int32 := tvSm (fun i => f_X0_valueOf M b x1 (nI i)) (f_X0_pearlsIn M b x1).toNatClampNeg
theorem r_X0_sumIn (M : tvM) (b : Nat) (x1 : Int32) : ∃ n, tvIter (s_X0_sumIn M b x1) n (e_X0_sumIn M b x1) = some (f_X0_sumIn M b x1) := by
  refine tvIter_for (s_X0_sumIn M b x1) (fun i => (tvSm (fun i => f_X0_valueOf M b x1 (nI i)) i, nI i)) (f_X0_pearlsIn M b x1).toNatClampNeg _ (fun i hi => ?_) ?_
  · simp only [s_X0_sumIn, sb_X0_sumIn, if_neg (tv_nle hi), tvSm, nI_1]
  · simp only [s_X0_sumIn, sb_X0_sumIn, if_pos tv_le, f_X0_sumIn]
theorem n_X0_sumIn (G : tvG) (M : tvM) {b : Nat} (hb : tvSB b) (x1 : Int32) : tvRun G yX0_sumIn cX0_sumIn 4 (some .int) 3 0 0 tvP0 tvP0 [.ref (G.2.1 + (b + 6)), .int x1] M (.inl (some (.int (f_X0_sumIn M b x1)))) M := by
  obtain ⟨n, hn⟩ := r_X0_sumIn M b x1 
  exact m_X0_sumIn G M hb x1 n _ hn
/-- TideVault$Boxes.sumOfAll()J -/
def sb_X0_sumOfAll (M : tvM) (b : Nat) (y1 : Int64) (y3 : Int32) : (Int64 × Int32) ⊕ Int64 := (if (tgi M (b + 6) 0) ≤ y3 then .inr y1 else .inl ((y1 + ((f_X0_sumIn M b y3).toInt64)), (y3 + 1)))
def s_X0_sumOfAll (M : tvM) (b : Nat) : (Int64 × Int32) → (Int64 × Int32) ⊕ Int64 := fun q => sb_X0_sumOfAll M b q.1 q.2
def e_X0_sumOfAll (M : tvM) (b : Nat) : (Int64 × Int32) ⊕ Int64 := .inl (0, 0)
theorem m_X0_sumOfAll (G : tvG) (M : tvM) {b : Nat} (hb : tvSB b) (n : Nat) (r : Int64) (hs : tvIter (s_X0_sumOfAll M b) n (e_X0_sumOfAll M b) = some r) : tvRun G yX0_sumOfAll cX0_sumOfAll 4 (some .long) 4 0 0 tvP0 tvP0 [.ref (G.2.1 + (b + 6))] M (.inl (some (.long r))) M := by
  refine tvRun.of yk_X0_sumOfAll rfl [some (.ref (G.2.1 + (b + 6))), none, none, none] rfl (Nat.le_of_ble_eq_true rfl) ?_
  intro E hG C hQ; subst hG
  have K : ∀ (n : Nat) (q : Int64 × Int32), tvIter (s_X0_sumOfAll M b) n (.inl q) = some r → tv_W E tvP0 0 0 M 4 [some (.ref (E.G.2.1 + (b + 6))), some (.long q.1), none, some (.int q.2)] [] := by
    intro n
    induction n with
    | zero => intro q hq; exact (tvIter_0 hq).elim
    | succ n ih =>
      intro q hq
      obtain ⟨y1, y3⟩ := q
      have hs : tvIter (s_X0_sumOfAll M b) n (sb_X0_sumOfAll M b y1 y3) = some r := tvIter_go hq
      refine tv_iload_n C dk_X0_sumOfAll_4 rfl ?_
      refine tv_aload_n C dk_X0_sumOfAll_5 rfl ?_
      refine tv_getI C dk_X0_sumOfAll_6 fl_RX0_40 (tvSB_sh hb 6 (by decide)).2 (tvSB_sh hb 6 (by decide)).1 (fun _ _ _ _ => rfl) ?_
      refine tv_icmp_ge C dk_X0_sumOfAll_9 (fun h101 => ?_) (fun h101 => ?_)
      · refine tv_lload_n C dk_X0_sumOfAll_27 rfl ?_
        exact tv_lret C hQ dk_X0_sumOfAll_28 (by rw [sb_X0_sumOfAll, if_pos h101] at hs; rw [← tvIter_out hs]) rfl
      refine tv_lload_n C dk_X0_sumOfAll_12 rfl ?_
      refine tv_aload_n C dk_X0_sumOfAll_13 rfl ?_
      refine tv_iload_n C dk_X0_sumOfAll_14 rfl ?_
      refine tv_cV1 C dk_X0_sumOfAll_15 ml_RX0_87 yk_X0_sumIn yi_X0_sumIn (n_X0_sumIn _ M hb y3) (tvSB_sh hb 6 (by decide)).2 (tvSB_sh hb 6 (by decide)).1 rfl rfl rfl (Nat.le_of_ble_eq_true rfl) (Nat.le_of_ble_eq_true rfl) (Nat.le_of_ble_eq_true rfl) (Nat.le_of_ble_eq_true rfl) (Nat.le_of_ble_eq_true rfl) ?_
      refine tv_i2l C dk_X0_sumOfAll_18 ?_
      refine tv_ladd C dk_X0_sumOfAll_19 ?_
      refine tv_lstore_n (L' := [_, _, _, _]) (hn := by decide) (hlt := (Nat.le_of_ble_eq_true rfl)) (hno := rfl) C dk_X0_sumOfAll_20 rfl ?_
      refine tv_iinc (v := (y3 + 1)) (L' := [_, _, _, _]) (hn := by decide) (hlt := (Nat.le_of_ble_eq_true rfl)) (hno := rfl) C dk_X0_sumOfAll_21 rfl rfl rfl ?_
      refine tv_goto C dk_X0_sumOfAll_24 ?_
      exact (ih ((y1 + ((f_X0_sumIn M b y3).toInt64)), (y3 + 1)) (by rw [sb_X0_sumOfAll, if_neg h101] at hs; exact hs))
  refine tv_lconst (v := 0) C dk_X0_sumOfAll_0 (by decide) ?_
  refine tv_lstore_n (L' := [_, _, _, _]) (hn := by decide) (hlt := (Nat.le_of_ble_eq_true rfl)) (hno := rfl) C dk_X0_sumOfAll_1 rfl ?_
  refine tv_iconst (v := 0) C dk_X0_sumOfAll_2 (by decide) ?_
  refine tv_istore_n (L' := [_, _, _, _]) (hn := by decide) (hlt := (Nat.le_of_ble_eq_true rfl)) (hno := rfl) C dk_X0_sumOfAll_3 rfl ?_
  exact (K n (0, 0) (by rw [e_X0_sumOfAll] at hs; exact hs))
def f_X0_sumOfAll (M : tvM) (b : Nat) : Int64 := tvSl (fun i => (f_X0_sumIn M b (nI i)).toInt64) (tgi M (b + 6) 0).toNatClampNeg
theorem r_X0_sumOfAll (M : tvM) (b : Nat) : ∃ n, tvIter (s_X0_sumOfAll M b) n (e_X0_sumOfAll M b) = some (f_X0_sumOfAll M b) := by
  refine tvIter_for (s_X0_sumOfAll M b) (fun i => (tvSl (fun i => (f_X0_sumIn M b (nI i)).toInt64) i, nI i)) (tgi M (b + 6) 0).toNatClampNeg _ (fun i hi => ?_) ?_
  · simp only [s_X0_sumOfAll, sb_X0_sumOfAll, if_neg (tv_nle hi), tvSl, nI_1]
  · simp only [s_X0_sumOfAll, sb_X0_sumOfAll, if_pos tv_le, f_X0_sumOfAll]
theorem n_X0_sumOfAll (G : tvG) (M : tvM) {b : Nat} (hb : tvSB b) : tvRun G yX0_sumOfAll cX0_sumOfAll 4 (some .long) 4 0 0 tvP0 tvP0 [.ref (G.2.1 + (b + 6))] M (.inl (some (.long (f_X0_sumOfAll M b)))) M := by
  obtain ⟨n, hn⟩ := r_X0_sumOfAll M b 
  exact m_X0_sumOfAll G M hb n _ hn
/-- TideVault$Boxes.rankOf(I)I -/
def sb_X0_rankOf (M : tvM) (b : Nat) (x1 : Int32) (y2 : Int32) (y3 : Int32) (y4 : Int32) (y5 : Int32) : (Int32 × Int32 × Int32 × Int32) ⊕ Int32 := (if (tgi M (b + 6) 0) ≤ y4 then .inr y3 else (if y2 < (f_X0_sumIn M b y4) then .inl (y2, (y3 + 1), (y4 + 1), 0) else (if (f_X0_sumIn M b y4) = y2 then (if x1 ≤ y4 then .inl (y2, y3, (y4 + 1), 0) else .inl (y2, (y3 + 1), (y4 + 1), 0)) else .inl (y2, y3, (y4 + 1), 0))))
def s_X0_rankOf (M : tvM) (b : Nat) (x1 : Int32) : (Int32 × Int32 × Int32 × Int32) → (Int32 × Int32 × Int32 × Int32) ⊕ Int32 := fun q => sb_X0_rankOf M b x1 q.1 q.2.1 q.2.2.1 q.2.2.2
def e_X0_rankOf (M : tvM) (b : Nat) (x1 : Int32) : (Int32 × Int32 × Int32 × Int32) ⊕ Int32 := .inl ((f_X0_sumIn M b x1), 0, 0, 0)
theorem m_X0_rankOf (G : tvG) (M : tvM) {b : Nat} (hb : tvSB b) (x1 : Int32) (n : Nat) (r : Int32) (hs : tvIter (s_X0_rankOf M b x1) n (e_X0_rankOf M b x1) = some r) : tvRun G yX0_rankOf cX0_rankOf 6 (some .int) 4 0 0 tvP0 tvP0 [.ref (G.2.1 + (b + 6)), .int x1] M (.inl (some (.int r))) M := by
  refine tvRun.of yk_X0_rankOf rfl [some (.ref (G.2.1 + (b + 6))), some (.int x1), none, none, none, none] rfl (Nat.le_of_ble_eq_true rfl) ?_
  intro E hG C hQ; subst hG
  have K : ∀ (n : Nat) (q : Int32 × Int32 × Int32 × Int32), tvIter (s_X0_rankOf M b x1) n (.inl q) = some r → tv_W E tvP0 0 0 M 11 [some (.ref (E.G.2.1 + (b + 6))), some (.int x1), some (.int q.1), some (.int q.2.1), some (.int q.2.2.1), none] [] := by
    intro n
    induction n with
    | zero => intro q hq; exact (tvIter_0 hq).elim
    | succ n ih =>
      intro q hq
      obtain ⟨y2, y3, y4, y5⟩ := q
      have hs : tvIter (s_X0_rankOf M b x1) n (sb_X0_rankOf M b x1 y2 y3 y4 y5) = some r := tvIter_go hq
      refine tv_iload C dk_X0_rankOf_11 rfl ?_
      refine tv_aload_n C dk_X0_rankOf_13 rfl ?_
      refine tv_getI C dk_X0_rankOf_14 fl_RX0_40 (tvSB_sh hb 6 (by decide)).2 (tvSB_sh hb 6 (by decide)).1 (fun _ _ _ _ => rfl) ?_
      refine tv_icmp_ge C dk_X0_rankOf_17 (fun h101 => ?_) (fun h101 => ?_)
      · refine tv_iload_n C dk_X0_rankOf_55 rfl ?_
        exact tv_iret C hQ dk_X0_rankOf_56 rfl (by rw [sb_X0_rankOf, if_pos h101] at hs; rw [← tvIter_out hs]) rfl
      refine tv_aload_n C dk_X0_rankOf_20 rfl ?_
      refine tv_iload C dk_X0_rankOf_21 rfl ?_
      refine tv_cV1 C dk_X0_rankOf_23 ml_RX0_87 yk_X0_sumIn yi_X0_sumIn (n_X0_sumIn _ M hb y4) (tvSB_sh hb 6 (by decide)).2 (tvSB_sh hb 6 (by decide)).1 rfl rfl rfl (Nat.le_of_ble_eq_true rfl) (Nat.le_of_ble_eq_true rfl) (Nat.le_of_ble_eq_true rfl) (Nat.le_of_ble_eq_true rfl) (Nat.le_of_ble_eq_true rfl) ?_
      refine tv_istore (L' := [_, _, _, _, _, _]) (hn := by decide) (hlt := (Nat.le_of_ble_eq_true rfl)) (hno := rfl) C dk_X0_rankOf_26 rfl ?_
      refine tv_iload C dk_X0_rankOf_28 rfl ?_
      refine tv_iload_n C dk_X0_rankOf_30 rfl ?_
      refine tv_icmp_gt C dk_X0_rankOf_31 (fun h102 => ?_) (fun h102 => ?_)
      · refine tv_iinc (v := (y3 + 1)) (L' := [_, _, _, _, _, _]) (hn := by decide) (hlt := (Nat.le_of_ble_eq_true rfl)) (hno := rfl) C dk_X0_rankOf_46 rfl rfl rfl ?_
        refine tv_iinc (v := (y4 + 1)) (L' := [_, _, _, _, _, _]) (hn := by decide) (hlt := (Nat.le_of_ble_eq_true rfl)) (hno := rfl) C dk_X0_rankOf_49 rfl rfl rfl ?_
        refine tv_goto C dk_X0_rankOf_52 ?_
        refine tv_drop (L2 := [some (.ref (E.G.2.1 + (b + 6))), some (.int x1), some (.int y2), some (.int (y3 + 1)), some (.int (y4 + 1)), none]) (by simp [tvSubL]) ?_
        exact (ih (y2, (y3 + 1), (y4 + 1), 0) (by rw [sb_X0_rankOf, if_neg h101, if_pos h102] at hs; exact hs))
      refine tv_iload C dk_X0_rankOf_34 rfl ?_
      refine tv_iload_n C dk_X0_rankOf_36 rfl ?_
      refine tv_icmp_ne C dk_X0_rankOf_37 (fun h103 => ?_) (fun h103 => ?_)
      · refine tv_iinc (v := (y4 + 1)) (L' := [_, _, _, _, _, _]) (hn := by decide) (hlt := (Nat.le_of_ble_eq_true rfl)) (hno := rfl) C dk_X0_rankOf_49 rfl rfl rfl ?_
        refine tv_goto C dk_X0_rankOf_52 ?_
        refine tv_drop (L2 := [some (.ref (E.G.2.1 + (b + 6))), some (.int x1), some (.int y2), some (.int y3), some (.int (y4 + 1)), none]) (by simp [tvSubL]) ?_
        exact (ih (y2, y3, (y4 + 1), 0) (by rw [sb_X0_rankOf, if_neg h101, if_neg h102, if_neg h103] at hs; exact hs))
      refine tv_iload C dk_X0_rankOf_40 rfl ?_
      refine tv_iload_n C dk_X0_rankOf_42 rfl ?_
      refine tv_icmp_ge C dk_X0_rankOf_43 (fun h104 => ?_) (fun h104 => ?_)
      · refine tv_iinc (v := (y4 + 1)) (L' := [_, _, _, _, _, _]) (hn := by decide) (hlt := (Nat.le_of_ble_eq_true rfl)) (hno := rfl) C dk_X0_rankOf_49 rfl rfl rfl ?_
        refine tv_goto C dk_X0_rankOf_52 ?_
        refine tv_drop (L2 := [some (.ref (E.G.2.1 + (b + 6))), some (.int x1), some (.int y2), some (.int y3), some (.int (y4 + 1)), none]) (by simp [tvSubL]) ?_
        exact (ih (y2, y3, (y4 + 1), 0) (by rw [sb_X0_rankOf, if_neg h101, if_neg h102, if_pos h103, if_pos h104] at hs; exact hs))
      refine tv_iinc (v := (y3 + 1)) (L' := [_, _, _, _, _, _]) (hn := by decide) (hlt := (Nat.le_of_ble_eq_true rfl)) (hno := rfl) C dk_X0_rankOf_46 rfl rfl rfl ?_
      refine tv_iinc (v := (y4 + 1)) (L' := [_, _, _, _, _, _]) (hn := by decide) (hlt := (Nat.le_of_ble_eq_true rfl)) (hno := rfl) C dk_X0_rankOf_49 rfl rfl rfl ?_
      refine tv_goto C dk_X0_rankOf_52 ?_
      refine tv_drop (L2 := [some (.ref (E.G.2.1 + (b + 6))), some (.int x1), some (.int y2), some (.int (y3 + 1)), some (.int (y4 + 1)), none]) (by simp [tvSubL]) ?_
      exact (ih (y2, (y3 + 1), (y4 + 1), 0) (by rw [sb_X0_rankOf, if_neg h101, if_neg h102, if_pos h103, if_neg h104] at hs; exact hs))
  refine tv_aload_n C dk_X0_rankOf_0 rfl ?_
  refine tv_iload_n C dk_X0_rankOf_1 rfl ?_
  refine tv_cV1 C dk_X0_rankOf_2 ml_RX0_87 yk_X0_sumIn yi_X0_sumIn (n_X0_sumIn _ M hb x1) (tvSB_sh hb 6 (by decide)).2 (tvSB_sh hb 6 (by decide)).1 rfl rfl rfl (Nat.le_of_ble_eq_true rfl) (Nat.le_of_ble_eq_true rfl) (Nat.le_of_ble_eq_true rfl) (Nat.le_of_ble_eq_true rfl) (Nat.le_of_ble_eq_true rfl) ?_
  refine tv_istore_n (L' := [_, _, _, _, _, _]) (hn := by decide) (hlt := (Nat.le_of_ble_eq_true rfl)) (hno := rfl) C dk_X0_rankOf_5 rfl ?_
  refine tv_iconst (v := 0) C dk_X0_rankOf_6 (by decide) ?_
  refine tv_istore_n (L' := [_, _, _, _, _, _]) (hn := by decide) (hlt := (Nat.le_of_ble_eq_true rfl)) (hno := rfl) C dk_X0_rankOf_7 rfl ?_
  refine tv_iconst (v := 0) C dk_X0_rankOf_8 (by decide) ?_
  refine tv_istore (L' := [_, _, _, _, _, _]) (hn := by decide) (hlt := (Nat.le_of_ble_eq_true rfl)) (hno := rfl) C dk_X0_rankOf_9 rfl ?_
  exact (K n ((f_X0_sumIn M b x1), 0, 0, 0) (by rw [e_X0_rankOf] at hs; exact hs))
def tvAhead (M : tvM) (b : Nat) (x1 : Int32) (i : Nat) : Bool := decide (f_X0_sumIn M b x1 < f_X0_sumIn M b (nI i)) || (decide (f_X0_sumIn M b (nI i) = f_X0_sumIn M b x1) && !decide (x1 ≤ nI i))
def f_X0_rankOf (M : tvM) (b : Nat) (x1 : Int32) : Int32 := nI (tvCt (tvAhead M b x1) (tgi M (b + 6) 0).toNatClampNeg)
theorem r_X0_rankOf (M : tvM) (b : Nat) (x1 : Int32) : ∃ n, tvIter (s_X0_rankOf M b x1) n (e_X0_rankOf M b x1) = some (f_X0_rankOf M b x1) := by
  refine tvIter_for (s_X0_rankOf M b x1) (fun i => (f_X0_sumIn M b x1, nI (tvCt (tvAhead M b x1) i), nI i, 0)) (tgi M (b + 6) 0).toNatClampNeg _ (fun i hi => ?_) ?_
  · simp only [s_X0_rankOf, sb_X0_rankOf, if_neg (tv_nle hi), tvCt, tvAhead, nI_1]
    by_cases h1 : f_X0_sumIn M b x1 < f_X0_sumIn M b (nI i)
    · simp [h1]
    · by_cases h2 : f_X0_sumIn M b (nI i) = f_X0_sumIn M b x1
      · by_cases h3 : x1 ≤ nI i
        · simp [h1, h2, h3]
        · simp [h1, h2, h3]
      · simp [h1, h2]
  · simp only [s_X0_rankOf, sb_X0_rankOf, if_pos tv_le, f_X0_rankOf]
theorem n_X0_rankOf (G : tvG) (M : tvM) {b : Nat} (hb : tvSB b) (x1 : Int32) : tvRun G yX0_rankOf cX0_rankOf 6 (some .int) 4 0 0 tvP0 tvP0 [.ref (G.2.1 + (b + 6)), .int x1] M (.inl (some (.int (f_X0_rankOf M b x1)))) M := by
  obtain ⟨n, hn⟩ := r_X0_rankOf M b x1 
  exact m_X0_rankOf G M hb x1 n _ hn
/-- TideVault$Boxes.atRank(I)I -/
def sb_X0_atRank (M : tvM) (b : Nat) (x1 : Int32) (y2 : Int32) : (Int32) ⊕ Int32 := (if (tgi M (b + 6) 0) ≤ y2 then .inr (-1) else (if (f_X0_rankOf M b y2) = x1 then .inr y2 else .inl (y2 + 1)))
def s_X0_atRank (M : tvM) (b : Nat) (x1 : Int32) : (Int32) → (Int32) ⊕ Int32 := fun q => sb_X0_atRank M b x1 q
def e_X0_atRank (M : tvM) (b : Nat) (x1 : Int32) : (Int32) ⊕ Int32 := .inl 0
theorem m_X0_atRank (G : tvG) (M : tvM) {b : Nat} (hb : tvSB b) (x1 : Int32) (n : Nat) (r : Int32) (hs : tvIter (s_X0_atRank M b x1) n (e_X0_atRank M b x1) = some r) : tvRun G yX0_atRank cX0_atRank 3 (some .int) 5 0 0 tvP0 tvP0 [.ref (G.2.1 + (b + 6)), .int x1] M (.inl (some (.int r))) M := by
  refine tvRun.of yk_X0_atRank rfl [some (.ref (G.2.1 + (b + 6))), some (.int x1), none] rfl (Nat.le_of_ble_eq_true rfl) ?_
  intro E hG C hQ; subst hG
  have K : ∀ (n : Nat) (q : Int32), tvIter (s_X0_atRank M b x1) n (.inl q) = some r → tv_W E tvP0 0 0 M 2 [some (.ref (E.G.2.1 + (b + 6))), some (.int x1), some (.int q)] [] := by
    intro n
    induction n with
    | zero => intro q hq; exact (tvIter_0 hq).elim
    | succ n ih =>
      intro q hq
      obtain ⟨y2, rfl⟩ : ∃ z, z = q := ⟨_, rfl⟩
      have hs : tvIter (s_X0_atRank M b x1) n (sb_X0_atRank M b x1 y2) = some r := tvIter_go hq
      refine tv_iload_n C dk_X0_atRank_2 rfl ?_
      refine tv_aload_n C dk_X0_atRank_3 rfl ?_
      refine tv_getI C dk_X0_atRank_4 fl_RX0_40 (tvSB_sh hb 6 (by decide)).2 (tvSB_sh hb 6 (by decide)).1 (fun _ _ _ _ => rfl) ?_
      refine tv_icmp_ge C dk_X0_atRank_7 (fun h101 => ?_) (fun h101 => ?_)
      · refine tv_iconst (v := (-1)) C dk_X0_atRank_27 (by decide) ?_
        exact tv_iret C hQ dk_X0_atRank_28 rfl (by rw [sb_X0_atRank, if_pos h101] at hs; rw [← tvIter_out hs]) rfl
      refine tv_aload_n C dk_X0_atRank_10 rfl ?_
      refine tv_iload_n C dk_X0_atRank_11 rfl ?_
      refine tv_cV1 C dk_X0_atRank_12 ml_RX0_90 yk_X0_rankOf yi_X0_rankOf (n_X0_rankOf _ M hb y2) (tvSB_sh hb 6 (by decide)).2 (tvSB_sh hb 6 (by decide)).1 rfl rfl rfl (Nat.le_of_ble_eq_true rfl) (Nat.le_of_ble_eq_true rfl) (Nat.le_of_ble_eq_true rfl) (Nat.le_of_ble_eq_true rfl) (Nat.le_of_ble_eq_true rfl) ?_
      refine tv_iload_n C dk_X0_atRank_15 rfl ?_
      refine tv_icmp_ne C dk_X0_atRank_16 (fun h102 => ?_) (fun h102 => ?_)
      · refine tv_iinc (v := (y2 + 1)) (L' := [_, _, _]) (hn := by decide) (hlt := (Nat.le_of_ble_eq_true rfl)) (hno := rfl) C dk_X0_atRank_21 rfl rfl rfl ?_
        refine tv_goto C dk_X0_atRank_24 ?_
        exact (ih ((y2 + 1)) (by rw [sb_X0_atRank, if_neg h101, if_neg h102] at hs; exact hs))
      refine tv_iload_n C dk_X0_atRank_19 rfl ?_
      exact tv_iret C hQ dk_X0_atRank_20 rfl (by rw [sb_X0_atRank, if_neg h101, if_pos h102] at hs; rw [← tvIter_out hs]) rfl
  refine tv_iconst (v := 0) C dk_X0_atRank_0 (by decide) ?_
  refine tv_istore_n (L' := [_, _, _]) (hn := by decide) (hlt := (Nat.le_of_ble_eq_true rfl)) (hno := rfl) C dk_X0_atRank_1 rfl ?_
  exact (K n (0) (by rw [e_X0_atRank] at hs; exact hs))
def tvRk (M : tvM) (b : Nat) (x1 : Int32) (i : Nat) : Bool := decide (f_X0_rankOf M b (nI i) = x1)
def f_X0_atRank (M : tvM) (b : Nat) (x1 : Int32) : Int32 := if fa_first (tvRk M b x1) (tgi M (b + 6) 0).toNatClampNeg < (tgi M (b + 6) 0).toNatClampNeg then nI (fa_first (tvRk M b x1) (tgi M (b + 6) 0).toNatClampNeg) else (-1)
theorem r_X0_atRank (M : tvM) (b : Nat) (x1 : Int32) : ∃ n, tvIter (s_X0_atRank M b x1) n (e_X0_atRank M b x1) = some (f_X0_atRank M b x1) := by
  refine tvIter_for (s_X0_atRank M b x1) (fun i => nI i) (fa_first (tvRk M b x1) (tgi M (b + 6) 0).toNatClampNeg) _ (fun i hi => ?_) ?_
  · have h1 := fa_first_no _ _ _ hi
    have h2 := fa_first_le (tvRk M b x1) (tgi M (b + 6) 0).toNatClampNeg
    simp only [tvRk, decide_eq_false_iff_not] at h1
    simp only [s_X0_atRank, sb_X0_atRank, if_neg (tv_nle (Nat.lt_of_lt_of_le hi h2)), if_neg h1, nI_1]
  · by_cases h : fa_first (tvRk M b x1) (tgi M (b + 6) 0).toNatClampNeg < (tgi M (b + 6) 0).toNatClampNeg
    · have h1 := fa_first_yes _ _ h
      simp only [tvRk, decide_eq_true_eq] at h1
      simp only [s_X0_atRank, sb_X0_atRank, if_neg (tv_nle h), f_X0_atRank, if_pos h]
      exact if_pos h1
    · have h2 := fa_first_le (tvRk M b x1) (tgi M (b + 6) 0).toNatClampNeg
      have h3 : fa_first (tvRk M b x1) (tgi M (b + 6) 0).toNatClampNeg = (tgi M (b + 6) 0).toNatClampNeg := by omega
      simp only [s_X0_atRank, sb_X0_atRank, f_X0_atRank, if_neg h]
      rw [h3]
      exact if_pos tv_le
theorem n_X0_atRank (G : tvG) (M : tvM) {b : Nat} (hb : tvSB b) (x1 : Int32) : tvRun G yX0_atRank cX0_atRank 3 (some .int) 5 0 0 tvP0 tvP0 [.ref (G.2.1 + (b + 6)), .int x1] M (.inl (some (.int (f_X0_atRank M b x1)))) M := by
  obtain ⟨n, hn⟩ := r_X0_atRank M b x1 
  exact m_X0_atRank G M hb x1 n _ hn
/-- TideVault$Boxes.countDown()V -/
def sb_X0_countDown (b : Nat) (y1 : Int32) (M : tvM) : (Int32 × tvM) ⊕ tvM := (if (tgi M (b + 6) 0) ≤ y1 then .inr M else (if (f_X0_has M b y1) = 0 then .inl ((y1 + 1), M) else (if (tnc (tgi M (b + 10) y1.toNatClampNeg)) = 112 then (if (tgi M (b + 12) y1.toNatClampNeg) ≤ 0 then .inl ((y1 + 1), M) else .inl ((y1 + 1), (tpi M (b + 12) y1.toNatClampNeg ((tgi M (b + 12) y1.toNatClampNeg) - 1)))) else .inl ((y1 + 1), M))))
def s_X0_countDown (b : Nat) : (Int32 × tvM) → (Int32 × tvM) ⊕ tvM := fun q => sb_X0_countDown b q.1 q.2
def e_X0_countDown (M : tvM) (b : Nat) : (Int32 × tvM) ⊕ tvM := .inl (0, M)
theorem m_X0_countDown (G : tvG) (M : tvM) {b : Nat} (hb : tvSB b) (n : Nat) (r : tvM) (hs : tvIter (s_X0_countDown b) n (e_X0_countDown M b) = some r) : tvRun G yX0_countDown cX0_countDown 2 none 2 0 0 tvP0 tvP0 [.ref (G.2.1 + (b + 6))] M (.inl none) r := by
  refine tvRun.of yk_X0_countDown rfl [some (.ref (G.2.1 + (b + 6))), none] rfl (Nat.le_of_ble_eq_true rfl) ?_
  intro E hG C hQ; subst hG
  have K : ∀ (n : Nat) (q : Int32 × tvM), tvIter (s_X0_countDown b) n (.inl q) = some r → tv_W E tvP0 0 0 q.2 2 [some (.ref (E.G.2.1 + (b + 6))), some (.int q.1)] [] := by
    intro n
    induction n with
    | zero => intro q hq; exact (tvIter_0 hq).elim
    | succ n ih =>
      intro q hq
      obtain ⟨y1, M⟩ := q
      have hs : tvIter (s_X0_countDown b) n (sb_X0_countDown b y1 M) = some r := tvIter_go hq
      refine tv_iload_n C dk_X0_countDown_2 rfl ?_
      refine tv_aload_n C dk_X0_countDown_3 rfl ?_
      refine tv_getI C dk_X0_countDown_4 fl_RX0_40 (tvSB_sh hb 6 (by decide)).2 (tvSB_sh hb 6 (by decide)).1 (fun _ _ _ _ => rfl) ?_
      refine tv_icmp_ge C dk_X0_countDown_7 (fun h101 => ?_) (fun h101 => ?_)
      · exact tv_vret C hQ dk_X0_countDown_54 rfl (by rw [sb_X0_countDown, if_pos h101] at hs; rw [← tvIter_out hs])
      refine tv_aload_n C dk_X0_countDown_10 rfl ?_
      refine tv_iload_n C dk_X0_countDown_11 rfl ?_
      refine tv_cV1 C dk_X0_countDown_12 ml_RX0_50 yk_X0_has yi_X0_has (m_X0_has _ M hb y1) (tvSB_sh hb 6 (by decide)).2 (tvSB_sh hb 6 (by decide)).1 rfl rfl rfl (Nat.le_of_ble_eq_true rfl) (Nat.le_of_ble_eq_true rfl) (Nat.le_of_ble_eq_true rfl) (Nat.le_of_ble_eq_true rfl) (Nat.le_of_ble_eq_true rfl) ?_
      refine tv_if_eq C dk_X0_countDown_15 (fun h102 => ?_) (fun h102 => ?_)
      · refine tv_iinc (v := (y1 + 1)) (L' := [_, _]) (hn := by decide) (hlt := (Nat.le_of_ble_eq_true rfl)) (hno := rfl) C dk_X0_countDown_48 rfl rfl rfl ?_
        refine tv_goto C dk_X0_countDown_51 ?_
        exact (ih ((y1 + 1), M) (by rw [sb_X0_countDown, if_neg h101, if_pos h102] at hs; exact hs))
      refine tv_aload_n C dk_X0_countDown_18 rfl ?_
      refine tv_getR (r := (b + 10)) C dk_X0_countDown_19 fl_RX0_21 (tvSB_sh hb 6 (by decide)).2 (tvSB_sh hb 6 (by decide)).1 (tvSB_rho hb (6, 4, 10) (by decide)) (fun _ _ _ _ => rfl) ?_
      refine tv_iload_n C dk_X0_countDown_22 rfl ?_
      refine tv_cald (j := y1.toNatClampNeg) rfl C dk_X0_countDown_23 (tvSB_sh hb 10 (by decide)).2 (tvSB_sh hb 10 (by decide)).1 (f_X0_has_in h102) ?_
      refine tv_bipush (v := 112) C dk_X0_countDown_24 (by decide) ?_
      refine tv_icmp_ne C dk_X0_countDown_26 (fun h103 => ?_) (fun h103 => ?_)
      · refine tv_iinc (v := (y1 + 1)) (L' := [_, _]) (hn := by decide) (hlt := (Nat.le_of_ble_eq_true rfl)) (hno := rfl) C dk_X0_countDown_48 rfl rfl rfl ?_
        refine tv_goto C dk_X0_countDown_51 ?_
        exact (ih ((y1 + 1), M) (by rw [sb_X0_countDown, if_neg h101, if_neg h102, if_neg h103] at hs; exact hs))
      refine tv_aload_n C dk_X0_countDown_29 rfl ?_
      refine tv_getR (r := (b + 12)) C dk_X0_countDown_30 fl_RX0_28 (tvSB_sh hb 6 (by decide)).2 (tvSB_sh hb 6 (by decide)).1 (tvSB_rho hb (6, 6, 12) (by decide)) (fun _ _ _ _ => rfl) ?_
      refine tv_iload_n C dk_X0_countDown_33 rfl ?_
      refine tv_iald (j := y1.toNatClampNeg) rfl C dk_X0_countDown_34 (tvSB_sh hb 12 (by decide)).2 (tvSB_sh hb 12 (by decide)).1 (f_X0_has_in h102) ?_
      refine tv_if_le C dk_X0_countDown_35 (fun h104 => ?_) (fun h104 => ?_)
      · refine tv_iinc (v := (y1 + 1)) (L' := [_, _]) (hn := by decide) (hlt := (Nat.le_of_ble_eq_true rfl)) (hno := rfl) C dk_X0_countDown_48 rfl rfl rfl ?_
        refine tv_goto C dk_X0_countDown_51 ?_
        exact (ih ((y1 + 1), M) (by rw [sb_X0_countDown, if_neg h101, if_neg h102, if_pos h103, if_pos h104] at hs; exact hs))
      refine tv_aload_n C dk_X0_countDown_38 rfl ?_
      refine tv_getR (r := (b + 12)) C dk_X0_countDown_39 fl_RX0_28 (tvSB_sh hb 6 (by decide)).2 (tvSB_sh hb 6 (by decide)).1 (tvSB_rho hb (6, 6, 12) (by decide)) (fun _ _ _ _ => rfl) ?_
      refine tv_iload_n C dk_X0_countDown_42 rfl ?_
      refine tv_dup2 C dk_X0_countDown_43 rfl rfl ?_
      refine tv_iald (j := y1.toNatClampNeg) rfl C dk_X0_countDown_44 (tvSB_sh hb 12 (by decide)).2 (tvSB_sh hb 12 (by decide)).1 (f_X0_has_in h102) ?_
      refine tv_iconst (v := 1) C dk_X0_countDown_45 (by decide) ?_
      refine tv_isub C dk_X0_countDown_46 ?_
      refine tv_iast (j := y1.toNatClampNeg) rfl C tvP0_ex dk_X0_countDown_47 (tvSB_sh hb 12 (by decide)).2 (tvSB_sh hb 12 (by decide)).1 (f_X0_has_in h102) ?_
      refine tv_iinc (v := (y1 + 1)) (L' := [_, _]) (hn := by decide) (hlt := (Nat.le_of_ble_eq_true rfl)) (hno := rfl) C dk_X0_countDown_48 rfl rfl rfl ?_
      refine tv_goto C dk_X0_countDown_51 ?_
      exact (ih ((y1 + 1), (tpi M (b + 12) y1.toNatClampNeg ((tgi M (b + 12) y1.toNatClampNeg) - 1))) (by rw [sb_X0_countDown, if_neg h101, if_neg h102, if_pos h103, if_neg h104] at hs; exact hs))
  refine tv_iconst (v := 0) C dk_X0_countDown_0 (by decide) ?_
  refine tv_istore_n (L' := [_, _]) (hn := by decide) (hlt := (Nat.le_of_ble_eq_true rfl)) (hno := rfl) C dk_X0_countDown_1 rfl ?_
  exact (K n (0, M) (by rw [e_X0_countDown] at hs; exact hs))
def tvCd (M : tvM) (b : Nat) : Nat → tvM
  | 0 => M
  | i + 1 => if f_X0_has (tvCd M b i) b (nI i) = 0 then tvCd M b i else if tnc (tgi (tvCd M b i) (b + 10) (nI i).toNatClampNeg) = 112 then (if tgi (tvCd M b i) (b + 12) (nI i).toNatClampNeg ≤ 0 then tvCd M b i else tpi (tvCd M b i) (b + 12) (nI i).toNatClampNeg (tgi (tvCd M b i) (b + 12) (nI i).toNatClampNeg - 1)) else tvCd M b i
theorem tgi_pi_ne {M : tvM} {a k a' k' : Nat} {v : Int32} (h : a' ≠ a) : tgi (tpi M a k v) a' k' = tgi M a' k' := by
  show tvU M.1 a k v a' k' = M.1 a' k'
  rw [tvU_ne _ _ _ h]
theorem tvCd_at (M : tvM) (b : Nat) (i : Nat) {a k : Nat} (h : a ≠ b + 12) : tgi (tvCd M b i) a k = tgi M a k := by
  induction i with
  | zero => rfl
  | succ i ih =>
    simp only [tvCd]
    split
    · exact ih
    · split
      · split
        · exact ih
        · rw [tgi_pi_ne h, ih]
      · exact ih
def f_X0_countDown (M : tvM) (b : Nat) : tvM := tvCd M b (tgi M (b + 6) 0).toNatClampNeg
theorem r_X0_countDown (M : tvM) (b : Nat) : ∃ n, tvIter (s_X0_countDown b) n (e_X0_countDown M b) = some (f_X0_countDown M b) := by
  refine tvIter_for (s_X0_countDown b) (fun i => (nI i, tvCd M b i)) (tgi M (b + 6) 0).toNatClampNeg _ (fun i hi => ?_) ?_
  · have h0 : ¬ tgi (tvCd M b i) (b + 6) 0 ≤ nI i := by rw [tvCd_at M b i (by omega)]; exact tv_nle hi
    simp only [s_X0_countDown, sb_X0_countDown, if_neg h0, tvCd, nI_1]
    split
    · rfl
    · split
      · split
        · rfl
        · rfl
      · rfl
  · have h0 : tgi (tvCd M b (tgi M (b + 6) 0).toNatClampNeg) (b + 6) 0 ≤ nI (tgi M (b + 6) 0).toNatClampNeg := by rw [tvCd_at M b _ (by omega)]; exact tv_le
    simp only [s_X0_countDown, sb_X0_countDown, if_pos h0, f_X0_countDown]
theorem n_X0_countDown (G : tvG) (M : tvM) {b : Nat} (hb : tvSB b) : tvRun G yX0_countDown cX0_countDown 2 none 2 0 0 tvP0 tvP0 [.ref (G.2.1 + (b + 6))] M (.inl none) (f_X0_countDown M b) := by
  obtain ⟨n, hn⟩ := r_X0_countDown M b 
  exact m_X0_countDown G M hb n _ hn
/-- TideVault$Boxes.takeBest(I)I -/
def sb_X0_takeBest (b : Nat) (x1 : Int32) (j : Nat) (y2 : Int32) (y3 : Int32) (y4 : Int32) (y5 : Int32) (M : tvM) : (Nat × Int32 × Int32 × Int32 × Int32 × tvM) ⊕ (Int32 × tvM) := (if j = 0 then (if y2 ≤ y4 then .inl (1, y2, y3, (f_X0_valueOf M b x1 y3), (y3 + 1), M) else (if (f_X0_valueOf M b x1 y4) ≤ (f_X0_valueOf M b x1 y3) then .inl (0, y2, y3, (y4 + 1), 0, M) else .inl (0, y2, y4, (y4 + 1), 0, M))) else (if y2 ≤ y5 then .inr (y4, (f_X0_setPearls M b x1 (y2 - 1)).2) else .inl (1, y2, y3, y4, (y5 + 1), (f_X0_setValue M b x1 (y5 - 1) (f_X0_valueOf M b x1 y5)))))
def s_X0_takeBest (b : Nat) (x1 : Int32) : (Nat × Int32 × Int32 × Int32 × Int32 × tvM) → (Nat × Int32 × Int32 × Int32 × Int32 × tvM) ⊕ (Int32 × tvM) := fun q => sb_X0_takeBest b x1 q.1 q.2.1 q.2.2.1 q.2.2.2.1 q.2.2.2.2.1 q.2.2.2.2.2
def e_X0_takeBest (M : tvM) (b : Nat) (x1 : Int32) : (Nat × Int32 × Int32 × Int32 × Int32 × tvM) ⊕ (Int32 × tvM) := .inl (0, (f_X0_pearlsIn M b x1), 0, 1, 0, M)
theorem m_X0_takeBest (G : tvG) (M : tvM) {b : Nat} (hb : tvSB b) (x1 : Int32) (n : Nat) (r : (Int32 × tvM)) (hs : tvIter (s_X0_takeBest b x1) n (e_X0_takeBest M b x1) = some r) : tvRun G yX0_takeBest cX0_takeBest 6 (some .int) 4 0 0 tvP0 tvP0 [.ref (G.2.1 + (b + 6)), .int x1] M (.inl (some (.int r.1))) r.2 := by
  refine tvRun.of yk_X0_takeBest rfl [some (.ref (G.2.1 + (b + 6))), some (.int x1), none, none, none, none] rfl (Nat.le_of_ble_eq_true rfl) ?_
  intro E hG C hQ; subst hG
  have K : ∀ (n : Nat) (q : Nat × Int32 × Int32 × Int32 × Int32 × tvM), tvIter (s_X0_takeBest b x1) n (.inl q) = some r → (q.1 = 0 → tv_W E tvP0 0 0 q.2.2.2.2.2 11 [some (.ref (E.G.2.1 + (b + 6))), some (.int x1), some (.int q.2.1), some (.int q.2.2.1), some (.int q.2.2.2.1), none] []) ∧ (q.1 = 1 → tv_W E tvP0 0 0 q.2.2.2.2.2 55 [some (.ref (E.G.2.1 + (b + 6))), some (.int x1), some (.int q.2.1), some (.int q.2.2.1), some (.int q.2.2.2.1), some (.int q.2.2.2.2.1)] []) := by
    intro n
    induction n with
    | zero => intro q hq; exact (tvIter_0 hq).elim
    | succ n ih =>
      intro q hq
      obtain ⟨j, y2, y3, y4, y5, M⟩ := q
      refine ⟨fun hj => ?_, fun hj => ?_⟩
      · have hj : j = 0 := hj; subst hj
        have hs : tvIter (s_X0_takeBest b x1) n (sb_X0_takeBest b x1 (0 : Nat) y2 y3 y4 y5 M) = some r := tvIter_go hq
        refine tv_iload C dk_X0_takeBest_11 rfl ?_
        refine tv_iload_n C dk_X0_takeBest_13 rfl ?_
        refine tv_icmp_ge C dk_X0_takeBest_14 (fun h101 => ?_) (fun h101 => ?_)
        · refine tv_aload_n C dk_X0_takeBest_42 rfl ?_
          refine tv_iload_n C dk_X0_takeBest_43 rfl ?_
          refine tv_iload_n C dk_X0_takeBest_44 rfl ?_
          refine tv_cV1 C dk_X0_takeBest_45 ml_RX0_84 yk_X0_valueOf yi_X0_valueOf (m_X0_valueOf _ M hb x1 y3) (tvSB_sh hb 6 (by decide)).2 (tvSB_sh hb 6 (by decide)).1 rfl rfl rfl (Nat.le_of_ble_eq_true rfl) (Nat.le_of_ble_eq_true rfl) (Nat.le_of_ble_eq_true rfl) (Nat.le_of_ble_eq_true rfl) (Nat.le_of_ble_eq_true rfl) ?_
          refine tv_istore (L' := [_, _, _, _, _, _]) (hn := by decide) (hlt := (Nat.le_of_ble_eq_true rfl)) (hno := rfl) C dk_X0_takeBest_48 rfl ?_
          refine tv_iload_n C dk_X0_takeBest_50 rfl ?_
          refine tv_iconst (v := 1) C dk_X0_takeBest_51 (by decide) ?_
          refine tv_iadd C dk_X0_takeBest_52 ?_
          refine tv_istore (L' := [_, _, _, _, _, _]) (hn := by decide) (hlt := (Nat.le_of_ble_eq_true rfl)) (hno := rfl) C dk_X0_takeBest_53 rfl ?_
          exact (ih (1, y2, y3, (f_X0_valueOf M b x1 y3), (y3 + 1), M) (by rw [sb_X0_takeBest, if_pos rfl, if_pos h101] at hs; exact hs)).2 rfl
        refine tv_aload_n C dk_X0_takeBest_17 rfl ?_
        refine tv_iload_n C dk_X0_takeBest_18 rfl ?_
        refine tv_iload C dk_X0_takeBest_19 rfl ?_
        refine tv_cV1 C dk_X0_takeBest_21 ml_RX0_84 yk_X0_valueOf yi_X0_valueOf (m_X0_valueOf _ M hb x1 y4) (tvSB_sh hb 6 (by decide)).2 (tvSB_sh hb 6 (by decide)).1 rfl rfl rfl (Nat.le_of_ble_eq_true rfl) (Nat.le_of_ble_eq_true rfl) (Nat.le_of_ble_eq_true rfl) (Nat.le_of_ble_eq_true rfl) (Nat.le_of_ble_eq_true rfl) ?_
        refine tv_aload_n C dk_X0_takeBest_24 rfl ?_
        refine tv_iload_n C dk_X0_takeBest_25 rfl ?_
        refine tv_iload_n C dk_X0_takeBest_26 rfl ?_
        refine tv_cV1 C dk_X0_takeBest_27 ml_RX0_84 yk_X0_valueOf yi_X0_valueOf (m_X0_valueOf _ M hb x1 y3) (tvSB_sh hb 6 (by decide)).2 (tvSB_sh hb 6 (by decide)).1 rfl rfl rfl (Nat.le_of_ble_eq_true rfl) (Nat.le_of_ble_eq_true rfl) (Nat.le_of_ble_eq_true rfl) (Nat.le_of_ble_eq_true rfl) (Nat.le_of_ble_eq_true rfl) ?_
        refine tv_icmp_le C dk_X0_takeBest_30 (fun h102 => ?_) (fun h102 => ?_)
        · refine tv_iinc (v := (y4 + 1)) (L' := [_, _, _, _, _, _]) (hn := by decide) (hlt := (Nat.le_of_ble_eq_true rfl)) (hno := rfl) C dk_X0_takeBest_36 rfl rfl rfl ?_
          refine tv_goto C dk_X0_takeBest_39 ?_
          exact (ih (0, y2, y3, (y4 + 1), 0, M) (by rw [sb_X0_takeBest, if_pos rfl, if_neg h101, if_pos h102] at hs; exact hs)).1 rfl
        refine tv_iload C dk_X0_takeBest_33 rfl ?_
        refine tv_istore_n (L' := [_, _, _, _, _, _]) (hn := by decide) (hlt := (Nat.le_of_ble_eq_true rfl)) (hno := rfl) C dk_X0_takeBest_35 rfl ?_
        refine tv_iinc (v := (y4 + 1)) (L' := [_, _, _, _, _, _]) (hn := by decide) (hlt := (Nat.le_of_ble_eq_true rfl)) (hno := rfl) C dk_X0_takeBest_36 rfl rfl rfl ?_
        refine tv_goto C dk_X0_takeBest_39 ?_
        exact (ih (0, y2, y4, (y4 + 1), 0, M) (by rw [sb_X0_takeBest, if_pos rfl, if_neg h101, if_neg h102] at hs; exact hs)).1 rfl
      · have hj : j = 1 := hj; subst hj
        have hs : tvIter (s_X0_takeBest b x1) n (sb_X0_takeBest b x1 (1 : Nat) y2 y3 y4 y5 M) = some r := tvIter_go hq
        refine tv_iload C dk_X0_takeBest_55 rfl ?_
        refine tv_iload_n C dk_X0_takeBest_57 rfl ?_
        refine tv_icmp_ge C dk_X0_takeBest_58 (fun h201 => ?_) (fun h201 => ?_)
        · refine tv_aload_n C dk_X0_takeBest_83 rfl ?_
          refine tv_iload_n C dk_X0_takeBest_84 rfl ?_
          refine tv_iload_n C dk_X0_takeBest_85 rfl ?_
          refine tv_iconst (v := 1) C dk_X0_takeBest_86 (by decide) ?_
          refine tv_isub C dk_X0_takeBest_87 ?_
          refine tv_cV1 C dk_X0_takeBest_88 ml_RX0_80 yk_X0_setPearls yi_X0_setPearls (m_X0_setPearls _ M hb x1 (y2 - 1)) (tvSB_sh hb 6 (by decide)).2 (tvSB_sh hb 6 (by decide)).1 rfl rfl rfl (Nat.le_of_ble_eq_true rfl) (Nat.le_of_ble_eq_true rfl) (Nat.le_of_ble_eq_true rfl) (Nat.le_of_ble_eq_true rfl) (Nat.le_of_ble_eq_true rfl) ?_
          refine tv_pop C dk_X0_takeBest_91 rfl ?_
          refine tv_iload C dk_X0_takeBest_92 rfl ?_
          exact tv_iret C hQ dk_X0_takeBest_94 rfl (by rw [sb_X0_takeBest, if_neg (by decide), if_pos h201] at hs; rw [← tvIter_out hs]) (by rw [sb_X0_takeBest, if_neg (by decide), if_pos h201] at hs; rw [← tvIter_out hs])
        refine tv_aload_n C dk_X0_takeBest_61 rfl ?_
        refine tv_iload_n C dk_X0_takeBest_62 rfl ?_
        refine tv_iload C dk_X0_takeBest_63 rfl ?_
        refine tv_iconst (v := 1) C dk_X0_takeBest_65 (by decide) ?_
        refine tv_isub C dk_X0_takeBest_66 ?_
        refine tv_aload_n C dk_X0_takeBest_67 rfl ?_
        refine tv_iload_n C dk_X0_takeBest_68 rfl ?_
        refine tv_iload C dk_X0_takeBest_69 rfl ?_
        refine tv_cV1 C dk_X0_takeBest_71 ml_RX0_84 yk_X0_valueOf yi_X0_valueOf (m_X0_valueOf _ M hb x1 y5) (tvSB_sh hb 6 (by decide)).2 (tvSB_sh hb 6 (by decide)).1 rfl rfl rfl (Nat.le_of_ble_eq_true rfl) (Nat.le_of_ble_eq_true rfl) (Nat.le_of_ble_eq_true rfl) (Nat.le_of_ble_eq_true rfl) (Nat.le_of_ble_eq_true rfl) ?_
        refine tv_cV0 C dk_X0_takeBest_74 ml_RX0_76 yk_X0_setValue yi_X0_setValue (m_X0_setValue _ M hb x1 (y5 - 1) (f_X0_valueOf M b x1 y5)) (tvSB_sh hb 6 (by decide)).2 (tvSB_sh hb 6 (by decide)).1 rfl rfl rfl (Nat.le_of_ble_eq_true rfl) (Nat.le_of_ble_eq_true rfl) (Nat.le_of_ble_eq_true rfl) (Nat.le_of_ble_eq_true rfl) (Nat.le_of_ble_eq_true rfl) ?_
        refine tv_iinc (v := (y5 + 1)) (L' := [_, _, _, _, _, _]) (hn := by decide) (hlt := (Nat.le_of_ble_eq_true rfl)) (hno := rfl) C dk_X0_takeBest_77 rfl rfl rfl ?_
        refine tv_goto C dk_X0_takeBest_80 ?_
        exact (ih (1, y2, y3, y4, (y5 + 1), (f_X0_setValue M b x1 (y5 - 1) (f_X0_valueOf M b x1 y5))) (by rw [sb_X0_takeBest, if_neg (by decide), if_neg h201] at hs; exact hs)).2 rfl
  refine tv_aload_n C dk_X0_takeBest_0 rfl ?_
  refine tv_iload_n C dk_X0_takeBest_1 rfl ?_
  refine tv_cV1 C dk_X0_takeBest_2 ml_RX0_73 yk_X0_pearlsIn yi_X0_pearlsIn (m_X0_pearlsIn _ M hb x1) (tvSB_sh hb 6 (by decide)).2 (tvSB_sh hb 6 (by decide)).1 rfl rfl rfl (Nat.le_of_ble_eq_true rfl) (Nat.le_of_ble_eq_true rfl) (Nat.le_of_ble_eq_true rfl) (Nat.le_of_ble_eq_true rfl) (Nat.le_of_ble_eq_true rfl) ?_
  refine tv_istore_n (L' := [_, _, _, _, _, _]) (hn := by decide) (hlt := (Nat.le_of_ble_eq_true rfl)) (hno := rfl) C dk_X0_takeBest_5 rfl ?_
  refine tv_iconst (v := 0) C dk_X0_takeBest_6 (by decide) ?_
  refine tv_istore_n (L' := [_, _, _, _, _, _]) (hn := by decide) (hlt := (Nat.le_of_ble_eq_true rfl)) (hno := rfl) C dk_X0_takeBest_7 rfl ?_
  refine tv_iconst (v := 1) C dk_X0_takeBest_8 (by decide) ?_
  refine tv_istore (L' := [_, _, _, _, _, _]) (hn := by decide) (hlt := (Nat.le_of_ble_eq_true rfl)) (hno := rfl) C dk_X0_takeBest_9 rfl ?_
  exact (K n (0, (f_X0_pearlsIn M b x1), 0, 1, 0, M) (by rw [e_X0_takeBest] at hs; exact hs)).1 rfl
def tvBs (M : tvM) (b : Nat) (x1 : Int32) : Nat → Int32
  | 0 => 0
  | j + 1 => if f_X0_valueOf M b x1 (nI (j + 1)) ≤ f_X0_valueOf M b x1 (tvBs M b x1 j) then tvBs M b x1 j else nI (j + 1)
def tvBest (M : tvM) (b : Nat) (x1 : Int32) : Int32 := tvBs M b x1 ((f_X0_pearlsIn M b x1).toNatClampNeg - 1)
theorem tvBs_nat (M : tvM) (b : Nat) (x1 : Int32) (j : Nat) : ∃ k, k ≤ j ∧ tvBs M b x1 j = nI k := by
  induction j with
  | zero => exact ⟨0, Nat.le_refl _, rfl⟩
  | succ j ih =>
    obtain ⟨k, h1, h2⟩ := ih
    simp only [tvBs]
    split
    · exact ⟨k, by omega, h2⟩
    · exact ⟨j + 1, Nat.le_refl _, rfl⟩
def tvSh1 (M : tvM) (b : Nat) (x1 k0 : Int32) : Nat → tvM
  | 0 => M
  | k + 1 => f_X0_setValue (tvSh1 M b x1 k0 k) b x1 (k0 + 1 + nI k - 1) (f_X0_valueOf (tvSh1 M b x1 k0 k) b x1 (k0 + 1 + nI k))
def tvShM (M : tvM) (b : Nat) (x1 : Int32) : tvM := tvSh1 M b x1 (tvBest M b x1) ((f_X0_pearlsIn M b x1).toNatClampNeg - ((tvBest M b x1).toNatClampNeg + 1))
def f_X0_takeBest (M : tvM) (b : Nat) (x1 : Int32) : Int32 × tvM := (f_X0_valueOf M b x1 (tvBest M b x1), (f_X0_setPearls (tvShM M b x1) b x1 (f_X0_pearlsIn M b x1 - 1)).2)
theorem r_X0_takeBest (M : tvM) (b : Nat) (x1 : Int32) : ∃ n, tvIter (s_X0_takeBest b x1) n (e_X0_takeBest M b x1) = some (f_X0_takeBest M b x1) := by
  refine tvIter_seg (s_X0_takeBest b x1) (fun j => (0, f_X0_pearlsIn M b x1, tvBs M b x1 j, nI (j + 1), 0, M)) ((f_X0_pearlsIn M b x1).toNatClampNeg - 1) _ (fun j hj => ?_) ?_
  · simp only [s_X0_takeBest, sb_X0_takeBest, if_true, if_neg (tv_lt1 hj), tvBs, nI_1]
    split <;> rfl
  · refine tvIter_1 (s' := (1, f_X0_pearlsIn M b x1, tvBest M b x1, f_X0_valueOf M b x1 (tvBest M b x1), tvBest M b x1 + 1, M)) ?_ ?_
    · simp only [s_X0_takeBest, sb_X0_takeBest, if_true, if_pos tv_le1, tvBest]
    · obtain ⟨k, hk, hb⟩ := tvBs_nat M b x1 ((f_X0_pearlsIn M b x1).toNatClampNeg - 1)
      have hbd := tv_bd (x := f_X0_pearlsIn M b x1)
      have hbest : tvBest M b x1 = nI k := hb
      have hcl : (tvBest M b x1).toNatClampNeg = k := by rw [hbest]; exact nI_clamp (by omega)
      have hx : ∀ i : Nat, tvBest M b x1 + 1 + nI i = nI (k + 1 + i) := fun i => by rw [hbest, nI_1, nI_add]
      have h2 := tvIter_seg (s_X0_takeBest b x1) (fun i => (1, f_X0_pearlsIn M b x1, tvBest M b x1, f_X0_valueOf M b x1 (tvBest M b x1), tvBest M b x1 + 1 + nI i, tvSh1 M b x1 (tvBest M b x1) i)) ((f_X0_pearlsIn M b x1).toNatClampNeg - ((tvBest M b x1).toNatClampNeg + 1)) (f_X0_takeBest M b x1) (fun i hi => ?_) (tvIter_e ?_)
      · have h3 : tvBest M b x1 + 1 + nI 0 = tvBest M b x1 + 1 := by rw [hx, hbest, nI_1]
        rw [h3] at h2
        exact h2
      · rw [hcl] at hi
        have h3 : ¬ f_X0_pearlsIn M b x1 ≤ tvBest M b x1 + 1 + nI i := by rw [hx]; exact tv_nle (by omega)
        have h4 : tvBest M b x1 + 1 + nI i + 1 = tvBest M b x1 + 1 + nI (i + 1) := by rw [hx, hx, nI_1]; rfl
        simp only [s_X0_takeBest, sb_X0_takeBest, if_neg (show ¬ (1 : Nat) = 0 by decide), if_neg h3, tvSh1, h4]
      · have h3 : f_X0_pearlsIn M b x1 ≤ tvBest M b x1 + 1 + nI ((f_X0_pearlsIn M b x1).toNatClampNeg - ((tvBest M b x1).toNatClampNeg + 1)) := by
          rw [hx, hcl]
          rcases Nat.lt_or_ge k (f_X0_pearlsIn M b x1).toNatClampNeg with q | q
          · rw [show k + 1 + ((f_X0_pearlsIn M b x1).toNatClampNeg - (k + 1)) = (f_X0_pearlsIn M b x1).toNatClampNeg by omega]
            exact tv_le
          · have h0 : (f_X0_pearlsIn M b x1).toNatClampNeg = 0 := by omega
            have h5 := tv_le (x := f_X0_pearlsIn M b x1)
            rw [h0] at h5 ⊢
            rw [Int32.le_iff_toInt_le] at *
            rw [nI_toInt (by omega)] at *
            omega
        simp only [s_X0_takeBest, sb_X0_takeBest, if_neg (show ¬ (1 : Nat) = 0 by decide), if_pos h3, f_X0_takeBest, tvShM]
theorem n_X0_takeBest (G : tvG) (M : tvM) {b : Nat} (hb : tvSB b) (x1 : Int32) : tvRun G yX0_takeBest cX0_takeBest 6 (some .int) 4 0 0 tvP0 tvP0 [.ref (G.2.1 + (b + 6)), .int x1] M (.inl (some (.int (f_X0_takeBest M b x1).1))) ((f_X0_takeBest M b x1).2) := by
  obtain ⟨n, hn⟩ := r_X0_takeBest M b x1 
  exact m_X0_takeBest G M hb x1 n _ hn
