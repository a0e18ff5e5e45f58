/-! ===== the program: reading and running, the class alone ===== -/
theorem pn_m1ne {c : Nat} (hc : c < 65536) : ¬ (-1 : Int32) = nI c := fun q => by
  have := congrArg Int32.toInt q
  rw [nI_toInt (by omega), show (-1 : Int32).toInt = -1 from by decide] at this
  omega
theorem puC_x (M : tvM) (b : Nat) (c : Nat → Nat → Int32) (l : Int64) {a k : Nat} (v : Int32) (h : ¬ (b ≤ a ∧ a < b + 20)) : tpi (puC M b c l) a k v = puC (tpi M a k v) b c l := by
  refine Prod.ext (funext fun y => funext fun j => ?_) rfl
  show (if y = a ∧ j = k then v else (if b ≤ y ∧ y < b + 20 then c (y - b) j else M.1 y j)) = (if b ≤ y ∧ y < b + 20 then c (y - b) j else (if y = a ∧ j = k then v else M.1 y j))
  by_cases q : y = a ∧ j = k
  · rw [if_pos q, if_neg (by omega), if_pos q]
  · rw [if_neg q, if_neg q]
theorem puC_puC (M : tvM) (b : Nat) (c c2 : Nat → Nat → Int32) (l l2 : Int64) : puC (puC M b c l) b c2 l2 = puC M b c2 l2 := by
  refine Prod.ext (funext fun y => funext fun j => ?_) (Prod.ext (funext fun y => funext fun j => ?_) rfl)
  · show (if b ≤ y ∧ y < b + 20 then c2 (y - b) j else (if b ≤ y ∧ y < b + 20 then c (y - b) j else M.1 y j)) = (if b ≤ y ∧ y < b + 20 then c2 (y - b) j else M.1 y j)
    by_cases q : b ≤ y ∧ y < b + 20
    · rw [if_pos q, if_pos q]
    · rw [if_neg q, if_neg q, if_neg q]
  · show (if y = b ∧ j = 8 then l2 else (if y = b ∧ j = 8 then l else M.2.1 y j)) = (if y = b ∧ j = 8 then l2 else M.2.1 y j)
    by_cases q : y = b ∧ j = 8
    · rw [if_pos q, if_pos q]
    · rw [if_neg q, if_neg q, if_neg q]
theorem f_X8_run_0 {M M' : tvM} {v : Int32} (hp : f_X5_parse M = (v, M')) (hne : ¬ v = -1) : f_X8_run M = (some "java/lang/IllegalArgumentException", 0, tpi (tpi M' 243 1 0) 0 7 v) := by
  unfold f_X8_run
  rw [hp]
  dsimp only
  rw [if_neg hne]
  unfold f_X5_empty
  exact Eq.refl _
theorem tvRuE_K {Mb : tvM} {c : Nat → Nat → Int32} {l : Int64} {x n m : Nat} (h1 : Mb.1 61 1 = nI x) (h2 : Mb.1 61 2 = nI n) (hx : x < 9) (hn : n ≤ 8) (h3 : Mb.1 243 3 = nI m) : tvRuE (puC Mb 1 c l) = (none, nI m, puC (tpi (tpi Mb 61 1 (nI ((x + 1) % 9))) 61 2 (nI (min (n + 1) 8))) 1 c l) := by
  have e : f_X1_commit (puC Mb 1 c l) = puC (tpi (tpi Mb 61 1 (nI ((x + 1) % 9))) 61 2 (nI (min (n + 1) 8))) 1 c l := by
    rw [pCommit (x := x) (n := n) ((puC_o _ _ _ _ (by omega) _).trans h1) ((puC_o _ _ _ _ (by omega) _).trans h2) hx hn, puC_x _ _ _ _ _ (by omega), puC_x _ _ _ _ _ (by omega)]
  have e3 : tgi (puC (tpi (tpi Mb 61 1 (nI ((x + 1) % 9))) 61 2 (nI (min (n + 1) 8))) 1 c l) 243 3 = nI m := by
    rw [puC_o _ _ _ _ (by omega)]
    show (tpi (tpi Mb 61 1 (nI ((x + 1) % 9))) 61 2 (nI (min (n + 1) 8))).1 243 3 = nI m
    rw [tpi_o _ _ _ (by omega), tpi_o _ _ _ (by omega)]
    exact h3
  unfold tvRuE
  rw [e, e3]
theorem tvRuX_K {Mb : tvM} {c : Nat → Nat → Int32} {l : Int64} {x i : Nat} (h1 : Mb.1 61 1 = nI x) (hx : x < 9) : ∃ c2 : Nat → Nat → Int32, tvRuX (puC Mb 1 c l) (nI i) = (some "java/lang/UnsupportedOperationException", 0, tpi (tpi (puC Mb 1 c2 (pL Mb (63 + 20 * x))) 0 8 (nI i)) 0 9 (if tvRuR (puC Mb 1 c l) (nI i) = 4 then 1 else 0)) ∧ ∀ p k, pRel p k → c2 p k = Mb.1 (63 + 20 * x + p) k := by
  obtain ⟨c2, g, r⟩ := pc_copy (puC Mb 1 c l) (b := 1) (b2 := 63 + 20 * x) (by omega)
  have e61 : tgi (puC Mb 1 c l) 61 1 = nI x := (puC_o _ _ _ _ (by omega) _).trans h1
  have ei : (f_J9_floorMod_7cf53 (puC Mb 1 c l) (nI x) 9).toNatClampNeg = x := by
    rw [pn_fm _ (by omega), pn_c (by omega), Nat.mod_eq_of_lt hx]
  have el : pL (puC Mb 1 c l) (63 + 20 * x) = pL Mb (63 + 20 * x) := congrFun (puC_lo Mb c l (by omega)) 8
  have ec : f_X1_cancel (puC Mb 1 c l) = puC Mb 1 c2 (pL Mb (63 + 20 * x)) := by
    unfold f_X1_cancel
    rw [e61, ei, g, puC_puC, el]
  refine ⟨c2, ?_, fun p k hr => (r p k hr).trans (puC_o _ _ _ _ (by omega) _)⟩
  unfold tvRuX
  rw [ec]
theorem f_X8_run_1 {M M' : tvM} (hp : f_X5_parse M = (-1, M')) : ∃ U : Nat, 60 ≤ U ∧ f_X8_run M = tvRu U 0 (f_X1_begin (tpi M' 243 1 0)) := by
  obtain ⟨U, hU⟩ : ∃ U : Nat, U = 2147483647 := ⟨_, rfl⟩
  refine ⟨U, by omega, ?_⟩
  unfold f_X8_run
  rw [← hU, hp]
  dsimp only
  rw [if_pos rfl]
  unfold f_X5_empty
  exact Eq.refl _
def pPf (M M1 : tvM) : Prop := (∀ a j, a ≠ 246 → ¬ (a = 243 ∧ j = 2) → M1.1 a j = M.1 a j) ∧ M1.2 = M.2
theorem pPf.refl (M : tvM) : pPf M M := ⟨fun _ _ _ _ => rfl, rfl⟩
theorem pPf.trans {M M1 M2 : tvM} (h : pPf M M1) (h2 : pPf M1 M2) : pPf M M2 := ⟨fun a j q1 q2 => (h2.1 a j q1 q2).trans (h.1 a j q1 q2), h2.2.trans h.2⟩
theorem pPf_pos (M : tvM) (v : Int32) : pPf M (tpi M 243 2 v) := ⟨fun a j _ h => by
  by_cases q : a = 243
  · subst q
    exact tpi_k _ _ _ (by omega)
  · exact tpi_o _ _ j q, rfl⟩
theorem pPf_sign (M : tvM) (x : Int32) : pPf M (f_X5_readSign M x).2 := by
  unfold f_X5_readSign
  repeat' split
  all_goals first | exact pPf.refl M | exact pPf_pos M _
theorem pPf_arg (M : tvM) (x w : Int32) : pPf M (f_X5_setArgument M x w) := by
  unfold f_X5_setArgument
  repeat' split
  all_goals first | exact pPf.refl M | exact ⟨fun a j h _ => tpi_o _ _ j h, rfl⟩
theorem pPf_rn (x1 x2 : Int32) : ∀ (n d : Nat) (v : Int32) (M : tvM), pPf M (tvRn x1 x2 n d v M).2 := by
  intro n
  induction n with
  | zero => intro d v M; exact pPf_arg M x1 v
  | succ n ih =>
    intro d v M
    rw [tvRn]
    split
    · exact pPf_arg M x1 v
    · exact (pPf_pos M _).trans (ih _ _ _)
theorem pPf_num (M : tvM) (x1 x2 : Int32) : pPf M (f_X5_readNumber M x1 x2).2 := pPf_rn _ _ _ _ _ _
theorem pPf_rfm (x1 : Nat) : ∀ (n i : Nat) (y3 y2 : Int32) (M : tvM), pPf M (tvRfm x1 n i y3 y2 M).2 := by
  intro n
  induction n with
  | zero => intro i y3 y2 M; exact pPf.refl M
  | succ n ih =>
    intro i y3 y2 M
    rw [tvRfm]
    repeat' split
    · exact pPf.refl M
    · exact (pPf_num M _ _).trans (ih _ _ _ _)
    · exact (pPf_num M _ _).trans (ih _ _ _ _)
    · exact (pPf_sign M _).trans (ih _ _ _ _)
theorem pPf_form (M : tvM) (x : Nat) : pPf M (f_X5_readForm M x).2 := pPf_rfm _ _ _ _ _ _
theorem pSg_c {M M1 : tvM} (h1 : M1.1 243 1 = M.1 243 1) (h2 : ∀ k, M1.1 244 k = M.1 244 k) (x : Int32) : f_X5_signAt M1 x = f_X5_signAt M x := by
  unfold f_X5_signAt
  rw [show tgi M1 243 1 = tgi M 243 1 from h1, show tgi M1 244 x.toNatClampNeg = tgi M 244 x.toNatClampNeg from h2 _]
/-- no letter d in the text -/
def pNoD (M : tvM) : Prop := ∀ x : Int32, f_X5_signAt M x ≠ 100
theorem pNoD_of {M : tvM} {n : Nat} {T : Nat → Nat} (h1 : M.1 243 1 = nI n) (hn : n ≤ 60) (h2 : ∀ k, k < n → T k < 128 ∧ T k ≠ 100 ∧ M.1 244 k = nI (T k)) : pNoD M := by
  intro x
  unfold f_X5_signAt
  by_cases q : x < 0
  · rw [if_pos q]; decide
  · rw [if_neg q]
    obtain ⟨k, hk, rfl⟩ := pn_nneg q
    rw [show tgi M 243 1 = nI n from h1]
    by_cases q2 : n ≤ k
    · rw [if_pos ((pn_le (by omega) hk).2 q2)]; decide
    · rw [if_neg (fun e => q2 ((pn_le (by omega) hk).1 e)), if_neg (by rw [pl_60, pn_le (by omega) hk]; omega), pn_c hk]
      obtain ⟨t1, t2, t3⟩ := h2 k (by omega)
      rw [show tgi M 244 k = nI (T k) from t3, pc_tnc _ (by omega), pl_100]
      exact fun e => t2 ((pn_eq (by omega) (by omega)).1 e)
theorem pCs_d {M : tvM} (hd : pNoD M) {x i : Nat} (hc : f_J0_charAt_5068e x (nI i) = 100) : tvCsP M x i = true := by
  unfold tvCsP
  rw [hc]
  simp [hd _]
theorem pVb {M : tvM} (hd : pNoD M) : tvRvP M 0 = false ∧ tvRvP M 4 = false := by
  constructor
  · have h : fa_first (tvCsP M 0) 7 ≤ 3 := by
      apply Nat.le_of_not_lt
      intro q
      have h1 := fa_first_no (tvCsP M 0) 7 3 q
      rw [pCs_d hd (by decide)] at h1
      exact absurd h1 (by decide)
    unfold tvRvP
    rw [show f_X5_wordOf (nI 0) = 0 from by decide]
    unfold f_X5_countSame f_J0_length_8abf5
    rw [show tvLen.getD 0 0 = 7 from rfl, decide_eq_false_iff_not, pn_eq (by omega) (by omega)]
    omega
  · have h : fa_first (tvCsP M 4) 5 ≤ 2 := by
      apply Nat.le_of_not_lt
      intro q
      have h1 := fa_first_no (tvCsP M 4) 5 2 q
      rw [pCs_d hd (by decide)] at h1
      exact absurd h1 (by decide)
    unfold tvRvP
    rw [show f_X5_wordOf (nI 4) = 4 from by decide]
    unfold f_X5_countSame f_J0_length_8abf5
    rw [show tvLen.getD 4 0 = 5 from rfl, decide_eq_false_iff_not, pn_eq (by omega) (by omega)]
    omega
theorem pRv {M : tvM} (hd : pNoD M) : (∃ (o : Nat) (w : Int32), o < 9 ∧ o ≠ 0 ∧ o ≠ 4 ∧ f_X5_readVerb M = (nI o, tpi M 243 2 w)) ∨ (∃ w : Int32, f_X5_readVerb M = (-1, tpi M 243 2 w)) := by
  have hy := fa_first_yes (tvRvP M) 9
  obtain ⟨b0, b4⟩ := pVb hd
  unfold f_X5_readVerb
  by_cases q : fa_first (tvRvP M) 9 < 9
  · rw [if_pos q]
    have h1 := hy q
    refine Or.inl ⟨_, _, q, fun e => ?_, fun e => ?_, rfl⟩
    · rw [e, b0] at h1; exact absurd h1 (by decide)
    · rw [e, b4] at h1; exact absurd h1 (by decide)
  · rw [if_neg q]
    exact Or.inr ⟨_, rfl⟩
def pPi (M0 M : tvM) (m : Nat) : Prop := (∀ a j, a ≠ 245 → a ≠ 246 → ¬ (a = 243 ∧ 2 ≤ j ∧ j ≤ 3) → M.1 a j = M0.1 a j) ∧ M.2 = M0.2 ∧ M.1 243 3 = nI m ∧ m ≤ 60 ∧ ∀ i, i < m → ∃ v, v < 9 ∧ v ≠ 0 ∧ v ≠ 4 ∧ M.1 245 i = nI v
theorem pPi_f {M0 M M1 : tvM} {m : Nat} (h : pPi M0 M m) (f : pPf M M1) : pPi M0 M1 m := by
  obtain ⟨h1, h2, h3, h4, h5⟩ := h
  refine ⟨fun a j q1 q2 q3 => (f.1 a j q2 (by omega)).trans (h1 a j q1 q2 q3), f.2.trans h2, (f.1 _ _ (by omega) (by omega)).trans h3, h4, fun i hi => ?_⟩
  obtain ⟨v, v1, v2, v3, v4⟩ := h5 i hi
  exact ⟨v, v1, v2, v3, (f.1 _ _ (by omega) (by omega)).trans v4⟩
theorem pPi_d {M0 M : tvM} {m : Nat} (hd : pNoD M0) (h : pPi M0 M m) : pNoD M := fun x => by
  rw [pSg_c (h.1 243 1 (by omega) (by omega) (by omega)) (fun k => h.1 244 k (by omega) (by omega) (by omega)) x]
  exact hd x
theorem pFin {M0 N K : tvM} {m o : Nat} (h : pPi M0 N m) (hm : m < 60) (h1 : o < 9) (h2 : o ≠ 0) (h3 : o ≠ 4) (hK : pPf (tpi N 245 m (nI o)) K) : pPi M0 (tpi K 243 3 (tgi K 243 3 + 1)) (m + 1) := by
  obtain ⟨p1, p2, p3, p4, p5⟩ := h
  have e3 : tgi K 243 3 = nI m := (hK.1 243 3 (by omega) (by omega)).trans ((tpi_o _ _ _ (by omega)).trans p3)
  have e5 : ∀ i, (tpi K 243 3 (tgi K 243 3 + 1)).1 245 i = (tpi N 245 m (nI o)).1 245 i := fun i => (tpi_o _ _ _ (by omega)).trans (hK.1 245 i (by omega) (by omega))
  refine ⟨fun a j q1 q2 q3 => ?_, hK.2.trans p2, by rw [tpi_s, e3, nI_1], by omega, fun i hi => ?_⟩
  · have e1 : (tpi K 243 3 (tgi K 243 3 + 1)).1 a j = K.1 a j := by
      by_cases q : a = 243
      · subst q
        exact tpi_k _ _ _ (by omega)
      · exact tpi_o _ _ j q
    rw [e1, hK.1 a j q2 (by omega), tpi_o _ _ j q1]
    exact p1 a j q1 q2 q3
  · rw [e5]
    by_cases q : i = m
    · subst q
      exact ⟨o, h1, h2, h3, tpi_s _ _ _ _⟩
    · obtain ⟨v, v1, v2, v3, v4⟩ := p5 i (by omega)
      exact ⟨v, v1, v2, v3, (tpi_k _ _ _ q).trans v4⟩
theorem pRc1 {M0 M : tvM} {m : Nat} (hd : pNoD M0) (h : pPi M0 M m) : ∃ m', pPi M0 (f_X5_readCommand M).2 m' := by
  rcases pRv (pPi_d hd h) with ⟨o, w, o1, o2, o3, e⟩ | ⟨w, e⟩
  · have hN : pPi M0 (tpi M 243 2 w) m := pPi_f h (pPf_pos M w)
    unfold f_X5_readCommand
    rw [e]
    dsimp only
    generalize tpi M 243 2 w = N at hN
    have h4 := hN.2.2.2.1
    have e3 : tgi N 243 3 = nI m := hN.2.2.1
    rw [if_neg (fun q => pn_m1ne (c := o) (by omega) q.symm), e3, if_neg (pn_neg (by omega))]
    by_cases q : m < 60
    · rw [if_pos (show nI m < 60 from (pn_lt (a := m) (b := 60) (by omega) (by omega)).2 q), pn_c (by omega)]
      refine ⟨m + 1, ?_⟩
      repeat' split
      all_goals first | exact pFin hN q o1 o2 o3 (pPf_form _ _) | exact pFin hN q o1 o2 o3 ((pPf_arg _ _ _).trans (pPf_form _ _))
    · rw [if_neg (show ¬ nI m < 60 from fun z => q ((pn_lt (a := m) (b := 60) (by omega) (by omega)).1 z))]
      exact ⟨m, hN⟩
  · unfold f_X5_readCommand
    rw [e]
    dsimp only
    rw [if_pos rfl]
    exact ⟨m, pPi_f h (pPf_pos M w)⟩
theorem pPs {M0 : tvM} (hd : pNoD M0) : ∀ (n : Nat) (y : Int32) (M : tvM) (m : Nat), pPi M0 M m → ∃ m', pPi M0 (tvPs n y M).2 m' := by
  intro n
  induction n with
  | zero => intro y M m h; exact ⟨m, h⟩
  | succ n ih =>
    intro y M m h
    rw [tvPs]
    repeat' split
    · exact ⟨m, h⟩
    · exact ⟨m, h⟩
    · exact ih _ _ m (pPi_f h (pPf_sign _ _))
    · obtain ⟨m', h'⟩ := pRc1 hd (pPi_f h (pPf_sign M 59))
      exact ih _ _ m' h'
    · obtain ⟨m', h'⟩ := pRc1 hd (pPi_f h (pPf_sign M 59))
      exact ih _ _ m' h'
theorem pParse {M0 : tvM} (hd : pNoD M0) : ∃ m', pPi M0 (f_X5_parse M0).2 m' := by
  have h0 : pPi M0 (tpi (tpi M0 243 2 0) 243 3 0) 0 := ⟨fun a j q1 q2 q3 => by
    by_cases q : a = 243
    · subst q
      rw [tpi_k _ _ _ (by omega), tpi_k _ _ _ (by omega)]
    · rw [tpi_o _ _ j q, tpi_o _ _ j q], rfl, tpi_s _ _ _ _, by omega, fun i hi => absurd hi (by omega)⟩
  obtain ⟨m1, h1⟩ := pRc1 hd h0
  unfold f_X5_parse
  exact pPs hd 60 _ _ m1 h1
/-! one command -/
theorem pSt1 {B : Nat} {c : Nat → Nat → Int32} {l : Int64} {s : Nat → Nat} {ρ : tvM → Int32} {cf : tvM → Int32 × tvM} {hear : tvM → tvM} {mf : tvM → Int32 × tvM} {mq : tvM → Prop} {ex : List (Int32 × Nat)} {g : Prop} {lo : Nat} (h : pSim B c l s 1 ρ cf hear mf mq ex g lo) (hg : g) (hex : ∀ p ∈ ex, p.1 ≠ 0) (hX : pXi (0, 0) s) (Mb : tvM) :
    (ρ (puC Mb 1 c l) = 0 ∧ ∃ (c' : Nat → Nat → Int32) (l' : Int64) (s' : Nat → Nat), (cf (puC Mb 1 c l)).2 = puC Mb 1 c' l' ∧ pOk (B + 240) c' l' s' ∧ pXi (0, 0) s' ∧ s 9 ≤ s' 9 ∧ s 10 ≤ s' 10) ∨ ρ (puC Mb 1 c l) ≠ 0 := by
  rcases h Mb Mb Mb 0 with ⟨a1, v, c', l', s', a2, a3, _, _, a6, aX, al⟩ | ⟨p, hp, a1, _⟩ | ⟨a1, _⟩
  · exact Or.inl ⟨a1, c', l', s', by rw [a3], a6, aX hg (0, 0) hX, pXi_mo (fun z => aX hg z) hX⟩
  · exact Or.inr (by rw [a1]; exact hex p hp)
  · exact Or.inr (by rw [a1]; decide)
theorem pStp {B : Nat} {c : Nat → Nat → Int32} {l : Int64} {s : Nat → Nat} (hR : pOk B c l s) (hX : pXi (0, 0) s) (hB : B + 240 ≤ 10000000) {v : Nat} (h1 : v < 9) (h2 : v ≠ 0) (h3 : v ≠ 4) (a0 a1 a2 : Int32) (Mb : tvM) :
    (f_X6_refusalOfCommand (puC Mb 1 c l) 1 (nI v) a0 a1 a2 = 0 ∧ ∃ (c' : Nat → Nat → Int32) (l' : Int64) (s' : Nat → Nat), f_X6_carryOut (puC Mb 1 c l) 1 (nI v) a0 a1 a2 = puC Mb 1 c' l' ∧ pOk (B + 240) c' l' s' ∧ pXi (0, 0) s' ∧ s 9 ≤ s' 9 ∧ s 10 ≤ s' 10) ∨ f_X6_refusalOfCommand (puC Mb 1 c l) 1 (nI v) a0 a1 a2 ≠ 0 := by
  rcases (show v = 1 ∨ v = 2 ∨ v = 3 ∨ v = 5 ∨ v = 6 ∨ v = 7 ∨ v = 8 by omega) with rfl | rfl | rfl | rfl | rfl | rfl | rfl
  · unfold f_X6_refusalOfCommand f_X6_carryOut
    rw [if_neg (show ¬ nI 1 = 0 from by decide), if_pos (show nI 1 = 1 from by decide), if_neg (show ¬ nI 1 = 0 from by decide), if_pos (show nI 1 = 1 from by decide)]
    exact pSt1 (pSim_boxed 1 hR hB a0 a1 a2) trivial (by simp) hX Mb
  · unfold f_X6_refusalOfCommand f_X6_carryOut
    rw [if_neg (show ¬ nI 2 = 0 from by decide), if_neg (show ¬ nI 2 = 1 from by decide), if_pos (show nI 2 = 2 from by decide), if_neg (show ¬ nI 2 = 0 from by decide), if_neg (show ¬ nI 2 = 1 from by decide), if_pos (show nI 2 = 2 from by decide)]
    exact pSt1 (pSim_tides 1 hR hB a0 a1) trivial (by simp) hX Mb
  · unfold f_X6_refusalOfCommand f_X6_carryOut
    rw [if_neg (show ¬ nI 3 = 0 from by decide), if_neg (show ¬ nI 3 = 1 from by decide), if_neg (show ¬ nI 3 = 2 from by decide), if_pos (show nI 3 = 3 from by decide), if_neg (show ¬ nI 3 = 0 from by decide), if_neg (show ¬ nI 3 = 1 from by decide), if_neg (show ¬ nI 3 = 2 from by decide), if_pos (show nI 3 = 3 from by decide)]
    exact pSt1 (pSim_turns 1 hR hB a0 a1 a2) trivial (by simp) hX Mb
  · unfold f_X6_refusalOfCommand f_X6_carryOut
    rw [if_neg (show ¬ nI 5 = 0 from by decide), if_neg (show ¬ nI 5 = 1 from by decide), if_neg (show ¬ nI 5 = 2 from by decide), if_neg (show ¬ nI 5 = 3 from by decide), if_neg (show ¬ nI 5 = 4 from by decide), if_pos (show nI 5 = 5 from by decide), if_neg (show ¬ nI 5 = 0 from by decide), if_neg (show ¬ nI 5 = 1 from by decide), if_neg (show ¬ nI 5 = 2 from by decide), if_neg (show ¬ nI 5 = 3 from by decide), if_neg (show ¬ nI 5 = 4 from by decide), if_pos (show nI 5 = 5 from by decide)]
    exact pSt1 (pSim_deposits 1 hR hB a0 a1) trivial (by simp) hX Mb
  · unfold f_X6_refusalOfCommand f_X6_carryOut
    rw [if_neg (show ¬ nI 6 = 0 from by decide), if_neg (show ¬ nI 6 = 1 from by decide), if_neg (show ¬ nI 6 = 2 from by decide), if_neg (show ¬ nI 6 = 3 from by decide), if_neg (show ¬ nI 6 = 4 from by decide), if_neg (show ¬ nI 6 = 5 from by decide), if_pos (show nI 6 = 6 from by decide), if_neg (show ¬ nI 6 = 0 from by decide), if_neg (show ¬ nI 6 = 1 from by decide), if_neg (show ¬ nI 6 = 2 from by decide), if_neg (show ¬ nI 6 = 3 from by decide), if_neg (show ¬ nI 6 = 4 from by decide), if_neg (show ¬ nI 6 = 5 from by decide), if_pos (show nI 6 = 6 from by decide)]
    exact pSt1 (pSim_withdraws 1 hR hB a0) trivial (by simp) hX Mb
  · unfold f_X6_refusalOfCommand f_X6_carryOut
    rw [if_neg (show ¬ nI 7 = 0 from by decide), if_neg (show ¬ nI 7 = 1 from by decide), if_neg (show ¬ nI 7 = 2 from by decide), if_neg (show ¬ nI 7 = 3 from by decide), if_neg (show ¬ nI 7 = 4 from by decide), if_neg (show ¬ nI 7 = 5 from by decide), if_neg (show ¬ nI 7 = 6 from by decide), if_pos (show nI 7 = 7 from by decide), if_neg (show ¬ nI 7 = 0 from by decide), if_neg (show ¬ nI 7 = 1 from by decide), if_neg (show ¬ nI 7 = 2 from by decide), if_neg (show ¬ nI 7 = 3 from by decide), if_neg (show ¬ nI 7 = 4 from by decide), if_neg (show ¬ nI 7 = 5 from by decide), if_neg (show ¬ nI 7 = 6 from by decide), if_pos (show nI 7 = 7 from by decide)]
    exact pSt1 (pSim_closes 1 hR hB a0) trivial (by simp) hX Mb
  · unfold f_X6_refusalOfCommand f_X6_carryOut
    rw [if_neg (show ¬ nI 8 = 0 from by decide), if_neg (show ¬ nI 8 = 1 from by decide), if_neg (show ¬ nI 8 = 2 from by decide), if_neg (show ¬ nI 8 = 3 from by decide), if_neg (show ¬ nI 8 = 4 from by decide), if_neg (show ¬ nI 8 = 5 from by decide), if_neg (show ¬ nI 8 = 6 from by decide), if_neg (show ¬ nI 8 = 7 from by decide), if_neg (show ¬ nI 8 = 0 from by decide), if_neg (show ¬ nI 8 = 1 from by decide), if_neg (show ¬ nI 8 = 2 from by decide), if_neg (show ¬ nI 8 = 3 from by decide), if_neg (show ¬ nI 8 = 4 from by decide), if_neg (show ¬ nI 8 = 5 from by decide), if_neg (show ¬ nI 8 = 6 from by decide), if_neg (show ¬ nI 8 = 7 from by decide)]
    exact pSt1 (pSim_waits 1 hR hB a0) trivial (by simp) hX Mb
theorem pVerb (M : tvM) {i : Nat} (hi : i < 60) : f_X5_verbOf M (nI i) = M.1 245 i := by
  have h1 : ¬ nI i < 0 := pn_neg (by omega)
  have h2 : ¬ (60 : Int32) ≤ nI i := by
    rw [show (60 : Int32) = nI 60 from rfl, pn_le (by omega) (by omega)]
    omega
  unfold f_X5_verbOf
  rw [if_neg h1, if_neg h2, pn_c (by omega)]
  rfl
theorem pLp {Mb : tvM} {m : Nat} (hm : m ≤ 60) (h3 : Mb.1 243 3 = nI m) (hC : ∀ i, i < m → ∃ v, v < 9 ∧ v ≠ 0 ∧ v ≠ 4 ∧ Mb.1 245 i = nI v) : ∀ (d i B : Nat) (c : Nat → Nat → Int32) (l : Int64) (s : Nat → Nat) (u : Nat), i + d = m → d ≤ u → pOk B c l s → pXi (0, 0) s → B + 240 * d ≤ 10000000 →
    (∃ (c' : Nat → Nat → Int32) (l' : Int64) (s' : Nat → Nat), tvRu u i (puC Mb 1 c l) = tvRuE (puC Mb 1 c' l') ∧ pOk (B + 240 * d) c' l' s' ∧ pXi (0, 0) s' ∧ s 9 ≤ s' 9 ∧ s 10 ≤ s' 10) ∨ (∃ (i0 : Nat) (c' : Nat → Nat → Int32) (l' : Int64), i0 < m ∧ tvRu u i (puC Mb 1 c l) = tvRuX (puC Mb 1 c' l') (nI i0)) := by
  intro d
  induction d with
  | zero =>
    intro i B c l s u hi hu hR hX hB
    have e : i = m := by omega
    subst e
    refine Or.inl ⟨c, l, s, ?_, hR, hX, Nat.le_refl _, Nat.le_refl _⟩
    cases u with
    | zero => exact tvRu_0 _ _
    | succ u =>
      rw [tvRu_s, if_pos]
      rw [puC_o _ _ _ _ (by omega), show tgi Mb 243 3 = nI i from h3, pn_le (by omega) (by omega)]
      exact Nat.le_refl _
  | succ d ih =>
    intro i B c l s u hi hu hR hX hB
    obtain ⟨u', rfl⟩ : ∃ u', u = u' + 1 := ⟨u - 1, by omega⟩
    have hl : ¬ tgi (puC Mb 1 c l) 243 3 ≤ nI i := by
      rw [puC_o _ _ _ _ (by omega), show tgi Mb 243 3 = nI m from h3, pn_le (by omega) (by omega)]
      omega
    obtain ⟨v, v1, v2, v3, v4⟩ := hC i (by omega)
    have ev : f_X5_verbOf (puC Mb 1 c l) (nI i) = nI v := (pVerb _ (by omega)).trans ((puC_o _ _ _ _ (by omega) _).trans v4)
    rcases pStp hR hX (by omega) v1 v2 v3 (f_X5_argumentOf (puC Mb 1 c l) (nI i) 0) (f_X5_argumentOf (puC Mb 1 c l) (nI i) 1) (f_X5_argumentOf (puC Mb 1 c l) (nI i) 2) Mb with ⟨r1, c', l', s', r2, r3, r4, r5, r6⟩ | r1
    · have eu : tvRu (u' + 1) i (puC Mb 1 c l) = tvRu u' (i + 1) (puC Mb 1 c' l') := by
        rw [tvRu_s, if_neg hl, if_pos (show tvRuR (puC Mb 1 c l) (nI i) = 0 from by unfold tvRuR; rw [ev]; exact r1), show tvRuC (puC Mb 1 c l) (nI i) = puC Mb 1 c' l' from by unfold tvRuC; rw [ev]; exact r2]
      rcases ih (i + 1) (B + 240) c' l' s' u' (by omega) (by omega) r3 r4 (by omega) with ⟨c2, l2, s2, b1, b2, b3, b4, b5⟩ | ⟨i0, c2, l2, b1, b2⟩
      · refine Or.inl ⟨c2, l2, s2, eu.trans b1, ?_, b3, by omega, by omega⟩
        rw [show B + 240 * (d + 1) = B + 240 + 240 * d by omega]
        exact b2
      · exact Or.inr ⟨i0, c2, l2, b1, eu.trans b2⟩
    · refine Or.inr ⟨i, c, l, by omega, ?_⟩
      rw [tvRu_s, if_neg hl, if_neg (show ¬ tvRuR (puC Mb 1 c l) (nI i) = 0 from by unfold tvRuR; rw [ev]; exact r1)]
/-- a program without a letter d, run -/
theorem o_run {B : Nat} {M : tvM} {s : Nat → Nat} {x n : Nat} {S : Nat → Nat → Nat} (hB : B + 14400 ≤ 10000000) (hG : pG B M s x n S) (hd : pNoD M) :
    (∃ (v : Nat) (M1 : tvM) (s' : Nat → Nat), (v ≤ 60 ∧ s 9 ≤ s' 9 ∧ s 10 ≤ s' 10) ∧ f_X8_run M = (none, nI v, M1) ∧ pG (B + 14400) M1 s' ((x + 1) % 9) (min (n + 1) 8) (pSn s n S) ∧ M1.1 243 1 = 0) ∨
    (∃ (e : String) (M1 : tvM), (e = "java/lang/IllegalArgumentException" ∨ e = "java/lang/UnsupportedOperationException") ∧ f_X8_run M = (some e, 0, M1) ∧ pG B M1 s x n S ∧ M1.1 243 1 = 0) := by
  obtain ⟨m, hP⟩ := pParse hd
  obtain ⟨M', hM'⟩ : ∃ z, z = (f_X5_parse M).2 := ⟨_, rfl⟩
  obtain ⟨v, hv⟩ : ∃ z, z = (f_X5_parse M).1 := ⟨_, rfl⟩
  have hp : f_X5_parse M = (v, M') := by rw [hv, hM']
  rw [← hM'] at hP
  obtain ⟨p1, p2, p3, p4, p5⟩ := hP
  obtain ⟨K, hK⟩ : ∃ z, z = tpi M' 243 1 0 := ⟨_, rfl⟩
  have kl : K.2 = M.2 := by rw [hK]; exact p2
  have ka : ∀ a, a ≠ 243 → a ≠ 245 → a ≠ 246 → K.1 a = M.1 a := fun a q1 q2 q3 => funext fun j => by
    rw [hK, tpi_o _ _ j q1]
    exact p1 a j q2 q3 (by omega)
  have k1 : K.1 243 1 = 0 := by rw [hK]; exact tpi_s _ _ _ _
  have k3 : K.1 243 3 = nI m := by rw [hK, tpi_k _ _ _ (by omega)]; exact p3
  have k5 : ∀ i, K.1 245 i = M'.1 245 i := fun i => by rw [hK, tpi_o _ _ i (by omega)]
  have hGK : pG B K s x n S := pG_c hG (fun a q => ka a (by omega) (by omega) (by omega)) (fun a _ => by rw [kl])
  by_cases hv1 : v = -1
  · subst hv1
    obtain ⟨U, hU, eU⟩ := f_X8_run_1 hp
    rw [← hK] at eU
    obtain ⟨⟨g1, gX⟩, ⟨hx, hn, h5, h6⟩, h8⟩ := id hGK
    obtain ⟨⟨b1, b2, b3, b4, b5⟩, b6⟩ := pBegin h5 hx
    obtain ⟨Mb, hMb⟩ : ∃ z, z = f_X1_begin K := ⟨_, rfl⟩
    rw [← hMb] at eU b1 b2 b3 b4 b5 b6
    have a1 : Mb.1 61 1 = nI x := by rw [b6]; exact h5
    have a2 : Mb.1 61 2 = nI n := by rw [b6]; exact h6
    have a3 : Mb.1 243 3 = nI m := by rw [b1 243 (by omega) (by omega)]; exact k3
    have a5 : ∀ i, i < m → ∃ v, v < 9 ∧ v ≠ 0 ∧ v ≠ 4 ∧ Mb.1 245 i = nI v := fun i hi => by
      obtain ⟨v, v1, v2, v3, v4⟩ := p5 i hi
      exact ⟨v, v1, v2, v3, by rw [b1 245 (by omega) (by omega), k5]; exact v4⟩
    have aR : pOk B (pV Mb 1) (pL Mb 1) s := by
      rw [show pL Mb 1 = pL K 1 from congrFun (b2 1 (by omega)) 8]
      exact pOk_cc g1 fun p k hr => congrFun (b1 _ (by unfold pRel at hr; omega) (by unfold pRel at hr; omega)) k
    have es : puC Mb 1 (pV Mb 1) (pL Mb 1) = Mb := puC_self Mb 1
    rcases pLp p4 a3 a5 m 0 B (pV Mb 1) (pL Mb 1) s U (by omega) (by omega) aR gX (by omega) with ⟨c', l', s', e1, e2, e3, e4⟩ | ⟨i0, c', l', e0, e1⟩
    · rw [es] at e1
      have hk : f_X1_keep K = tpi (tpi Mb 61 1 (nI ((x + 1) % 9))) 61 2 (nI (min (n + 1) 8)) := by
        unfold f_X1_keep
        rw [← hMb]
        exact pCommit a1 a2 hx hn
      rw [e1, tvRuE_K a1 a2 hx hn a3, ← hk] at eU
      obtain ⟨w1, w2⟩ := pG_act (B := B + 14160) (c' := c') (l' := l') (s' := s') (by omega) (hGK.up (by omega) (by omega)) (e2.up (by omega) (by omega)) e3
      refine Or.inl ⟨m, _, s', ⟨by omega, e4⟩, eU, by rw [show B + 14400 = B + 14160 + 240 by omega]; exact w1, ?_⟩
      rw [w2.1 243 (by omega)]
      exact k1
    · rw [es] at e1
      obtain ⟨c2, t1, t2⟩ := tvRuX_K (c := c') (l := l') (i := i0) a1 hx
      rw [e1, t1] at eU
      refine Or.inr ⟨_, _, Or.inr rfl, eU, ?_, ?_⟩
      · refine ⟨⟨?_, gX⟩, ⟨hx, hn, ?_, ?_⟩, fun i hi => ?_⟩
        · have el : pL (tpi (tpi (puC Mb 1 c2 (pL Mb (63 + 20 * x))) 0 8 (nI i0)) 0 9 (if tvRuR (puC Mb 1 c' l') (nI i0) = 4 then 1 else 0)) 1 = pL K 1 := (puC_l Mb 1 c2 _).trans b5
          rw [el]
          refine pOk_cc g1 fun p k hr => ?_
          have hp20 : p < 20 := by unfold pRel at hr; omega
          show (tpi (tpi (puC Mb 1 c2 (pL Mb (63 + 20 * x))) 0 8 (nI i0)) 0 9 _).1 (1 + p) k = K.1 (1 + p) k
          rw [tpi_o _ _ k (by omega), tpi_o _ _ k (by omega)]
          exact (puC_g Mb 1 c2 _ hp20 k).trans ((t2 p k hr).trans (b4 p k hr))
        · rw [tpi_o _ _ _ (by omega), tpi_o _ _ _ (by omega)]
          exact (puC_o Mb 1 _ _ (by omega) 1).trans a1
        · rw [tpi_o _ _ _ (by omega), tpi_o _ _ _ (by omega)]
          exact (puC_o Mb 1 _ _ (by omega) 2).trans a2
        · obtain ⟨b, bx⟩ := h8 i hi
          have ne : (x + 9 - n + i) % 9 ≠ x := by omega
          have l9 : (x + 9 - n + i) % 9 < 9 := Nat.mod_lt _ (by omega)
          generalize (x + 9 - n + i) % 9 = z at ne l9 b
          have el : pL (tpi (tpi (puC Mb 1 c2 (pL Mb (63 + 20 * x))) 0 8 (nI i0)) 0 9 (if tvRuR (puC Mb 1 c' l') (nI i0) = 4 then 1 else 0)) (63 + 20 * z) = pL K (63 + 20 * z) := (congrFun (puC_lo Mb c2 _ (by omega)) 8).trans (congrFun (b2 _ (by omega)) 8)
          rw [el]
          refine ⟨pOk_cc b fun p k hr => ?_, bx⟩
          have hp20 : p < 20 := by unfold pRel at hr; omega
          show (tpi (tpi (puC Mb 1 c2 (pL Mb (63 + 20 * x))) 0 8 (nI i0)) 0 9 _).1 (63 + 20 * z + p) k = K.1 (63 + 20 * z + p) k
          rw [tpi_o _ _ k (by omega), tpi_o _ _ k (by omega)]
          exact (puC_o Mb 1 _ _ (by omega) k).trans (congrFun (b1 _ (by omega) (by omega)) k)
      · rw [tpi_o _ _ _ (by omega), tpi_o _ _ _ (by omega)]
        refine (puC_o Mb 1 _ _ (by omega) 1).trans ?_
        rw [show tgi Mb 243 1 = Mb.1 243 1 from rfl, b1 243 (by omega) (by omega)]
        exact k1
  · have eU := f_X8_run_0 hp hv1
    rw [← hK] at eU
    refine Or.inr ⟨_, _, Or.inl rfl, eU, pG_c hGK (fun a q => funext fun j => tpi_o _ _ j (by omega)) (fun a _ => rfl), ?_⟩
    rw [tpi_o _ _ _ (by omega)]
    exact k1
/-- a letter typed -/
theorem o_type {M : tvM} {n c : Nat} (h : M.1 243 1 = nI n) (hn : n < 60) : ∃ M1 : tvM, f_X8_type M (nI c) = (none, nI (n + 1), M1) ∧ M1.1 243 1 = nI (n + 1) ∧ M1.1 244 n = nI c ∧ (∀ k, k ≠ n → M1.1 244 k = M.1 244 k) ∧ (∀ a, a ≠ 243 → a ≠ 244 → M1.1 a = M.1 a) ∧ M1.2 = M.2 := by
  have e : tgi (tpi M 244 n (nI c)) 243 1 = nI n := (tpi_o _ _ _ (by omega)).trans h
  refine ⟨tpi (tpi M 244 n (nI c)) 243 1 (nI (n + 1)), ?_, tpi_s _ _ _ _, (tpi_o _ _ _ (by omega)).trans (tpi_s _ _ _ _), fun k hk => (tpi_o _ _ _ (by omega)).trans (tpi_k _ _ _ hk), fun a q1 q2 => funext fun j => (tpi_o _ _ j q1).trans (tpi_o _ _ j q2), rfl⟩
  unfold f_X8_type f_X5_isFull f_X5_append
  rw [show tgi M 243 1 = nI n from h, if_pos (show nI n < 60 from (pn_lt (a := n) (b := 60) (by omega) (by omega)).2 hn), if_pos rfl, if_neg (pn_neg (by omega)), if_neg (show ¬ 60 ≤ nI n from fun z => by have := (pn_le (a := 60) (b := n) (by omega) (by omega)).1 z; omega), pn_c (by omega), e, nI_1]
  simp only [show tgi (tpi (tpi M 244 n (nI c)) 243 1 (nI (n + 1))) 243 1 = nI (n + 1) from tpi_s _ _ _ _]
