/-! ===== no NaN ===== -/
def pFit (f : FP.Core.Fmt) : FP.Core.Datum → Prop
  | .nan => False
  | .inf _ => True
  | .fin _ c q => c < 2 ^ f.p ∧ f.qmin ≤ q ∧ q ≤ f.qmax
def pFin (d : FP.Core.Datum) (z : Prop) : Prop := ∃ s c q, d = .fin s c q ∧ (z → c ≠ 0)
def pFm (f : FP.Core.Fmt) : Prop := 2 ^ f.p = 2 * f.tails ∧ 0 < f.tails ∧ f.exps = 2 * f.emax + 2 ∧ f.qmin ≤ 0 ∧ 1 ≤ f.qmax ∧ 1 ≤ f.p ∧ f.qmax = (f.emax : Int) - (f.p : Int) + 1 ∧ f.qmin = 2 - (f.emax : Int) - (f.p : Int)
theorem pFm_64 : pFm FP.Core.b64 := by unfold pFm; decide
theorem pFm_32 : pFm FP.Core.b32 := by unfold pFm; decide
theorem pE1 {f : FP.Core.Fmt} (hf : pFm f) {d : FP.Core.Datum} (hd : pFit f d) : ∃ s E T : Nat, s < 2 ∧ FP.Core.encode f d = (s * f.exps + E) * f.tails + T ∧ T < f.tails ∧ E < f.exps ∧ (E = f.exps - 1 → T = 0) ∧ (∀ z, pFin d z → E ≠ f.exps - 1 ∧ (z → E = 0 → T ≠ 0)) := by
  obtain ⟨h1, h2, h3, h4, h5, h6, h7, h8⟩ := hf
  cases d with
  | nan => exact absurd hd id
  | inf s =>
    refine ⟨s.toNat, f.exps - 1, 0, by cases s <;> decide, rfl, h2, by omega, fun _ => rfl, fun z hz => ?_⟩
    obtain ⟨s', c, q, e, _⟩ := hz
    cases e
  | fin s c q =>
    obtain ⟨a1, a2, a3⟩ := hd
    unfold FP.Core.encode
    by_cases hc : c < f.tails
    · simp only [if_pos hc]
      refine ⟨s.toNat, 0, c, by cases s <;> decide, rfl, hc, by omega, fun e => by omega, fun z hz => ⟨by omega, fun z1 _ => ?_⟩⟩
      obtain ⟨s', c', q', e, hn⟩ := hz
      cases e
      exact hn z1
    · simp only [if_neg hc]
      exact ⟨s.toNat, (q - f.qmin).toNat + 1, c - f.tails, by cases s <;> decide, rfl, by omega, by omega, fun e => by omega, fun z hz => ⟨by omega, fun z1 e => by omega⟩⟩
theorem pE2 {f : FP.Core.Fmt} {s E T : Nat} (hT : T < f.tails) (hE : E < f.exps) : FP.Core.fieldT f ((s * f.exps + E) * f.tails + T) = T ∧ FP.Core.fieldE f ((s * f.exps + E) * f.tails + T) = E := by
  unfold FP.Core.fieldT FP.Core.fieldE
  rw [Nat.mul_comm _ f.tails, Nat.mul_add_mod, Nat.mul_add_div (by omega), Nat.mod_eq_of_lt hT, Nat.div_eq_of_lt hT, Nat.add_zero, Nat.mul_comm s, Nat.mul_add_mod, Nat.mod_eq_of_lt hE]
  exact ⟨rfl, rfl⟩
theorem pE3 {f : FP.Core.Fmt} (hf : pFm f) {d : FP.Core.Datum} (hd : pFit f d) : FP.Core.decode f (FP.Core.encode f d) ≠ .nan ∧ FP.Core.encode f d < 2 * f.exps * f.tails ∧ ∀ z, pFin d z → pFin (FP.Core.decode f (FP.Core.encode f d)) z := by
  obtain ⟨s, E, T, hs, he, hT, hE, h1, h2⟩ := pE1 hf hd
  obtain ⟨e1, e2⟩ := pE2 (s := s) hT hE
  rw [he]
  refine ⟨?_, ?_, fun z hz => ?_⟩
  · unfold FP.Core.decode
    rw [e1, e2]
    by_cases q : E = f.exps - 1
    · rw [if_pos q, if_pos (h1 q)]
      exact fun e => by cases e
    · rw [if_neg q]
      split
      · exact fun e => by cases e
      · exact fun e => by cases e
  · have a1 : s * f.exps + E + 1 ≤ 2 * f.exps := by
      have : s * f.exps ≤ 1 * f.exps := Nat.mul_le_mul_right _ (by omega)
      omega
    have a2 : (s * f.exps + E + 1) * f.tails ≤ 2 * f.exps * f.tails := Nat.mul_le_mul_right _ a1
    rw [Nat.add_mul _ 1] at a2
    omega
  · obtain ⟨g1, g2⟩ := h2 z hz
    unfold FP.Core.decode
    rw [e1, e2, if_neg g1]
    by_cases q : E = 0
    · rw [if_pos q]
      exact ⟨_, _, _, rfl, fun z1 => g2 z1 q⟩
    · rw [if_neg q]
      exact ⟨_, _, _, rfl, fun z1 => by have := hf.2.1; omega⟩
theorem pR1 {f : FP.Core.Fmt} (hf : pFm f) (s : Bool) (num den : Nat) (e : Int) : pFit f (FP.Core.roundRatio f s num den e) := by
  obtain ⟨h1, h2, h3, h4, h5, h6, h7, h8⟩ := hf
  have hb : ∀ c q, c < 2 ^ f.p → f.qmin ≤ q → pFit f (FP.Core.bound f s c q) := fun c q a1 a2 => by
    unfold FP.Core.bound
    by_cases q1 : q ≤ f.qmax
    · rw [if_pos q1]; exact ⟨a1, a2, q1⟩
    · rw [if_neg q1]; exact trivial
  unfold FP.Core.roundRatio
  by_cases q : num = 0
  · rw [if_pos q]
    exact ⟨by omega, Int.le_refl _, by omega⟩
  · rw [if_neg q]
    have hq : f.qmin ≤ FP.Core.quantum f num den e := Int.le_max_left _ _
    unfold FP.Core.roundAt FP.Core.settle
    split
    · exact hb _ _ (by assumption) hq
    · exact hb _ _ (by omega) (by omega)
theorem pR2 {f : FP.Core.Fmt} (hf : pFm f) (s : Bool) {n : Nat} (hn : n < 2 ^ f.p) : pFin (FP.Core.roundRatio f s n 1 0) (n ≠ 0) := by
  obtain ⟨h1, h2, h3, h4, h5, h6, h7, h8⟩ := hf
  unfold FP.Core.roundRatio
  by_cases q : n = 0
  · rw [if_pos q]
    exact ⟨_, _, _, rfl, fun z => absurd q z⟩
  · rw [if_neg q]
    have hl : n.log2 < f.p := (Nat.log2_lt q).2 hn
    have e0 : (1 : Nat).log2 = 0 := by decide
    have el : FP.Core.leading n 1 = (n.log2 : Int) := by
      unfold FP.Core.leading
      simp only [e0]
      rw [show ((n.log2 : Int) - ((0 : Nat) : Int)) = (n.log2 : Int) by omega, Int.toNat_natCast, show (-(n.log2 : Int)).toNat = 0 by omega, if_pos]
      have := Nat.log2_self_le q
      omega
    have hq : FP.Core.quantum f n 1 0 ≤ 0 := by
      unfold FP.Core.quantum
      rw [el]
      omega
    generalize FP.Core.quantum f n 1 0 = z at hq
    have en : FP.Core.nearest (FP.Core.unitsNum n 0 z) (FP.Core.unitsDen 1 0 z) ≠ 0 := by
      unfold FP.Core.unitsDen FP.Core.unitsNum
      rw [show (z - 0).toNat = 0 by omega]
      unfold FP.Core.nearest
      rw [Nat.pow_zero, Nat.mul_one, Nat.mod_one, if_pos (by omega), Nat.div_one]
      have : 0 < 2 ^ (0 - z).toNat := Nat.pow_pos (by omega)
      exact Nat.mul_ne_zero q (by omega)
    unfold FP.Core.roundAt FP.Core.settle FP.Core.bound
    generalize FP.Core.nearest (FP.Core.unitsNum n 0 z) (FP.Core.unitsDen 1 0 z) = N at en
    split
    · rw [if_pos (by omega)]
      exact ⟨_, _, _, rfl, fun _ => en⟩
    · rw [if_pos (by omega)]
      exact ⟨_, _, _, rfl, fun _ => by omega⟩
theorem pI1 {f : FP.Core.Fmt} (hf : pFm f) {n : Nat} (hn : n < 2 ^ f.p) : FP.Core.fromInt f (n : Int) < 2 * f.exps * f.tails ∧ pFin (FP.Core.decode f (FP.Core.fromInt f (n : Int))) (n ≠ 0) := by
  have e : FP.Core.fromInt f (n : Int) = FP.Core.encode f (FP.Core.roundRatio f (decide ((n : Int) < 0)) n 1 0) := rfl
  rw [e]
  obtain ⟨a1, a2, a3⟩ := pE3 hf (pR1 hf (decide ((n : Int) < 0)) n 1 0)
  exact ⟨a2, a3 _ (pR2 hf _ hn)⟩
theorem pQ1 {f : FP.Core.Fmt} (hf : pFm f) {x y : FP.Core.Datum} (hx : pFin x True) (hy : pFin y True) : pFit f (FP.Core.quotient f x y) := by
  obtain ⟨s, c, q, rfl, h1⟩ := hx
  obtain ⟨t, d, r, rfl, h2⟩ := hy
  show pFit f (if d = 0 then _ else FP.Core.roundRatio f (s != t) c d (q - r))
  rw [if_neg (h2 trivial)]
  exact pR1 hf _ _ _ _
theorem pQ1' {f : FP.Core.Fmt} (hf : pFm f) {x y : FP.Core.Datum} {z : Prop} (hx : pFin x z) (hy : pFin y True) : pFit f (FP.Core.quotient f x y) := by
  obtain ⟨s, c, q, rfl, h1⟩ := hx
  obtain ⟨t, d, r, rfl, h2⟩ := hy
  show pFit f (if d = 0 then _ else FP.Core.roundRatio f (s != t) c d (q - r))
  rw [if_neg (h2 trivial)]
  exact pR1 hf _ _ _ _
theorem pO1 {d : FP.Core.Datum} (h : d ≠ .nan) : FP.Core.order d d = some .eq := by
  cases d with
  | nan => exact absurd rfl h
  | inf s => cases s <;> rfl
  | fin s c q =>
    show some (compare _ _) = _
    congr 1
    show compareOfLessAndEq _ _ = _
    unfold compareOfLessAndEq
    rw [if_neg (Int.lt_irrefl _), if_pos rfl]
theorem pV64 {d : FP.Core.Datum} (hd : pFit FP.Core.b64 d) : vf_n64 (UInt64.ofNat (FP.Core.encode FP.Core.b64 d)) ∧ FP.Core.dcmp (UInt64.ofNat (FP.Core.encode FP.Core.b64 d)) (UInt64.ofNat (FP.Core.encode FP.Core.b64 d)) = some .eq := by
  obtain ⟨a1, a2, a3⟩ := pE3 pFm_64 hd
  obtain ⟨s, E, T, hs, he, hT, hE, h1, h2⟩ := pE1 pFm_64 hd
  have ex : FP.Core.b64.exps = 2048 := by decide
  have et : FP.Core.b64.tails = 4503599627370496 := by decide
  have en : (UInt64.ofNat (FP.Core.encode FP.Core.b64 d)).toNat = FP.Core.encode FP.Core.b64 d := by
    rw [UInt64.toNat_ofNat', Nat.mod_eq_of_lt]
    rw [ex, et] at a2
    omega
  constructor
  · unfold vf_n64
    rw [UInt64.le_iff_toNat_le, UInt64.toNat_and, en, he, ex, et]
    rw [ex] at hE h1
    rw [et] at hT
    rw [show (0x7fffffffffffffff : UInt64).toNat = 2 ^ 63 - 1 from rfl, Nat.and_two_pow_sub_one_eq_mod, show (0x7ff0000000000000 : UInt64).toNat = 2047 * 4503599627370496 from rfl]
    omega
  · unfold FP.Core.dcmp FP.Core.cmp
    rw [en]
    exact pO1 a1
theorem pV32 {d : FP.Core.Datum} (hd : pFit FP.Core.b32 d) : vf_n32 (UInt32.ofNat (FP.Core.encode FP.Core.b32 d)) ∧ (UInt32.ofNat (FP.Core.encode FP.Core.b32 d)).toNat = FP.Core.encode FP.Core.b32 d := by
  obtain ⟨a1, a2, a3⟩ := pE3 pFm_32 hd
  obtain ⟨s, E, T, hs, he, hT, hE, h1, h2⟩ := pE1 pFm_32 hd
  have ex : FP.Core.b32.exps = 256 := by decide
  have et : FP.Core.b32.tails = 8388608 := by decide
  have en : (UInt32.ofNat (FP.Core.encode FP.Core.b32 d)).toNat = FP.Core.encode FP.Core.b32 d := by
    rw [UInt32.toNat_ofNat', Nat.mod_eq_of_lt]
    rw [ex, et] at a2
    omega
  refine ⟨?_, en⟩
  unfold vf_n32
  rw [UInt32.le_iff_toNat_le, UInt32.toNat_and, en, he, ex, et]
  rw [ex] at hE h1
  rw [et] at hT
  rw [show (0x7fffffff : UInt32).toNat = 2 ^ 31 - 1 from rfl, Nat.and_two_pow_sub_one_eq_mod, show (0x7f800000 : UInt32).toNat = 255 * 8388608 from rfl]
  omega
theorem pi2d {n : Nat} (hn : n < 2147483648) : (FP.i2d (nI n)).toNat = FP.Core.fromInt FP.Core.b64 (n : Int) ∧ FP.l2d (lN n) = FP.i2d (nI n) := by
  have ex : FP.Core.b64.exps = 2048 := by decide
  have et : FP.Core.b64.tails = 4503599627370496 := by decide
  have e1 : FP.i2d (nI n) = UInt64.ofNat (FP.Core.fromInt FP.Core.b64 (n : Int)) := by
    show UInt64.ofNat (FP.Core.fromInt FP.Core.b64 (nI n).toInt) = _
    rw [nI_toInt hn]
  have e2 : FP.l2d (lN n) = UInt64.ofNat (FP.Core.fromInt FP.Core.b64 (n : Int)) := by
    show UInt64.ofNat (FP.Core.fromInt FP.Core.b64 (lN n).toInt) = _
    rw [lN_toInt hn]
  refine ⟨?_, e2.trans e1.symm⟩
  rw [e1, UInt64.toNat_ofNat', Nat.mod_eq_of_lt]
  have := (pI1 pFm_64 (n := n) (by rw [show FP.Core.b64.p = 53 from rfl]; omega)).1
  rw [ex, et] at this
  omega
theorem pi2f {n : Nat} (hn : n < 16777216) : (FP.i2f (nI n)).toNat = FP.Core.fromInt FP.Core.b32 (n : Int) := by
  have ex : FP.Core.b32.exps = 256 := by decide
  have et : FP.Core.b32.tails = 8388608 := by decide
  have e1 : FP.i2f (nI n) = UInt32.ofNat (FP.Core.fromInt FP.Core.b32 (n : Int)) := by
    show UInt32.ofNat (FP.Core.fromInt FP.Core.b32 (nI n).toInt) = _
    rw [nI_toInt (by omega)]
  rw [e1, UInt32.toNat_ofNat', Nat.mod_eq_of_lt]
  have := (pI1 pFm_32 (n := n) (by rw [show FP.Core.b32.p = 24 from rfl]; omega)).1
  rw [ex, et] at this
  omega
theorem pFin_t {d : FP.Core.Datum} {z : Prop} (h : pFin d z) (hz : z) : pFin d True := by
  obtain ⟨s, c, q, e, n⟩ := h
  exact ⟨s, c, q, e, fun _ => n hz⟩
/-- the mean: no NaN, and equal to itself -/
theorem pMean {a b : Nat} (ha : a < 2147483648) (hb : b < 2147483648) (h0 : b ≠ 0) : vf_n64 (FP.ddiv (FP.i2d (nI a)) (FP.i2d (nI b))) ∧ FP.dcmp (FP.ddiv (FP.i2d (nI a)) (FP.i2d (nI b))) (FP.ddiv (FP.i2d (nI a)) (FP.i2d (nI b))) = some .eq := by
  have e : FP.ddiv (FP.i2d (nI a)) (FP.i2d (nI b)) = UInt64.ofNat (FP.Core.encode FP.Core.b64 (FP.Core.quotient FP.Core.b64 (FP.Core.decode FP.Core.b64 (FP.i2d (nI a)).toNat) (FP.Core.decode FP.Core.b64 (FP.i2d (nI b)).toNat))) := rfl
  rw [e, (pi2d ha).1, (pi2d hb).1]
  exact pV64 (pQ1' pFm_64 (pI1 pFm_64 (by rw [show FP.Core.b64.p = 53 from rfl]; omega)).2 (pFin_t (pI1 pFm_64 (by rw [show FP.Core.b64.p = 53 from rfl]; omega)).2 h0))
theorem pRate {a b : Nat} (ha : a < 16777216) (hb : b < 16777216) (h0 : b ≠ 0) : vf_n32 (FP.fdiv (FP.i2f (nI a)) (FP.i2f (nI b))) ∧ vf_n64 (FP.f2d (FP.fdiv (FP.i2f (nI a)) (FP.i2f (nI b)))) ∧ FP.dcmp (FP.f2d (FP.fdiv (FP.i2f (nI a)) (FP.i2f (nI b)))) (FP.f2d (FP.fdiv (FP.i2f (nI a)) (FP.i2f (nI b)))) = some .eq := by
  have e : FP.fdiv (FP.i2f (nI a)) (FP.i2f (nI b)) = UInt32.ofNat (FP.Core.encode FP.Core.b32 (FP.Core.quotient FP.Core.b32 (FP.Core.decode FP.Core.b32 (FP.i2f (nI a)).toNat) (FP.Core.decode FP.Core.b32 (FP.i2f (nI b)).toNat))) := rfl
  have hq := pQ1' pFm_32 (pI1 pFm_32 (n := a) (by rw [show FP.Core.b32.p = 24 from rfl]; omega)).2 (pFin_t (pI1 pFm_32 (n := b) (by rw [show FP.Core.b32.p = 24 from rfl]; omega)).2 h0)
  rw [e, pi2f ha, pi2f hb]
  generalize FP.Core.quotient FP.Core.b32 _ _ = d at hq
  obtain ⟨v1, v2⟩ := pV32 hq
  obtain ⟨a1, _, _⟩ := pE3 pFm_32 hq
  refine ⟨v1, ?_⟩
  have en : FP.Core.fIsNaN (UInt32.ofNat (FP.Core.encode FP.Core.b32 d)) = false := by
    unfold FP.Core.fIsNaN FP.Core.isNaN
    rw [v2]
    exact decide_eq_false a1
  have ed : FP.f2d (UInt32.ofNat (FP.Core.encode FP.Core.b32 d)) = UInt64.ofNat (FP.Core.encode FP.Core.b64 (FP.Core.round FP.Core.b64 (FP.Core.decode FP.Core.b32 (FP.Core.encode FP.Core.b32 d)))) := by
    unfold FP.f2d
    rw [en]
    show FP.Core.f2d _ = _
    unfold FP.Core.f2d FP.Core.convert
    rw [v2]
  rw [ed]
  refine pV64 ?_
  generalize FP.Core.decode FP.Core.b32 (FP.Core.encode FP.Core.b32 d) = d2 at a1
  cases d2 with
  | nan => exact absurd rfl a1
  | inf s => exact trivial
  | fin s c q => exact pR1 pFm_64 _ _ _ _

