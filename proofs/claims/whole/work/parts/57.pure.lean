theorem tpl_o (M : tvM) {a x : Nat} (k : Nat) (v : Int64) (h : x ≠ a) : (tpl M a k v).2.1 x = M.2.1 x := tvU_ne _ _ _ h
theorem tpd_s (M : tvM) (a k : Nat) (v : UInt64) : (tpd M a k v).2.2 a k = v := by
  show tvU M.2.2 a k v a k = v
  rw [tvU_row, if_pos rfl]
theorem pc_self {B : Nat} {M : tvM} {s : Nat → Nat} {x n : Nat} (h : pJs B M M s x n) : puC M 1 (pV M 1) (pL M 1) = M := puC_self M 1
theorem pc_11 {B : Nat} {M : tvM} (h : pJ B M M) (hB : B ≤ 10000000) (a1 a2 a3 : Int32) : lq_11 M a1 a2 a3 ∧ pJ B (lm_11 M a1 a2 a3) (lm_11 M a1 a2 a3) := by
  obtain ⟨s, x, n, hJ, hr⟩ := h
  have ha := pAsk_lowMinutes hJ.2.1 M a1
  rw [pc_self hJ] at ha
  rcases pAsk_self hJ.1 ha with ⟨v, c, d⟩ | ⟨p, hp, c, d⟩
  · have eL : f_L_lowMinutes M a1 = (0, tpl M 257 0 v.toInt64) := by
      unfold f_L_lowMinutes
      rw [c]
      rfl
    obtain ⟨q, e⟩ := d (tpl M 257 0 v.toInt64) rfl
    have e9 : f_X9_lowMinutes (tpl M 257 0 v.toInt64) a1 = (v, puN (tpl M 257 0 v.toInt64) s (nI 0)) := e
    unfold lq_11 lm_11
    rw [eL]
    dsimp only
    rw [e9]
    refine ⟨⟨⟨fun e he => ?_, trivial⟩, q, puN_t _ _ _, fun _ => ?_, trivial⟩, pJ_q hJ hr hB (M' := tpl M 257 0 v.toInt64) rfl (fun a ha => tpl_o M 0 _ (by omega)) _⟩
    · rw [c] at he
      exact absurd he (by simp)
    · rw [show tgl (puN (tpl M 257 0 v.toInt64) s (nI 0)) 257 0 = v.toInt64 from tpl_s _ _ _ _]
      exact lg_self _
  · obtain ⟨q, e⟩ := d M rfl
    have e9 : f_X9_lowMinutes M a1 = (nI 0, puN M s (nI p.2)) := e
    simp only [List.mem_cons, List.not_mem_nil, or_false] at hp
    subst hp
    · have eL : f_L_lowMinutes M a1 = (1, M) := by
        unfold f_L_lowMinutes
        rw [c]
        simp
      unfold lq_11 lm_11
      rw [eL]
      dsimp only
      rw [e9]
      refine ⟨⟨⟨fun e he => ?_, trivial⟩, q, puN_t _ _ _, fun n0 => absurd n0 (by simp), trivial⟩, pJ_q hJ hr hB rfl (fun _ _ => rfl) _⟩
      rw [c] at he
      have he' := Option.some.inj he
      subst he'
      simp

theorem pc_12 {B : Nat} {M : tvM} (h : pJ B M M) (hB : B ≤ 10000000) (a1 a2 a3 : Int32) : lq_12 M a1 a2 a3 ∧ pJ B (lm_12 M a1 a2 a3) (lm_12 M a1 a2 a3) := by
  obtain ⟨s, x, n, hJ, hr⟩ := h
  have ha := pAsk_lowMinutesByCounting hJ.2.1 M a1
  rw [pc_self hJ] at ha
  rcases pAsk_self hJ.1 ha with ⟨v, c, d⟩ | ⟨p, hp, c, d⟩
  · have eL : f_L_lowMinutesByCounting M a1 = (0, tpl M 257 0 v.toInt64) := by
      unfold f_L_lowMinutesByCounting
      rw [c]
      rfl
    obtain ⟨q, e⟩ := d (tpl M 257 0 v.toInt64) rfl
    have e9 : f_X9_lowMinutesByCounting (tpl M 257 0 v.toInt64) a1 = (v, puN (tpl M 257 0 v.toInt64) s (nI 0)) := e
    unfold lq_12 lm_12
    rw [eL]
    dsimp only
    rw [e9]
    refine ⟨⟨⟨fun e he => ?_, trivial⟩, q, puN_t _ _ _, fun _ => ?_, trivial⟩, pJ_q hJ hr hB (M' := tpl M 257 0 v.toInt64) rfl (fun a ha => tpl_o M 0 _ (by omega)) _⟩
    · rw [c] at he
      exact absurd he (by simp)
    · rw [show tgl (puN (tpl M 257 0 v.toInt64) s (nI 0)) 257 0 = v.toInt64 from tpl_s _ _ _ _]
      exact lg_self _
  · obtain ⟨q, e⟩ := d M rfl
    have e9 : f_X9_lowMinutesByCounting M a1 = (nI 0, puN M s (nI p.2)) := e
    simp only [List.mem_cons, List.not_mem_nil, or_false] at hp
    subst hp
    · have eL : f_L_lowMinutesByCounting M a1 = (1, M) := by
        unfold f_L_lowMinutesByCounting
        rw [c]
        simp
      unfold lq_12 lm_12
      rw [eL]
      dsimp only
      rw [e9]
      refine ⟨⟨⟨fun e he => ?_, trivial⟩, q, puN_t _ _ _, fun n0 => absurd n0 (by simp), trivial⟩, pJ_q hJ hr hB rfl (fun _ _ => rfl) _⟩
      rw [c] at he
      have he' := Option.some.inj he
      subst he'
      simp

theorem pc_15 {B : Nat} {M : tvM} (h : pJ B M M) (hB : B ≤ 10000000) (a1 a2 a3 : Int32) : lq_15 M a1 a2 a3 ∧ pJ B (lm_15 M a1 a2 a3) (lm_15 M a1 a2 a3) := by
  obtain ⟨s, x, n, hJ, hr⟩ := h
  have ha := pAsk_attempts hJ.2.1 M a1
  rw [pc_self hJ] at ha
  rcases pAsk_self hJ.1 ha with ⟨v, c, d⟩ | ⟨p, hp, c, d⟩
  · have eL : f_L_attempts M a1 = (0, tpl M 257 0 v.toInt64) := by
      unfold f_L_attempts
      rw [c]
      rfl
    obtain ⟨q, e⟩ := d (tpl M 257 0 v.toInt64) rfl
    have e9 : f_X9_attempts (tpl M 257 0 v.toInt64) a1 = (v, puN (tpl M 257 0 v.toInt64) s (nI 0)) := e
    unfold lq_15 lm_15
    rw [eL]
    dsimp only
    rw [e9]
    refine ⟨⟨⟨fun e he => ?_, trivial⟩, q, puN_t _ _ _, fun _ => ?_, trivial⟩, pJ_q hJ hr hB (M' := tpl M 257 0 v.toInt64) rfl (fun a ha => tpl_o M 0 _ (by omega)) _⟩
    · rw [c] at he
      exact absurd he (by simp)
    · rw [show tgl (puN (tpl M 257 0 v.toInt64) s (nI 0)) 257 0 = v.toInt64 from tpl_s _ _ _ _]
      exact lg_self _
  · obtain ⟨q, e⟩ := d M rfl
    have e9 : f_X9_attempts M a1 = (nI 0, puN M s (nI p.2)) := e
    simp only [List.mem_cons, List.not_mem_nil, or_false] at hp
    subst hp
    · have eL : f_L_attempts M a1 = (1, M) := by
        unfold f_L_attempts
        rw [c]
        simp
      unfold lq_15 lm_15
      rw [eL]
      dsimp only
      rw [e9]
      refine ⟨⟨⟨fun e he => ?_, trivial⟩, q, puN_t _ _ _, fun n0 => absurd n0 (by simp), trivial⟩, pJ_q hJ hr hB rfl (fun _ _ => rfl) _⟩
      rw [c] at he
      have he' := Option.some.inj he
      subst he'
      simp

theorem pc_16 {B : Nat} {M : tvM} (h : pJ B M M) (hB : B ≤ 10000000) (a1 a2 a3 : Int32) : lq_16 M a1 a2 a3 ∧ pJ B (lm_16 M a1 a2 a3) (lm_16 M a1 a2 a3) := by
  obtain ⟨s, x, n, hJ, hr⟩ := h
  have ha := pAsk_minutesLocked hJ.2.1 M a1
  rw [pc_self hJ] at ha
  rcases pAsk_self hJ.1 ha with ⟨v, c, d⟩ | ⟨p, hp, c, d⟩
  · have eL : f_L_minutesLocked M a1 = (0, tpl M 257 0 v.toInt64) := by
      unfold f_L_minutesLocked
      rw [c]
      rfl
    obtain ⟨q, e⟩ := d (tpl M 257 0 v.toInt64) rfl
    have e9 : f_X9_minutesLocked (tpl M 257 0 v.toInt64) a1 = (v, puN (tpl M 257 0 v.toInt64) s (nI 0)) := e
    unfold lq_16 lm_16
    rw [eL]
    dsimp only
    rw [e9]
    refine ⟨⟨⟨fun e he => ?_, trivial⟩, q, puN_t _ _ _, fun _ => ?_, trivial⟩, pJ_q hJ hr hB (M' := tpl M 257 0 v.toInt64) rfl (fun a ha => tpl_o M 0 _ (by omega)) _⟩
    · rw [c] at he
      exact absurd he (by simp)
    · rw [show tgl (puN (tpl M 257 0 v.toInt64) s (nI 0)) 257 0 = v.toInt64 from tpl_s _ _ _ _]
      exact lg_self _
  · obtain ⟨q, e⟩ := d M rfl
    have e9 : f_X9_minutesLocked M a1 = (nI 0, puN M s (nI p.2)) := e
    simp only [List.mem_cons, List.not_mem_nil, or_false] at hp
    subst hp
    · have eL : f_L_minutesLocked M a1 = (1, M) := by
        unfold f_L_minutesLocked
        rw [c]
        simp
      unfold lq_16 lm_16
      rw [eL]
      dsimp only
      rw [e9]
      refine ⟨⟨⟨fun e he => ?_, trivial⟩, q, puN_t _ _ _, fun n0 => absurd n0 (by simp), trivial⟩, pJ_q hJ hr hB rfl (fun _ _ => rfl) _⟩
      rw [c] at he
      have he' := Option.some.inj he
      subst he'
      simp

theorem pc_17 {B : Nat} {M : tvM} (h : pJ B M M) (hB : B ≤ 10000000) (a1 a2 a3 : Int32) : lq_17 M a1 a2 a3 ∧ pJ B (lm_17 M a1 a2 a3) (lm_17 M a1 a2 a3) := by
  obtain ⟨s, x, n, hJ, hr⟩ := h
  have ha := pAsk_boxesOf hJ.2.1 M a1
  rw [pc_self hJ] at ha
  rcases pAsk_self hJ.1 ha with ⟨v, c, d⟩ | ⟨p, hp, c, d⟩
  · have eL : f_L_boxesOf M a1 = (0, tpl M 257 0 v.toInt64) := by
      unfold f_L_boxesOf
      rw [c]
      rfl
    obtain ⟨q, e⟩ := d (tpl M 257 0 v.toInt64) rfl
    have e9 : f_X9_boxesOf (tpl M 257 0 v.toInt64) a1 = (v, puN (tpl M 257 0 v.toInt64) s (nI 0)) := e
    unfold lq_17 lm_17
    rw [eL]
    dsimp only
    rw [e9]
    refine ⟨⟨⟨fun e he => ?_, trivial⟩, q, puN_t _ _ _, fun _ => ?_, trivial⟩, pJ_q hJ hr hB (M' := tpl M 257 0 v.toInt64) rfl (fun a ha => tpl_o M 0 _ (by omega)) _⟩
    · rw [c] at he
      exact absurd he (by simp)
    · rw [show tgl (puN (tpl M 257 0 v.toInt64) s (nI 0)) 257 0 = v.toInt64 from tpl_s _ _ _ _]
      exact lg_self _
  · obtain ⟨q, e⟩ := d M rfl
    have e9 : f_X9_boxesOf M a1 = (nI 0, puN M s (nI p.2)) := e
    simp only [List.mem_cons, List.not_mem_nil, or_false] at hp
    subst hp
    · have eL : f_L_boxesOf M a1 = (1, M) := by
        unfold f_L_boxesOf
        rw [c]
        simp
      unfold lq_17 lm_17
      rw [eL]
      dsimp only
      rw [e9]
      refine ⟨⟨⟨fun e he => ?_, trivial⟩, q, puN_t _ _ _, fun n0 => absurd n0 (by simp), trivial⟩, pJ_q hJ hr hB rfl (fun _ _ => rfl) _⟩
      rw [c] at he
      have he' := Option.some.inj he
      subst he'
      simp

theorem pc_19 {B : Nat} {M : tvM} (h : pJ B M M) (hB : B ≤ 10000000) (a1 a2 a3 : Int32) : lq_19 M a1 a2 a3 ∧ pJ B (lm_19 M a1 a2 a3) (lm_19 M a1 a2 a3) := by
  obtain ⟨s, x, n, hJ, hr⟩ := h
  have ha := pAsk_otherHolder hJ.2.1 M a1 a2
  rw [pc_self hJ] at ha
  rcases pAsk_self hJ.1 ha with ⟨v, c, d⟩ | ⟨p, hp, c, d⟩
  · have eL : f_L_otherHolder M a1 a2 = (0, tpl M 257 0 v.toInt64) := by
      unfold f_L_otherHolder
      rw [c]
      rfl
    obtain ⟨q, e⟩ := d (tpl M 257 0 v.toInt64) rfl
    have e9 : f_X9_otherHolder (tpl M 257 0 v.toInt64) a1 a2 = (v, puN (tpl M 257 0 v.toInt64) s (nI 0)) := e
    unfold lq_19 lm_19
    rw [eL]
    dsimp only
    rw [e9]
    refine ⟨⟨⟨fun e he => ?_, trivial⟩, q, puN_t _ _ _, fun _ => ?_, trivial⟩, pJ_q hJ hr hB (M' := tpl M 257 0 v.toInt64) rfl (fun a ha => tpl_o M 0 _ (by omega)) _⟩
    · rw [c] at he
      exact absurd he (by simp)
    · rw [show tgl (puN (tpl M 257 0 v.toInt64) s (nI 0)) 257 0 = v.toInt64 from tpl_s _ _ _ _]
      exact lg_self _
  · obtain ⟨q, e⟩ := d M rfl
    have e9 : f_X9_otherHolder M a1 a2 = (nI 0, puN M s (nI p.2)) := e
    simp only [List.mem_cons, List.not_mem_nil, or_false] at hp
    rcases hp with rfl | rfl
    · have eL : f_L_otherHolder M a1 a2 = (1, M) := by
        unfold f_L_otherHolder
        rw [c]
        simp
      unfold lq_19 lm_19
      rw [eL]
      dsimp only
      rw [e9]
      refine ⟨⟨⟨fun e he => ?_, trivial⟩, q, puN_t _ _ _, fun n0 => absurd n0 (by simp), trivial⟩, pJ_q hJ hr hB rfl (fun _ _ => rfl) _⟩
      rw [c] at he
      have he' := Option.some.inj he
      subst he'
      simp
    · have eL : f_L_otherHolder M a1 a2 = (2, M) := by
        unfold f_L_otherHolder
        rw [c]
        simp
      unfold lq_19 lm_19
      rw [eL]
      dsimp only
      rw [e9]
      refine ⟨⟨⟨fun e he => ?_, trivial⟩, q, puN_t _ _ _, fun n0 => absurd n0 (by simp), trivial⟩, pJ_q hJ hr hB rfl (fun _ _ => rfl) _⟩
      rw [c] at he
      have he' := Option.some.inj he
      subst he'
      simp

theorem pc_20 {B : Nat} {M : tvM} (h : pJ B M M) (hB : B ≤ 10000000) (a1 a2 a3 : Int32) : lq_20 M a1 a2 a3 ∧ pJ B (lm_20 M a1 a2 a3) (lm_20 M a1 a2 a3) := by
  obtain ⟨s, x, n, hJ, hr⟩ := h
  have ha := pAsk_status hJ.2.1 M a1
  rw [pc_self hJ] at ha
  rcases pAsk_self hJ.1 ha with ⟨v, c, d⟩ | ⟨p, hp, c, d⟩
  · have eL : f_L_status M a1 = (0, tpl M 257 0 v.toInt64) := by
      unfold f_L_status
      rw [c]
      rfl
    obtain ⟨q, e⟩ := d (tpl M 257 0 v.toInt64) rfl
    have e9 : f_X9_status (tpl M 257 0 v.toInt64) a1 = (v, puN (tpl M 257 0 v.toInt64) s (nI 0)) := e
    unfold lq_20 lm_20
    rw [eL]
    dsimp only
    rw [e9]
    refine ⟨⟨⟨fun e he => ?_, trivial⟩, q, puN_t _ _ _, fun _ => ?_, trivial⟩, pJ_q hJ hr hB (M' := tpl M 257 0 v.toInt64) rfl (fun a ha => tpl_o M 0 _ (by omega)) _⟩
    · rw [c] at he
      exact absurd he (by simp)
    · rw [show tgl (puN (tpl M 257 0 v.toInt64) s (nI 0)) 257 0 = v.toInt64 from tpl_s _ _ _ _]
      exact lg_self _
  · obtain ⟨q, e⟩ := d M rfl
    have e9 : f_X9_status M a1 = (nI 0, puN M s (nI p.2)) := e
    simp only [List.mem_cons, List.not_mem_nil, or_false] at hp
    subst hp
    · have eL : f_L_status M a1 = (1, M) := by
        unfold f_L_status
        rw [c]
        simp
      unfold lq_20 lm_20
      rw [eL]
      dsimp only
      rw [e9]
      refine ⟨⟨⟨fun e he => ?_, trivial⟩, q, puN_t _ _ _, fun n0 => absurd n0 (by simp), trivial⟩, pJ_q hJ hr hB rfl (fun _ _ => rfl) _⟩
      rw [c] at he
      have he' := Option.some.inj he
      subst he'
      simp

theorem pc_21 {B : Nat} {M : tvM} (h : pJ B M M) (hB : B ≤ 10000000) (a1 a2 a3 : Int32) : lq_21 M a1 a2 a3 ∧ pJ B (lm_21 M a1 a2 a3) (lm_21 M a1 a2 a3) := by
  obtain ⟨s, x, n, hJ, hr⟩ := h
  have ha := pAsk_firstHolder hJ.2.1 M a1
  rw [pc_self hJ] at ha
  rcases pAsk_self hJ.1 ha with ⟨v, c, d⟩ | ⟨p, hp, c, d⟩
  · have eL : f_L_firstHolder M a1 = (0, tpl M 257 0 v.toInt64) := by
      unfold f_L_firstHolder
      rw [c]
      rfl
    obtain ⟨q, e⟩ := d (tpl M 257 0 v.toInt64) rfl
    have e9 : f_X9_firstHolder (tpl M 257 0 v.toInt64) a1 = (v, puN (tpl M 257 0 v.toInt64) s (nI 0)) := e
    unfold lq_21 lm_21
    rw [eL]
    dsimp only
    rw [e9]
    refine ⟨⟨⟨fun e he => ?_, trivial⟩, q, puN_t _ _ _, fun _ => ?_, trivial⟩, pJ_q hJ hr hB (M' := tpl M 257 0 v.toInt64) rfl (fun a ha => tpl_o M 0 _ (by omega)) _⟩
    · rw [c] at he
      exact absurd he (by simp)
    · rw [show tgl (puN (tpl M 257 0 v.toInt64) s (nI 0)) 257 0 = v.toInt64 from tpl_s _ _ _ _]
      exact lg_self _
  · obtain ⟨q, e⟩ := d M rfl
    have e9 : f_X9_firstHolder M a1 = (nI 0, puN M s (nI p.2)) := e
    simp only [List.mem_cons, List.not_mem_nil, or_false] at hp
    rcases hp with rfl | rfl
    · have eL : f_L_firstHolder M a1 = (1, M) := by
        unfold f_L_firstHolder
        rw [c]
        simp
      unfold lq_21 lm_21
      rw [eL]
      dsimp only
      rw [e9]
      refine ⟨⟨⟨fun e he => ?_, trivial⟩, q, puN_t _ _ _, fun n0 => absurd n0 (by simp), trivial⟩, pJ_q hJ hr hB rfl (fun _ _ => rfl) _⟩
      rw [c] at he
      have he' := Option.some.inj he
      subst he'
      simp
    · have eL : f_L_firstHolder M a1 = (2, M) := by
        unfold f_L_firstHolder
        rw [c]
        simp
      unfold lq_21 lm_21
      rw [eL]
      dsimp only
      rw [e9]
      refine ⟨⟨⟨fun e he => ?_, trivial⟩, q, puN_t _ _ _, fun n0 => absurd n0 (by simp), trivial⟩, pJ_q hJ hr hB rfl (fun _ _ => rfl) _⟩
      rw [c] at he
      have he' := Option.some.inj he
      subst he'
      simp

theorem pc_22 {B : Nat} {M : tvM} (h : pJ B M M) (hB : B ≤ 10000000) (a1 a2 a3 : Int32) : lq_22 M a1 a2 a3 ∧ pJ B (lm_22 M a1 a2 a3) (lm_22 M a1 a2 a3) := by
  obtain ⟨s, x, n, hJ, hr⟩ := h
  have ha := pAsk_remainingDelay hJ.2.1 M a1
  rw [pc_self hJ] at ha
  rcases pAsk_self hJ.1 ha with ⟨v, c, d⟩ | ⟨p, hp, c, d⟩
  · have eL : f_L_remainingDelay M a1 = (0, tpl M 257 0 v.toInt64) := by
      unfold f_L_remainingDelay
      rw [c]
      rfl
    obtain ⟨q, e⟩ := d (tpl M 257 0 v.toInt64) rfl
    have e9 : f_X9_remainingDelay (tpl M 257 0 v.toInt64) a1 = (v, puN (tpl M 257 0 v.toInt64) s (nI 0)) := e
    unfold lq_22 lm_22
    rw [eL]
    dsimp only
    rw [e9]
    refine ⟨⟨⟨fun e he => ?_, trivial⟩, q, puN_t _ _ _, fun _ => ?_, trivial⟩, pJ_q hJ hr hB (M' := tpl M 257 0 v.toInt64) rfl (fun a ha => tpl_o M 0 _ (by omega)) _⟩
    · rw [c] at he
      exact absurd he (by simp)
    · rw [show tgl (puN (tpl M 257 0 v.toInt64) s (nI 0)) 257 0 = v.toInt64 from tpl_s _ _ _ _]
      exact lg_self _
  · obtain ⟨q, e⟩ := d M rfl
    have e9 : f_X9_remainingDelay M a1 = (nI 0, puN M s (nI p.2)) := e
    simp only [List.mem_cons, List.not_mem_nil, or_false] at hp
    rcases hp with rfl | rfl
    · have eL : f_L_remainingDelay M a1 = (1, M) := by
        unfold f_L_remainingDelay
        rw [c]
        simp
      unfold lq_22 lm_22
      rw [eL]
      dsimp only
      rw [e9]
      refine ⟨⟨⟨fun e he => ?_, trivial⟩, q, puN_t _ _ _, fun n0 => absurd n0 (by simp), trivial⟩, pJ_q hJ hr hB rfl (fun _ _ => rfl) _⟩
      rw [c] at he
      have he' := Option.some.inj he
      subst he'
      simp
    · have eL : f_L_remainingDelay M a1 = (2, M) := by
        unfold f_L_remainingDelay
        rw [c]
        simp
      unfold lq_22 lm_22
      rw [eL]
      dsimp only
      rw [e9]
      refine ⟨⟨⟨fun e he => ?_, trivial⟩, q, puN_t _ _ _, fun n0 => absurd n0 (by simp), trivial⟩, pJ_q hJ hr hB rfl (fun _ _ => rfl) _⟩
      rw [c] at he
      have he' := Option.some.inj he
      subst he'
      simp

theorem pc_25 {B : Nat} {M : tvM} (h : pJ B M M) (hB : B ≤ 10000000) (a1 a2 a3 : Int32) : lq_25 M a1 a2 a3 ∧ pJ B (lm_25 M a1 a2 a3) (lm_25 M a1 a2 a3) := by
  obtain ⟨s, x, n, hJ, hr⟩ := h
  have ha := pAsk_pearls hJ.2.1 M a1
  rw [pc_self hJ] at ha
  rcases pAsk_self hJ.1 ha with ⟨v, c, d⟩ | ⟨p, hp, c, d⟩
  · have eL : f_L_pearls M a1 = (0, tpl M 257 0 v.toInt64) := by
      unfold f_L_pearls
      rw [c]
      rfl
    obtain ⟨q, e⟩ := d (tpl M 257 0 v.toInt64) rfl
    have e9 : f_X9_pearls (tpl M 257 0 v.toInt64) a1 = (v, puN (tpl M 257 0 v.toInt64) s (nI 0)) := e
    unfold lq_25 lm_25
    rw [eL]
    dsimp only
    rw [e9]
    refine ⟨⟨⟨fun e he => ?_, trivial⟩, q, puN_t _ _ _, fun _ => ?_, trivial⟩, pJ_q hJ hr hB (M' := tpl M 257 0 v.toInt64) rfl (fun a ha => tpl_o M 0 _ (by omega)) _⟩
    · rw [c] at he
      exact absurd he (by simp)
    · rw [show tgl (puN (tpl M 257 0 v.toInt64) s (nI 0)) 257 0 = v.toInt64 from tpl_s _ _ _ _]
      exact lg_self _
  · obtain ⟨q, e⟩ := d M rfl
    have e9 : f_X9_pearls M a1 = (nI 0, puN M s (nI p.2)) := e
    simp only [List.mem_cons, List.not_mem_nil, or_false] at hp
    subst hp
    · have eL : f_L_pearls M a1 = (1, M) := by
        unfold f_L_pearls
        rw [c]
        simp
      unfold lq_25 lm_25
      rw [eL]
      dsimp only
      rw [e9]
      refine ⟨⟨⟨fun e he => ?_, trivial⟩, q, puN_t _ _ _, fun n0 => absurd n0 (by simp), trivial⟩, pJ_q hJ hr hB rfl (fun _ _ => rfl) _⟩
      rw [c] at he
      have he' := Option.some.inj he
      subst he'
      simp

theorem pc_26 {B : Nat} {M : tvM} (h : pJ B M M) (hB : B ≤ 10000000) (a1 a2 a3 : Int32) : lq_26 M a1 a2 a3 ∧ pJ B (lm_26 M a1 a2 a3) (lm_26 M a1 a2 a3) := by
  obtain ⟨s, x, n, hJ, hr⟩ := h
  have ha := pAsk_pearl hJ.2.1 M a1 a2
  rw [pc_self hJ] at ha
  rcases pAsk_self hJ.1 ha with ⟨v, c, d⟩ | ⟨p, hp, c, d⟩
  · have eL : f_L_pearl M a1 a2 = (0, tpl M 257 0 v.toInt64) := by
      unfold f_L_pearl
      rw [c]
      rfl
    obtain ⟨q, e⟩ := d (tpl M 257 0 v.toInt64) rfl
    have e9 : f_X9_pearl (tpl M 257 0 v.toInt64) a1 a2 = (v, puN (tpl M 257 0 v.toInt64) s (nI 0)) := e
    unfold lq_26 lm_26
    rw [eL]
    dsimp only
    rw [e9]
    refine ⟨⟨⟨fun e he => ?_, trivial⟩, q, puN_t _ _ _, fun _ => ?_, trivial⟩, pJ_q hJ hr hB (M' := tpl M 257 0 v.toInt64) rfl (fun a ha => tpl_o M 0 _ (by omega)) _⟩
    · rw [c] at he
      exact absurd he (by simp)
    · rw [show tgl (puN (tpl M 257 0 v.toInt64) s (nI 0)) 257 0 = v.toInt64 from tpl_s _ _ _ _]
      exact lg_self _
  · obtain ⟨q, e⟩ := d M rfl
    have e9 : f_X9_pearl M a1 a2 = (nI 0, puN M s (nI p.2)) := e
    simp only [List.mem_cons, List.not_mem_nil, or_false] at hp
    rcases hp with rfl | rfl
    · have eL : f_L_pearl M a1 a2 = (1, M) := by
        unfold f_L_pearl
        rw [c]
        simp
      unfold lq_26 lm_26
      rw [eL]
      dsimp only
      rw [e9]
      refine ⟨⟨⟨fun e he => ?_, trivial⟩, q, puN_t _ _ _, fun n0 => absurd n0 (by simp), trivial⟩, pJ_q hJ hr hB rfl (fun _ _ => rfl) _⟩
      rw [c] at he
      have he' := Option.some.inj he
      subst he'
      simp
    · have eL : f_L_pearl M a1 a2 = (2, M) := by
        unfold f_L_pearl
        rw [c]
        simp
      unfold lq_26 lm_26
      rw [eL]
      dsimp only
      rw [e9]
      refine ⟨⟨⟨fun e he => ?_, trivial⟩, q, puN_t _ _ _, fun n0 => absurd n0 (by simp), trivial⟩, pJ_q hJ hr hB rfl (fun _ _ => rfl) _⟩
      rw [c] at he
      have he' := Option.some.inj he
      subst he'
      simp

theorem pc_27 {B : Nat} {M : tvM} (h : pJ B M M) (hB : B ≤ 10000000) (a1 a2 a3 : Int32) : lq_27 M a1 a2 a3 ∧ pJ B (lm_27 M a1 a2 a3) (lm_27 M a1 a2 a3) := by
  obtain ⟨s, x, n, hJ, hr⟩ := h
  have ha := pAsk_boxByValue hJ.2.1 M a1
  rw [pc_self hJ] at ha
  rcases pAsk_self hJ.1 ha with ⟨v, c, d⟩ | ⟨p, hp, c, d⟩
  · have eL : f_L_boxByValue M a1 = (0, tpl M 257 0 v.toInt64) := by
      unfold f_L_boxByValue
      rw [c]
      rfl
    obtain ⟨q, e⟩ := d (tpl M 257 0 v.toInt64) rfl
    have e9 : f_X9_boxByValue (tpl M 257 0 v.toInt64) a1 = (v, puN (tpl M 257 0 v.toInt64) s (nI 0)) := e
    unfold lq_27 lm_27
    rw [eL]
    dsimp only
    rw [e9]
    refine ⟨⟨⟨fun e he => ?_, trivial⟩, q, puN_t _ _ _, fun _ => ?_, trivial⟩, pJ_q hJ hr hB (M' := tpl M 257 0 v.toInt64) rfl (fun a ha => tpl_o M 0 _ (by omega)) _⟩
    · rw [c] at he
      exact absurd he (by simp)
    · rw [show tgl (puN (tpl M 257 0 v.toInt64) s (nI 0)) 257 0 = v.toInt64 from tpl_s _ _ _ _]
      exact lg_self _
  · obtain ⟨q, e⟩ := d M rfl
    have e9 : f_X9_boxByValue M a1 = (nI 0, puN M s (nI p.2)) := e
    simp only [List.mem_cons, List.not_mem_nil, or_false] at hp
    subst hp
    · have eL : f_L_boxByValue M a1 = (1, M) := by
        unfold f_L_boxByValue
        rw [c]
        simp
      unfold lq_27 lm_27
      rw [eL]
      dsimp only
      rw [e9]
      refine ⟨⟨⟨fun e he => ?_, trivial⟩, q, puN_t _ _ _, fun n0 => absurd n0 (by simp), trivial⟩, pJ_q hJ hr hB rfl (fun _ _ => rfl) _⟩
      rw [c] at he
      have he' := Option.some.inj he
      subst he'
      simp

theorem pc_33 {B : Nat} {M : tvM} (h : pJ B M M) (hB : B ≤ 10000000) (a1 a2 a3 : Int32) : lq_33 M a1 a2 a3 ∧ pJ B (lm_33 M a1 a2 a3) (lm_33 M a1 a2 a3) := by
  obtain ⟨s, x, n, hJ, hr⟩ := h
  have ha := pAsk_eventKind hJ.2.1 M a1
  rw [pc_self hJ] at ha
  rcases pAsk_self hJ.1 ha with ⟨v, c, d⟩ | ⟨p, hp, c, d⟩
  · have eL : f_L_eventKind M a1 = (0, tpl M 257 0 v.toInt64) := by
      unfold f_L_eventKind
      rw [c]
      rfl
    obtain ⟨q, e⟩ := d (tpl M 257 0 v.toInt64) rfl
    have e9 : f_X9_eventKind (tpl M 257 0 v.toInt64) a1 = (v, puN (tpl M 257 0 v.toInt64) s (nI 0)) := e
    unfold lq_33 lm_33
    rw [eL]
    dsimp only
    rw [e9]
    refine ⟨⟨⟨fun e he => ?_, trivial⟩, q, puN_t _ _ _, fun _ => ?_, trivial⟩, pJ_q hJ hr hB (M' := tpl M 257 0 v.toInt64) rfl (fun a ha => tpl_o M 0 _ (by omega)) _⟩
    · rw [c] at he
      exact absurd he (by simp)
    · rw [show tgl (puN (tpl M 257 0 v.toInt64) s (nI 0)) 257 0 = v.toInt64 from tpl_s _ _ _ _]
      exact lg_self _
  · obtain ⟨q, e⟩ := d M rfl
    have e9 : f_X9_eventKind M a1 = (nI 0, puN M s (nI p.2)) := e
    simp only [List.mem_cons, List.not_mem_nil, or_false] at hp
    subst hp
    · have eL : f_L_eventKind M a1 = (1, M) := by
        unfold f_L_eventKind
        rw [c]
        simp
      unfold lq_33 lm_33
      rw [eL]
      dsimp only
      rw [e9]
      refine ⟨⟨⟨fun e he => ?_, trivial⟩, q, puN_t _ _ _, fun n0 => absurd n0 (by simp), trivial⟩, pJ_q hJ hr hB rfl (fun _ _ => rfl) _⟩
      rw [c] at he
      have he' := Option.some.inj he
      subst he'
      simp

theorem pc_34 {B : Nat} {M : tvM} (h : pJ B M M) (hB : B ≤ 10000000) (a1 a2 a3 : Int32) : lq_34 M a1 a2 a3 ∧ pJ B (lm_34 M a1 a2 a3) (lm_34 M a1 a2 a3) := by
  obtain ⟨s, x, n, hJ, hr⟩ := h
  have ha := pAsk_eventTime hJ.2.1 M a1
  rw [pc_self hJ] at ha
  rcases pAsk_self hJ.1 ha with ⟨v, c, d⟩ | ⟨p, hp, c, d⟩
  · have eL : f_L_eventTime M a1 = (0, tpl M 257 0 v.toInt64) := by
      unfold f_L_eventTime
      rw [c]
      rfl
    obtain ⟨q, e⟩ := d (tpl M 257 0 v.toInt64) rfl
    have e9 : f_X9_eventTime (tpl M 257 0 v.toInt64) a1 = (v, puN (tpl M 257 0 v.toInt64) s (nI 0)) := e
    unfold lq_34 lm_34
    rw [eL]
    dsimp only
    rw [e9]
    refine ⟨⟨⟨fun e he => ?_, trivial⟩, q, puN_t _ _ _, fun _ => ?_, trivial⟩, pJ_q hJ hr hB (M' := tpl M 257 0 v.toInt64) rfl (fun a ha => tpl_o M 0 _ (by omega)) _⟩
    · rw [c] at he
      exact absurd he (by simp)
    · rw [show tgl (puN (tpl M 257 0 v.toInt64) s (nI 0)) 257 0 = v.toInt64 from tpl_s _ _ _ _]
      exact lg_self _
  · obtain ⟨q, e⟩ := d M rfl
    have e9 : f_X9_eventTime M a1 = (nI 0, puN M s (nI p.2)) := e
    simp only [List.mem_cons, List.not_mem_nil, or_false] at hp
    subst hp
    · have eL : f_L_eventTime M a1 = (1, M) := by
        unfold f_L_eventTime
        rw [c]
        simp
      unfold lq_34 lm_34
      rw [eL]
      dsimp only
      rw [e9]
      refine ⟨⟨⟨fun e he => ?_, trivial⟩, q, puN_t _ _ _, fun n0 => absurd n0 (by simp), trivial⟩, pJ_q hJ hr hB rfl (fun _ _ => rfl) _⟩
      rw [c] at he
      have he' := Option.some.inj he
      subst he'
      simp

theorem pc_35 {B : Nat} {M : tvM} (h : pJ B M M) (hB : B ≤ 10000000) (a1 a2 a3 : Int32) : lq_35 M a1 a2 a3 ∧ pJ B (lm_35 M a1 a2 a3) (lm_35 M a1 a2 a3) := by
  obtain ⟨s, x, n, hJ, hr⟩ := h
  have ha := pAsk_eventNumber hJ.2.1 M a1
  rw [pc_self hJ] at ha
  rcases pAsk_self hJ.1 ha with ⟨v, c, d⟩ | ⟨p, hp, c, d⟩
  · have eL : f_L_eventNumber M a1 = (0, tpl M 257 0 v.toInt64) := by
      unfold f_L_eventNumber
      rw [c]
      rfl
    obtain ⟨q, e⟩ := d (tpl M 257 0 v.toInt64) rfl
    have e9 : f_X9_eventNumber (tpl M 257 0 v.toInt64) a1 = (v, puN (tpl M 257 0 v.toInt64) s (nI 0)) := e
    unfold lq_35 lm_35
    rw [eL]
    dsimp only
    rw [e9]
    refine ⟨⟨⟨fun e he => ?_, trivial⟩, q, puN_t _ _ _, fun _ => ?_, trivial⟩, pJ_q hJ hr hB (M' := tpl M 257 0 v.toInt64) rfl (fun a ha => tpl_o M 0 _ (by omega)) _⟩
    · rw [c] at he
      exact absurd he (by simp)
    · rw [show tgl (puN (tpl M 257 0 v.toInt64) s (nI 0)) 257 0 = v.toInt64 from tpl_s _ _ _ _]
      exact lg_self _
  · obtain ⟨q, e⟩ := d M rfl
    have e9 : f_X9_eventNumber M a1 = (nI 0, puN M s (nI p.2)) := e
    simp only [List.mem_cons, List.not_mem_nil, or_false] at hp
    subst hp
    · have eL : f_L_eventNumber M a1 = (1, M) := by
        unfold f_L_eventNumber
        rw [c]
        simp
      unfold lq_35 lm_35
      rw [eL]
      dsimp only
      rw [e9]
      refine ⟨⟨⟨fun e he => ?_, trivial⟩, q, puN_t _ _ _, fun n0 => absurd n0 (by simp), trivial⟩, pJ_q hJ hr hB rfl (fun _ _ => rfl) _⟩
      rw [c] at he
      have he' := Option.some.inj he
      subst he'
      simp

theorem pn_1 (M : tvM) (s : Nat → Nat) (t : Int32) : tpi (puN M s t) 249 5 0 = puN M s (nI 0) := puN_pt _ _ _ _

theorem pc_9 {B : Nat} {M : tvM} (h : pJ B M M) (hB : B ≤ 10000000) (a1 a2 a3 : Int32) : lq_9 M a1 a2 a3 ∧ pJ B (lm_9 M a1 a2 a3) (lm_9 M a1 a2 a3) := by
  obtain ⟨s, x, n, hJ, hr⟩ := h
  have hR := hJ.2.1
  obtain ⟨⟨hb, hs, hh, hx, he, hsum⟩, ⟨hc, hch, hcx, hcl⟩⟩ := id hR
  have hs' := hs
  obtain ⟨s0, s1, s2, s3, s45, s67, s8, s9, s10, s11, sB⟩ := hs
  have hc' := hc
  obtain ⟨c04, c05, c06, c07, cl, c10, c11, c20, c60⟩ := hc
  have eM : puN M s (M.1 249 5) = M := puN_self hJ.1 rfl
  have e9 : f_X9_time (puN M s (M.1 249 5)) = (nI (s 0), puN M s (nI 0)) := by
    unfold f_X9_time
    rw [pn_1, puN_g]
  rw [eM] at e9
  have e8 : f_X8_time (puC M 1 (pV M 1) (pL M 1)) = nI (s 0) := (show tgi (puC M 1 (pV M 1) (pL M 1)) 1 4 = _ from by rw [puC_g0]; exact c04)
  rw [pc_self hJ] at e8
  unfold lq_9 lm_9
  rw [e8, e9]
  exact ⟨⟨rfl, trivial⟩, pJ_q hJ hr hB rfl (fun _ _ => rfl) _⟩

theorem pc_13 {B : Nat} {M : tvM} (h : pJ B M M) (hB : B ≤ 10000000) (a1 a2 a3 : Int32) : lq_13 M a1 a2 a3 ∧ pJ B (lm_13 M a1 a2 a3) (lm_13 M a1 a2 a3) := by
  obtain ⟨s, x, n, hJ, hr⟩ := h
  have hR := hJ.2.1
  obtain ⟨⟨hb, hs, hh, hx, he, hsum⟩, ⟨hc, hch, hcx, hcl⟩⟩ := id hR
  have hs' := hs
  obtain ⟨s0, s1, s2, s3, s45, s67, s8, s9, s10, s11, sB⟩ := hs
  have hc' := hc
  obtain ⟨c04, c05, c06, c07, cl, c10, c11, c20, c60⟩ := hc
  have eM : puN M s (M.1 249 5) = M := puN_self hJ.1 rfl
  have e9 : f_X9_alarm (puN M s (M.1 249 5)) = (nI (s 3), puN M s (nI 0)) := by
    unfold f_X9_alarm
    rw [pn_1, puN_g]
  rw [eM] at e9
  have e8 : f_X8_alarm (puC M 1 (pV M 1) (pL M 1)) = nI (s 3) := (show tgi (puC M 1 (pV M 1) (pL M 1)) 1 5 = _ from by rw [puC_g0]; exact c05)
  rw [pc_self hJ] at e8
  unfold lq_13 lm_13
  rw [e8, e9]
  exact ⟨⟨rfl, trivial⟩, pJ_q hJ hr hB rfl (fun _ _ => rfl) _⟩

theorem pc_14 {B : Nat} {M : tvM} (h : pJ B M M) (hB : B ≤ 10000000) (a1 a2 a3 : Int32) : lq_14 M a1 a2 a3 ∧ pJ B (lm_14 M a1 a2 a3) (lm_14 M a1 a2 a3) := by
  obtain ⟨s, x, n, hJ, hr⟩ := h
  have hR := hJ.2.1
  obtain ⟨⟨hb, hs, hh, hx, he, hsum⟩, ⟨hc, hch, hcx, hcl⟩⟩ := id hR
  have hs' := hs
  obtain ⟨s0, s1, s2, s3, s45, s67, s8, s9, s10, s11, sB⟩ := hs
  have hc' := hc
  obtain ⟨c04, c05, c06, c07, cl, c10, c11, c20, c60⟩ := hc
  have eM : puN M s (M.1 249 5) = M := puN_self hJ.1 rfl
  have e9 : f_X9_holders (puN M s (M.1 249 5)) = (nI (s 9), puN M s (nI 0)) := by
    unfold f_X9_holders
    rw [pn_1, puN_g]
  rw [eM] at e9
  have e8 : f_X8_holders (puC M 1 (pV M 1) (pL M 1)) = nI (s 9) := (show tgi (puC M 1 (pV M 1) (pL M 1)) (1 + 2) 0 = _ from by rw [puC_g2]; exact c20)
  rw [pc_self hJ] at e8
  unfold lq_14 lm_14
  rw [e8, e9]
  exact ⟨⟨rfl, trivial⟩, pJ_q hJ hr hB rfl (fun _ _ => rfl) _⟩

theorem pc_18 {B : Nat} {M : tvM} (h : pJ B M M) (hB : B ≤ 10000000) (a1 a2 a3 : Int32) : lq_18 M a1 a2 a3 ∧ pJ B (lm_18 M a1 a2 a3) (lm_18 M a1 a2 a3) := by
  obtain ⟨s, x, n, hJ, hr⟩ := h
  have hR := hJ.2.1
  obtain ⟨⟨hb, hs, hh, hx, he, hsum⟩, ⟨hc, hch, hcx, hcl⟩⟩ := id hR
  have hs' := hs
  obtain ⟨s0, s1, s2, s3, s45, s67, s8, s9, s10, s11, sB⟩ := hs
  have hc' := hc
  obtain ⟨c04, c05, c06, c07, cl, c10, c11, c20, c60⟩ := hc
  have eM : puN M s (M.1 249 5) = M := puN_self hJ.1 rfl
  have e9 : f_X9_boxes (puN M s (M.1 249 5)) = (nI (s 10), puN M s (nI 0)) := by
    unfold f_X9_boxes
    rw [pn_1, puN_g]
  rw [eM] at e9
  have e8 : f_X8_boxes (puC M 1 (pV M 1) (pL M 1)) = nI (s 10) := (show tgi (puC M 1 (pV M 1) (pL M 1)) (1 + 6) 0 = _ from by rw [puC_g6]; exact c60)
  rw [pc_self hJ] at e8
  unfold lq_18 lm_18
  rw [e8, e9]
  exact ⟨⟨rfl, trivial⟩, pJ_q hJ hr hB rfl (fun _ _ => rfl) _⟩

theorem pc_32 {B : Nat} {M : tvM} (h : pJ B M M) (hB : B ≤ 10000000) (a1 a2 a3 : Int32) : lq_32 M a1 a2 a3 ∧ pJ B (lm_32 M a1 a2 a3) (lm_32 M a1 a2 a3) := by
  obtain ⟨s, x, n, hJ, hr⟩ := h
  have hR := hJ.2.1
  obtain ⟨⟨hb, hs, hh, hx, he, hsum⟩, ⟨hc, hch, hcx, hcl⟩⟩ := id hR
  have hs' := hs
  obtain ⟨s0, s1, s2, s3, s45, s67, s8, s9, s10, s11, sB⟩ := hs
  have hc' := hc
  obtain ⟨c04, c05, c06, c07, cl, c10, c11, c20, c60⟩ := hc
  have eM : puN M s (M.1 249 5) = M := puN_self hJ.1 rfl
  have e9 : f_X9_events (puN M s (M.1 249 5)) = (nI (s 11), puN M s (nI 0)) := by
    unfold f_X9_events
    rw [pn_1, puN_g]
  rw [eM] at e9
  have e8 : f_X8_events (puC M 1 (pV M 1) (pL M 1)) = nI (s 11) := (show tgi (puC M 1 (pV M 1) (pL M 1)) (1 + 16) 1 = _ from by rw [puC_g16]; exact hcl.choose_spec.2.2.1)
  rw [pc_self hJ] at e8
  unfold lq_32 lm_32
  rw [e8, e9]
  exact ⟨⟨rfl, trivial⟩, pJ_q hJ hr hB rfl (fun _ _ => rfl) _⟩

theorem pc_10 {B : Nat} {M : tvM} (h : pJ B M M) (hB : B ≤ 10000000) (a1 a2 a3 : Int32) : lq_10 M a1 a2 a3 ∧ pJ B (lm_10 M a1 a2 a3) (lm_10 M a1 a2 a3) := by
  obtain ⟨s, x, n, hJ, hr⟩ := h
  have hR := hJ.2.1
  obtain ⟨⟨hb, hs, hh, hx, he, hsum⟩, ⟨hc, hch, hcx, hcl⟩⟩ := id hR
  have hs' := hs
  obtain ⟨s0, s1, s2, s3, s45, s67, s8, s9, s10, s11, sB⟩ := hs
  have hc' := hc
  obtain ⟨c04, c05, c06, c07, cl, c10, c11, c20, c60⟩ := hc
  have eM : puN M s (M.1 249 5) = M := puN_self hJ.1 rfl
  have e9 : f_X9_isLowTide (puN M s (M.1 249 5)) = (if s 0 % s 1 < s 2 then 1 else 0, puN M s (nI 0)) := by
    unfold f_X9_isLowTide
    rw [pn_1, puN_g, px_low _ _ _ (hb _) (by omega) (by omega) (by omega)]
    rfl
  have q9 : q_X9_isLowTide (puN M s (M.1 249 5)) := by
    unfold q_X9_isLowTide
    rw [pn_1]
    exact ⟨px_qlow _ _ _ (by omega) (by omega), trivial⟩
  rw [eM] at e9 q9
  have e8 : f_X8_isLowTide (puC M 1 (pV M 1) (pL M 1)) = if s 0 % s 1 < s 2 then 1 else 0 := by
    unfold f_X8_isLowTide
    rw [pc_isLow M 1 _ c04 c10 c11 (hb _) (by omega) (by omega) (by omega)]
  rw [pc_self hJ] at e8
  unfold lq_10 lm_10
  rw [e8, e9]
  exact ⟨⟨q9, rfl, trivial⟩, pJ_q hJ hr hB rfl (fun _ _ => rfl) _⟩
theorem pc_28 {B : Nat} {M : tvM} (h : pJ B M M) (hB : B ≤ 10000000) (a1 a2 a3 : Int32) : lq_28 M a1 a2 a3 ∧ pJ B (lm_28 M a1 a2 a3) (lm_28 M a1 a2 a3) := by
  obtain ⟨s, x, n, hJ, hr⟩ := h
  have eM : puN M s (M.1 249 5) = M := puN_self hJ.1 rfl
  obtain ⟨q9, e9⟩ := px_total hJ.2.1 M (M.1 249 5)
  rw [eM] at e9 q9
  have e8 : f_X8_totalValue (puC M 1 (pV M 1) (pL M 1)) = lN (pSu s) := pc_sumAll hJ.2.1 M 1
  rw [pc_self hJ] at e8
  unfold lq_28 lm_28
  rw [e8, e9]
  exact ⟨⟨q9, lg_self _, trivial⟩, pJ_q hJ hr hB rfl (fun _ _ => rfl) _⟩
theorem pc_29 {B : Nat} {M : tvM} (h : pJ B M M) (hB : B ≤ 10000000) (a1 a2 a3 : Int32) : lq_29 M a1 a2 a3 ∧ pJ B (lm_29 M a1 a2 a3) (lm_29 M a1 a2 a3) := by
  obtain ⟨s, x, n, hJ, hr⟩ := h
  have hR := hJ.2.1
  obtain ⟨⟨hb, hs, hh, hx, he, hsum⟩, ⟨hc, hch, hcx, hcl⟩⟩ := id hR
  have hs' := hs
  obtain ⟨s0, s1, s2, s3, s45, s67, s8, s9, s10, s11, sB⟩ := hs
  have hc' := hc
  obtain ⟨c04, c05, c06, c07, cl, c10, c11, c20, c60⟩ := hc
  have eM : puN M s (M.1 249 5) = M := puN_self hJ.1 rfl
  have e9 := px_ledger hJ.2.1 M (M.1 249 5)
  rw [eM] at e9
  have e8 : f_X8_totalValueByLedger (puC M 1 (pV M 1) (pL M 1)) = lN (pSu s) := by
    unfold f_X8_totalValueByLedger
    rw [puC_l, cl, show s 6 - s 7 = pSu s by omega]
  rw [pc_self hJ] at e8
  unfold lq_29 lm_29
  rw [e8, e9]
  exact ⟨⟨lg_self _, trivial⟩, pJ_q hJ hr hB rfl (fun _ _ => rfl) _⟩
/-! the mean -/
def pPs (s : Nat → Nat) : Nat := psm (fun i => s (36 + 13 * i + 7)) (s 10)
theorem pPs_le {B : Nat} {c : Nat → Nat → Int32} {l : Int64} {s : Nat → Nat} (hR : pOk B c l s) : pPs s ≤ 50 ∧ pSu s ≤ 4950 := by
  obtain ⟨⟨hb, hs, hh, hx, he, hsum⟩, ⟨hc, hch, hcx, hcl⟩⟩ := id hR
  have hs' := hs
  obtain ⟨s0, s1, s2, s3, s45, s67, s8, s9, s10, s11, sB⟩ := hs
  have hc' := hc
  obtain ⟨c04, c05, c06, c07, cl, c10, c11, c20, c60⟩ := hc
  have h1 := psm_le (f := fun i => s (36 + 13 * i + 7)) (n := s 10) (m := 5) (fun i hi => (hx i (by omega)).2.2.2.2.1)
  have h2 := psm_le (f := pWo s) (n := s 10) (m := 495) (fun i hi => pWo_le hR (by omega))
  unfold pPs pSu
  omega
theorem px_mean {B : Nat} {c : Nat → Nat → Int32} {l : Int64} {s : Nat → Nat} (hR : pOk B c l s) (M' : tvM) (t : Int32) : q_X9_meanValue (puN M' s t) ∧ f_X9_meanValue (puN M' s t) = (if pPs s = 0 then (FP.dconst0, puN M' s (nI 1)) else (FP.ddiv (FP.i2d (nI (pSu s))) (FP.i2d (nI (pPs s))), puN M' s (nI 0))) := by
  have hle := pPs_le hR
  obtain ⟨⟨hb, hs, hh, hx, he, hsum⟩, ⟨hc, hch, hcx, hcl⟩⟩ := id hR
  have hs' := hs
  obtain ⟨s0, s1, s2, s3, s45, s67, s8, s9, s10, s11, sB⟩ := hs
  have hc' := hc
  obtain ⟨c04, c05, c06, c07, cl, c10, c11, c20, c60⟩ := hc
  have he' : e_X9_meanValue (puN M' s t) = .inl (nI (psm (fun i => s (36 + 13 * i + 7)) 0), nI (psm (pWo s) 0), nI 0, puN M' s t) := rfl
  have e7 : ∀ i, i < 10 → f_X9_of (puN M' s t) (nI i) 7 = nI (s (36 + 13 * i + 7)) := fun i hi => px_of M' s t (w := 7) hi (by omega)
  have lp := pFor s_X9_meanValue qs_X9_meanValue (fun i => (nI (psm (fun i => s (36 + 13 * i + 7)) i), nI (psm (pWo s) i), nI i, puN M' s t)) (s 10) (if pPs s = 0 then (FP.dconst0, puN M' s (nI 1)) else (FP.ddiv (FP.i2d (nI (pSu s))) (FP.i2d (nI (pPs s))), puN M' s (nI 0))) (fun i hi => by
    unfold s_X9_meanValue sb_X9_meanValue
    simp only []
    rw [puN_g, if_neg (by rw [pn_le (by omega) (by omega)]; omega), e7 i (by omega), (px_worth hR M' t (i := i) (by omega)).2, nI_add, nI_add, nI_1]
    rfl) (fun i hi => by
    unfold qs_X9_meanValue qb_X9_meanValue
    simp only []
    rw [puN_g]
    refine ⟨fun hn => ⟨fun _ => trivial, fun h0 => ⟨?_, trivial⟩⟩, fun hn => ?_⟩
    · rw [pn_le (by omega) (by omega)] at hn
      have : i = s 10 := by omega
      subst this
      refine (pMean (a := pSu s) (b := pPs s) (by omega) (by omega) fun e => h0 ?_).1
      show nI (pPs s) = 0
      rw [e]; rfl
    · rw [pn_le (by omega) (by omega)] at hn
      exact ⟨px_qof _ (w := 7) (by omega) (by omega), (px_worth hR M' t (i := i) (by omega)).1, trivial⟩) (by
    unfold s_X9_meanValue sb_X9_meanValue
    simp only []
    rw [puN_g, if_pos (by rw [pn_le (by omega) (by omega)]; omega), px_thr, px_thrn]
    by_cases q : pPs s = 0
    · rw [if_pos (show nI (psm (fun i => s (36 + 13 * i + 7)) (s 10)) = 0 from by show nI (pPs s) = 0; rw [q]; rfl), if_pos q, show (tpi (puN M' s t) 249 5 1) = puN M' s (nI 1) from puN_pt _ _ _ _]
    · rw [if_neg (show ¬ nI (psm (fun i => s (36 + 13 * i + 7)) (s 10)) = 0 from by show ¬ nI (pPs s) = 0; rw [pl_0, pn_eq (by omega) (by omega)]; exact q), if_neg q, show (tpi (puN M' s t) 249 5 0) = puN M' s (nI 0) from puN_pt _ _ _ _]
      rfl) 5000 (by omega)
  rw [← he'] at lp
  exact ⟨⟨trivial, ⟨_, lp.1⟩, lp.2⟩, pGet lp.1⟩
theorem pc_30 {B : Nat} {M : tvM} (h : pJ B M M) (hB : B ≤ 10000000) (a1 a2 a3 : Int32) : lq_30 M a1 a2 a3 ∧ pJ B (lm_30 M a1 a2 a3) (lm_30 M a1 a2 a3) := by
  obtain ⟨s, x, n, hJ, hr⟩ := h
  have hle := pPs_le hJ.2.1
  have ep : f_X0_pearlsInAll (puC M 1 (pV M 1) (pL M 1)) 1 = nI (pPs s) := pc_pearlsAll hJ.2.1 M 1
  have es : f_X0_sumOfAll (puC M 1 (pV M 1) (pL M 1)) 1 = lN (pSu s) := pc_sumAll hJ.2.1 M 1
  rw [pc_self hJ] at ep es
  by_cases q : pPs s = 0
  · have e8 : f_X8_meanValue M = (some "java/lang/ArithmeticException", 0, M) := by
      unfold f_X8_meanValue
      rw [ep, if_pos (by rw [q]; rfl)]
    have eL : f_L_meanValue M = (1, M) := by
      unfold f_L_meanValue
      rw [e8]
      rfl
    obtain ⟨q9, e9⟩ := px_mean hJ.2.1 M (M.1 249 5)
    rw [puN_self hJ.1 rfl] at q9 e9
    rw [if_pos q] at e9
    unfold lq_30 lm_30
    rw [eL]
    dsimp only
    rw [e9]
    refine ⟨⟨⟨fun e he => ?_, fun h0 => absurd (by rw [ep, q]; rfl) h0, trivial⟩, q9, puN_t _ _ _, fun n0 => absurd n0 (by decide), trivial⟩, pJ_q hJ hr hB rfl (fun _ _ => rfl) _⟩
    rw [e8] at he
    exact (Option.some.inj he).symm
  · have e8 : f_X8_meanValue M = (none, FP.ddiv (FP.i2d (nI (pSu s))) (FP.i2d (nI (pPs s))), M) := by
      unfold f_X8_meanValue
      rw [ep, if_neg (by rw [pl_0, pn_eq (by omega) (by omega)]; exact q), es, (pi2d (by omega)).2]
    have eL : f_L_meanValue M = (0, tpd M 258 0 (FP.ddiv (FP.i2d (nI (pSu s))) (FP.i2d (nI (pPs s))))) := by
      unfold f_L_meanValue
      rw [e8]
      rfl
    obtain ⟨v1, v2⟩ := pMean (a := pSu s) (b := pPs s) (by omega) (by omega) q
    obtain ⟨v, hv⟩ : ∃ z, z = FP.ddiv (FP.i2d (nI (pSu s))) (FP.i2d (nI (pPs s))) := ⟨_, rfl⟩
    rw [← hv] at e8 eL v1 v2
    obtain ⟨q9, e9⟩ := px_mean hJ.2.1 (tpd M 258 0 v) (M.1 249 5)
    rw [show puN (tpd M 258 0 v) s (M.1 249 5) = tpd M 258 0 v from puN_self (M := tpd M 258 0 v) hJ.1 rfl] at q9 e9
    rw [if_neg q, ← hv] at e9
    unfold lq_30 lm_30
    rw [eL]
    dsimp only
    rw [e9]
    refine ⟨⟨⟨fun e he => ?_, fun _ => ?_, trivial⟩, q9, puN_t _ _ _, fun n0 => ?_, trivial⟩, pJ_q hJ hr hB rfl (fun _ _ => rfl) _⟩
    · rw [e8] at he
      exact absurd he (by simp)
    · rw [es, ep, (pi2d (by omega)).2, ← hv]
      exact v1
    · rw [show tgd (puN (tpd M 258 0 v) s (nI 0)) 258 0 = v from tpd_s M 258 0 v]
      dsimp only
      rw [v2]
      rfl
theorem pc_31 {B : Nat} {M : tvM} (h : pJ B M M) (hB : B ≤ 10000000) (a1 a2 a3 : Int32) : lq_31 M a1 a2 a3 ∧ pJ B (lm_31 M a1 a2 a3) (lm_31 M a1 a2 a3) := by
  obtain ⟨s, x, n, hJ, hr⟩ := h
  have hR := hJ.2.1
  obtain ⟨⟨hb, hs, hh, hx, he, hsum⟩, ⟨hc, hch, hcx, hcl⟩⟩ := id hR
  have hs' := hs
  obtain ⟨s0, s1, s2, s3, s45, s67, s8, s9, s10, s11, sB⟩ := hs
  have hc' := hc
  obtain ⟨c04, c05, c06, c07, cl, c10, c11, c20, c60⟩ := hc
  have e6 : tgi (puC M 1 (pV M 1) (pL M 1)) 1 6 = nI (s 4) := by rw [puC_g0]; exact c06
  have e7 : tgi (puC M 1 (pV M 1) (pL M 1)) 1 7 = nI (s 5) := by rw [puC_g0]; exact c07
  rw [pc_self hJ] at e6 e7
  have m4 : ∀ M' : tvM, M'.1 = M.1 → tgi M' 250 4 = nI (s 4) := fun M' e => by show M'.1 250 4 = _; rw [e]; exact hJ.1 4
  by_cases q : s 4 = 0
  · have e8 : f_X8_failureRate M = (some "java/lang/ArithmeticException", 0, M) := by
      unfold f_X8_failureRate
      rw [e6, if_pos (by rw [q]; rfl)]
    have eL : f_L_failureRate M = (1, M) := by
      unfold f_L_failureRate
      rw [e8]
      rfl
    have e9 : f_X9_failureRate M = (FP.fconst0, puN M s (nI 1)) := by
      unfold f_X9_failureRate
      rw [m4 M rfl, if_pos (by rw [q]; rfl), px_thrn]
      have := puN_pt M s (M.1 249 5) 1
      rw [puN_self hJ.1 rfl] at this
      rw [this]
      rfl
    unfold lq_31 lm_31
    rw [eL]
    dsimp only
    rw [e9]
    refine ⟨⟨⟨fun e he => ?_, fun h0 => absurd (by rw [e6, q]; rfl) h0, fun h0 => ?_, trivial⟩, ⟨fun _ => trivial, fun h0 => absurd (by rw [m4 M rfl, q]; rfl) h0⟩, puN_t _ _ _, fun n0 => absurd n0 (by decide), fun n0 => absurd n0 (by decide), trivial⟩, pJ_q hJ hr hB rfl (fun _ _ => rfl) _⟩
    · rw [e8] at he
      exact (Option.some.inj he).symm
    · rw [e8] at h0
      exact absurd h0 (by simp)
  · obtain ⟨v1, v2, v3⟩ := pRate (a := s 5) (b := s 4) (by omega) (by omega) q
    obtain ⟨v, hv⟩ : ∃ z, z = FP.fdiv (FP.i2f (nI (s 5))) (FP.i2f (nI (s 4))) := ⟨_, rfl⟩
    rw [← hv] at v1 v2 v3
    have e8 : f_X8_failureRate M = (none, v, M) := by
      unfold f_X8_failureRate
      rw [e6, if_neg (by rw [pl_0, pn_eq (by omega) (by omega)]; exact q), e7, ← hv]
    have eL : f_L_failureRate M = (0, tpd M 258 0 (FP.f2d v)) := by
      unfold f_L_failureRate
      rw [e8]
      rfl
    have h5 : ∀ M' : tvM, M'.1 = M.1 → tgi (tpi M' 249 5 0) 250 5 = nI (s 5) ∧ tgi (tpi M' 249 5 0) 250 4 = nI (s 4) := fun M' e => ⟨(tpi_o M' 0 5 (by omega)).trans (by rw [e]; exact hJ.1 5), (tpi_o M' 0 4 (by omega)).trans (by rw [e]; exact hJ.1 4)⟩
    have e9 : f_X9_failureRate (tpd M 258 0 (FP.f2d v)) = (v, puN (tpd M 258 0 (FP.f2d v)) s (nI 0)) := by
      unfold f_X9_failureRate
      rw [m4 (tpd M 258 0 (FP.f2d v)) rfl, if_neg (by rw [pl_0, pn_eq (by omega) (by omega)]; exact q), px_thr, (h5 (tpd M 258 0 (FP.f2d v)) rfl).1, (h5 (tpd M 258 0 (FP.f2d v)) rfl).2, ← hv]
      have := puN_pt (tpd M 258 0 (FP.f2d v)) s (M.1 249 5) 0
      rw [show puN (tpd M 258 0 (FP.f2d v)) s (M.1 249 5) = tpd M 258 0 (FP.f2d v) from puN_self (M := tpd M 258 0 (FP.f2d v)) hJ.1 rfl] at this
      rw [this]
      rfl
    have q9 : q_X9_failureRate (tpd M 258 0 (FP.f2d v)) := by
      refine ⟨fun _ => trivial, fun _ => ⟨?_, trivial⟩⟩
      rw [px_thr, (h5 (tpd M 258 0 (FP.f2d v)) rfl).1, (h5 (tpd M 258 0 (FP.f2d v)) rfl).2, ← hv]
      exact v1
    unfold lq_31 lm_31
    rw [eL]
    dsimp only
    rw [e9]
    refine ⟨⟨⟨fun e he => ?_, fun _ => ?_, fun _ => ?_, trivial⟩, q9, puN_t _ _ _, fun _ => v2, fun n0 => ?_, trivial⟩, pJ_q hJ hr hB rfl (fun _ _ => rfl) _⟩
    · rw [e8] at he
      exact absurd he (by simp)
    · rw [e7, e6, ← hv]
      exact v1
    · rw [e8]
      exact v2
    · rw [show tgd (puN (tpd M 258 0 (FP.f2d v)) s (nI 0)) 258 0 = FP.f2d v from tpd_s M 258 0 (FP.f2d v)]
      dsimp only
      rw [v3]
      rfl

