theorem lg_self (x : Int64) : lg_cmp x x = 0 := by
  unfold lg_cmp
  rw [if_neg (Int64.lt_irrefl), if_pos rfl]
theorem tpl_s (M : tvM) (a k : Nat) (v : Int64) : (tpl M a k v).2.1 a k = v := by
  show tvU M.2.1 a k v a k = v
  rw [tvU_row, if_pos rfl]
theorem pRef_0 (M : tvM) : f_X8_refuse M 0 = (none, M) := by unfold f_X8_refuse; simp
theorem pEnds0 {K M2 : tvM} {v : Int32} (h : tgi K 249 5 = 0) (r : f_X9_remembers K = M2) : f_X9_ends K v = (v, M2) := by unfold f_X9_ends; rw [if_pos h, r]
theorem pEnds1 {K : tvM} {v : Int32} (h : tgi K 249 5 ≠ 0) : f_X9_ends K v = (0, K) := by unfold f_X9_ends; rw [if_neg h]
theorem pQEnds0 {K : tvM} {v : Int32} (h : tgi K 249 5 = 0) (r : q_X9_remembers K) : q_X9_ends K v := ⟨fun _ => ⟨r, trivial⟩, fun n => absurd h n⟩
theorem pQEnds1 {K : tvM} {v : Int32} (h : tgi K 249 5 ≠ 0) : q_X9_ends K v := ⟨fun n => absurd n h, fun _ => trivial⟩
theorem pTold0 {K M2 : tvM} {v : Int32} (h : tgi K 249 5 = 0) (r : f_X9_remembers K = M2) (h2 : tgi M2 249 5 = 0) : f_X9_endsTold K v = (v, M2) := by unfold f_X9_endsTold; rw [if_pos h, r, if_pos h2]
theorem pTold4 {K M2 : tvM} {v : Int32} (h : tgi K 249 5 = 4) (r : f_X9_remembers K = M2) (h2 : tgi M2 249 5 = 4) : f_X9_endsTold K v = (0, M2) := by
  unfold f_X9_endsTold
  rw [if_neg (by rw [h]; decide), if_pos h, r, if_neg (by rw [h2]; decide)]
theorem pTold1 {K : tvM} {v : Int32} (h : tgi K 249 5 ≠ 0) (h4 : tgi K 249 5 ≠ 4) : f_X9_endsTold K v = (0, K) := by unfold f_X9_endsTold; rw [if_neg h, if_neg h4]
theorem pQTold0 {K : tvM} {v : Int32} (h : tgi K 249 5 = 0) (r : q_X9_remembers K) : q_X9_endsTold K v := ⟨fun _ => ⟨r, fun _ => trivial, fun _ => trivial⟩, fun n => absurd h n⟩
theorem pQTold4 {K : tvM} {v : Int32} (h : tgi K 249 5 = 4) (r : q_X9_remembers K) : q_X9_endsTold K v := ⟨fun n => absurd n (by rw [h]; decide), fun _ => ⟨fun _ => ⟨r, fun _ => trivial, fun _ => trivial⟩, fun n => absurd h n⟩⟩
theorem pQTold1 {K : tvM} {v : Int32} (h : tgi K 249 5 ≠ 0) (h4 : tgi K 249 5 ≠ 4) : q_X9_endsTold K v := ⟨fun n => absurd n h, fun _ => ⟨fun n => absurd n h4, fun _ => trivial⟩⟩
theorem pHc0 (M : tvM) (x : Int32) : f_X8_hearCode M 0 x = (none, f_X1_keep M) := by unfold f_X8_hearCode; simp
theorem pHc4 (M : tvM) (x : Int32) : f_X8_hearCode M 4 x = (some "java/lang/UnsupportedOperationException", f_X6_hearWrongCode (f_X1_keep M) 1 x) := by unfold f_X8_hearCode f_X8_refuse; simp

theorem pRef_1 (M : tvM) : f_X8_refuse M 1 = (some "java/lang/IndexOutOfBoundsException", M) := by unfold f_X8_refuse; simp
theorem pRef_2 (M : tvM) : f_X8_refuse M 2 = (some "java/lang/IllegalArgumentException", M) := by unfold f_X8_refuse; simp
theorem pRef_3 (M : tvM) : f_X8_refuse M 3 = (some "java/lang/IllegalStateException", M) := by unfold f_X8_refuse; simp
theorem pRef_5 (M : tvM) : f_X8_refuse M 5 = (some "java/util/NoSuchElementException", M) := by unfold f_X8_refuse; simp
theorem pHc1 (M : tvM) (x : Int32) : f_X8_hearCode M 1 x = (some "java/lang/IndexOutOfBoundsException", M) := by unfold f_X8_hearCode f_X8_refuse; simp
theorem pHc2 (M : tvM) (x : Int32) : f_X8_hearCode M 2 x = (some "java/lang/IllegalArgumentException", M) := by unfold f_X8_hearCode f_X8_refuse; simp
theorem pHc3 (M : tvM) (x : Int32) : f_X8_hearCode M 3 x = (some "java/lang/IllegalStateException", M) := by unfold f_X8_hearCode f_X8_refuse; simp
theorem pNo4_addHolder (M : tvM) (a1 : Int32) : f_X6_refusalOfHolder M 1 a1 ≠ 4 := by
  unfold f_X6_refusalOfHolder
  repeat' split
  all_goals decide
theorem pc_0 {B : Nat} {M : tvM} (h : pJ B M M) (hB : B + 240 ≤ 10000000) (a1 a2 a3 : Int32) : lq_0 M a1 a2 a3 ∧ pJ (B + 240) (lm_0 M a1 a2 a3) (lm_0 M a1 a2 a3) := by
  obtain ⟨s, x, n, hJ, hr⟩ := h
  rcases pCall hJ hr hB (pSim_holds 1 hJ.2.1 hB a1) (by decide) with ⟨a, v, M1, hv, b, c, c2, d⟩ | ⟨p, hp, a, d⟩ | ⟨a, M1, b, c, c2, d⟩
  · have hM : pMr M1 (tpl M1 257 0 (nI v).toInt64) := fun _ _ _ => rfl
    have e8 : f_X8_addHolder M a1 = (none, nI v, M1) := by
      unfold f_X8_addHolder
      rw [show f_X6_refusalOfHolder M 1 a1 = 0 from a, pRef_0]
      dsimp only
      rw [if_pos rfl, show f_X2_add (f_X1_keep M) 1 a1 = (nI v, M1) from b]
    have eL : f_L_addHolder M a1 = (0, (tpl M1 257 0 (nI v).toInt64)) := by
      unfold f_L_addHolder
      rw [e8]
      rfl
    obtain ⟨q, K, M2, k1, k2, k3, k4, k5, k6⟩ := d _ hM
    have k1' : f_X9_holds (f_X9_keeps (tpl M1 257 0 (nI v).toInt64)) a1 = (nI v, K) := k1
    have e9 : f_X9_addHolder (tpl M1 257 0 (nI v).toInt64) a1 = (nI v, M2) := by
      unfold f_X9_addHolder
      rw [k1']
      dsimp only
      rw [pEnds0 k2 k4]
    have q9 : q_X9_addHolder (tpl M1 257 0 (nI v).toInt64) a1 := by
      unfold q_X9_addHolder
      rw [k1']
      exact ⟨q, pQEnds0 k2 k3, trivial⟩
    unfold lq_0 lm_0
    rw [eL]
    dsimp only
    rw [e9]
    dsimp only
    refine ⟨⟨⟨fun e he => ?_, trivial⟩, q9, k5, fun _ => ?_, trivial⟩, k6.fin (by omega) ⟨fun _ _ => rfl, fun a ha => ?_⟩⟩
    · rw [e8] at he
      exact absurd he (by simp)
    · rw [show tgl M2 257 0 = (nI v).toInt64 from by show M2.2.1 257 0 = _; rw [k6.1]; exact tpl_s _ _ _ _]
      exact lg_self _
    · exact tvU_ne _ _ _ (by omega)
  · simp only [List.mem_cons, List.not_mem_nil, or_false] at hp
    obtain ⟨q, M2, k1, k2, k3⟩ := d M (pMr.refl M)
    have k1' : f_X9_holds (f_X9_keeps M) a1 = (nI 0, M2) := k1
    rcases hp with rfl | rfl
    · have e8 : f_X8_addHolder M a1 = (some "java/lang/IllegalArgumentException", 0, M) := by
        unfold f_X8_addHolder
        rw [show f_X6_refusalOfHolder M 1 a1 = 2 from a, pRef_2]
        simp
      have eL : f_L_addHolder M a1 = (1, M) := by
        unfold f_L_addHolder
        rw [e8]
        simp
      have e9 : f_X9_addHolder M a1 = (0, M2) := by
        unfold f_X9_addHolder
        rw [k1']
        dsimp only
        rw [pEnds1 (by rw [k2]; decide)]
        first | done | rfl
      have q9 : q_X9_addHolder M a1 := by
        unfold q_X9_addHolder
        rw [k1']
        exact ⟨q, pQEnds1 (by rw [k2]; decide), trivial⟩
      unfold lq_0 lm_0
      rw [eL]
      dsimp only
      rw [e9]
      refine ⟨⟨⟨fun e he => ?_, trivial⟩, q9, k2, fun n0 => absurd n0 (by simp), trivial⟩, k3.fin (by omega) ⟨fun _ _ => rfl, fun _ _ => rfl⟩⟩
      rw [e8] at he
      have he' := Option.some.inj he
      subst he'
      simp
    · have e8 : f_X8_addHolder M a1 = (some "java/lang/IllegalStateException", 0, M) := by
        unfold f_X8_addHolder
        rw [show f_X6_refusalOfHolder M 1 a1 = 3 from a, pRef_3]
        simp
      have eL : f_L_addHolder M a1 = (2, M) := by
        unfold f_L_addHolder
        rw [e8]
        simp
      have e9 : f_X9_addHolder M a1 = (0, M2) := by
        unfold f_X9_addHolder
        rw [k1']
        dsimp only
        rw [pEnds1 (by rw [k2]; decide)]
        first | done | rfl
      have q9 : q_X9_addHolder M a1 := by
        unfold q_X9_addHolder
        rw [k1']
        exact ⟨q, pQEnds1 (by rw [k2]; decide), trivial⟩
      unfold lq_0 lm_0
      rw [eL]
      dsimp only
      rw [e9]
      refine ⟨⟨⟨fun e he => ?_, trivial⟩, q9, k2, fun n0 => absurd n0 (by simp), trivial⟩, k3.fin (by omega) ⟨fun _ _ => rfl, fun _ _ => rfl⟩⟩
      rw [e8] at he
      have he' := Option.some.inj he
      subst he'
      simp
  · exact absurd a (pNo4_addHolder M a1)

theorem pNo4_addBox (M : tvM) (a1 a2 a3 : Int32) : f_X6_refusalOfBox M 1 a1 a2 a3 ≠ 4 := by
  unfold f_X6_refusalOfBox
  repeat' split
  all_goals decide
theorem pc_1 {B : Nat} {M : tvM} (h : pJ B M M) (hB : B + 240 ≤ 10000000) (a1 a2 a3 : Int32) : lq_1 M a1 a2 a3 ∧ pJ (B + 240) (lm_1 M a1 a2 a3) (lm_1 M a1 a2 a3) := by
  obtain ⟨s, x, n, hJ, hr⟩ := h
  rcases pCall hJ hr hB (pSim_boxed 1 hJ.2.1 hB a1 a2 a3) (by decide) with ⟨a, v, M1, hv, b, c, c2, d⟩ | ⟨p, hp, a, d⟩ | ⟨a, M1, b, c, c2, d⟩
  · have hM : pMr M1 (tpl M1 257 0 (nI v).toInt64) := fun _ _ _ => rfl
    have e8 : f_X8_addBox M a1 a2 a3 = (none, nI v, M1) := by
      unfold f_X8_addBox
      rw [show f_X6_refusalOfBox M 1 a1 a2 a3 = 0 from a, pRef_0]
      dsimp only
      rw [if_pos rfl, show f_X0_add (f_X1_keep M) 1 a1 a2 a3 = (nI v, M1) from b]
    have eL : f_L_addBox M a1 a2 a3 = (0, (tpl M1 257 0 (nI v).toInt64)) := by
      unfold f_L_addBox
      rw [e8]
      rfl
    obtain ⟨q, K, M2, k1, k2, k3, k4, k5, k6⟩ := d _ hM
    have k1' : f_X9_boxed (f_X9_keeps (tpl M1 257 0 (nI v).toInt64)) a1 a2 a3 = (nI v, K) := k1
    have e9 : f_X9_addBox (tpl M1 257 0 (nI v).toInt64) a1 a2 a3 = (nI v, M2) := by
      unfold f_X9_addBox
      rw [k1']
      dsimp only
      rw [pEnds0 k2 k4]
    have q9 : q_X9_addBox (tpl M1 257 0 (nI v).toInt64) a1 a2 a3 := by
      unfold q_X9_addBox
      rw [k1']
      exact ⟨q, pQEnds0 k2 k3, trivial⟩
    unfold lq_1 lm_1
    rw [eL]
    dsimp only
    rw [e9]
    dsimp only
    refine ⟨⟨⟨fun e he => ?_, trivial⟩, q9, k5, fun _ => ?_, trivial⟩, k6.fin (by omega) ⟨fun _ _ => rfl, fun a ha => ?_⟩⟩
    · rw [e8] at he
      exact absurd he (by simp)
    · rw [show tgl M2 257 0 = (nI v).toInt64 from by show M2.2.1 257 0 = _; rw [k6.1]; exact tpl_s _ _ _ _]
      exact lg_self _
    · exact tvU_ne _ _ _ (by omega)
  · simp only [List.mem_cons, List.not_mem_nil, or_false] at hp
    obtain ⟨q, M2, k1, k2, k3⟩ := d M (pMr.refl M)
    have k1' : f_X9_boxed (f_X9_keeps M) a1 a2 a3 = (nI 0, M2) := k1
    rcases hp with rfl | rfl | rfl
    · have e8 : f_X8_addBox M a1 a2 a3 = (some "java/lang/IndexOutOfBoundsException", 0, M) := by
        unfold f_X8_addBox
        rw [show f_X6_refusalOfBox M 1 a1 a2 a3 = 1 from a, pRef_1]
        simp
      have eL : f_L_addBox M a1 a2 a3 = (1, M) := by
        unfold f_L_addBox
        rw [e8]
        simp
      have e9 : f_X9_addBox M a1 a2 a3 = (0, M2) := by
        unfold f_X9_addBox
        rw [k1']
        dsimp only
        rw [pEnds1 (by rw [k2]; decide)]
        first | done | rfl
      have q9 : q_X9_addBox M a1 a2 a3 := by
        unfold q_X9_addBox
        rw [k1']
        exact ⟨q, pQEnds1 (by rw [k2]; decide), trivial⟩
      unfold lq_1 lm_1
      rw [eL]
      dsimp only
      rw [e9]
      refine ⟨⟨⟨fun e he => ?_, trivial⟩, q9, k2, fun n0 => absurd n0 (by simp), trivial⟩, k3.fin (by omega) ⟨fun _ _ => rfl, fun _ _ => rfl⟩⟩
      rw [e8] at he
      have he' := Option.some.inj he
      subst he'
      simp
    · have e8 : f_X8_addBox M a1 a2 a3 = (some "java/lang/IllegalArgumentException", 0, M) := by
        unfold f_X8_addBox
        rw [show f_X6_refusalOfBox M 1 a1 a2 a3 = 2 from a, pRef_2]
        simp
      have eL : f_L_addBox M a1 a2 a3 = (2, M) := by
        unfold f_L_addBox
        rw [e8]
        simp
      have e9 : f_X9_addBox M a1 a2 a3 = (0, M2) := by
        unfold f_X9_addBox
        rw [k1']
        dsimp only
        rw [pEnds1 (by rw [k2]; decide)]
        first | done | rfl
      have q9 : q_X9_addBox M a1 a2 a3 := by
        unfold q_X9_addBox
        rw [k1']
        exact ⟨q, pQEnds1 (by rw [k2]; decide), trivial⟩
      unfold lq_1 lm_1
      rw [eL]
      dsimp only
      rw [e9]
      refine ⟨⟨⟨fun e he => ?_, trivial⟩, q9, k2, fun n0 => absurd n0 (by simp), trivial⟩, k3.fin (by omega) ⟨fun _ _ => rfl, fun _ _ => rfl⟩⟩
      rw [e8] at he
      have he' := Option.some.inj he
      subst he'
      simp
    · have e8 : f_X8_addBox M a1 a2 a3 = (some "java/lang/IllegalStateException", 0, M) := by
        unfold f_X8_addBox
        rw [show f_X6_refusalOfBox M 1 a1 a2 a3 = 3 from a, pRef_3]
        simp
      have eL : f_L_addBox M a1 a2 a3 = (3, M) := by
        unfold f_L_addBox
        rw [e8]
        simp
      have e9 : f_X9_addBox M a1 a2 a3 = (0, M2) := by
        unfold f_X9_addBox
        rw [k1']
        dsimp only
        rw [pEnds1 (by rw [k2]; decide)]
        first | done | rfl
      have q9 : q_X9_addBox M a1 a2 a3 := by
        unfold q_X9_addBox
        rw [k1']
        exact ⟨q, pQEnds1 (by rw [k2]; decide), trivial⟩
      unfold lq_1 lm_1
      rw [eL]
      dsimp only
      rw [e9]
      refine ⟨⟨⟨fun e he => ?_, trivial⟩, q9, k2, fun n0 => absurd n0 (by simp), trivial⟩, k3.fin (by omega) ⟨fun _ _ => rfl, fun _ _ => rfl⟩⟩
      rw [e8] at he
      have he' := Option.some.inj he
      subst he'
      simp
  · exact absurd a (pNo4_addBox M a1 a2 a3)

theorem pNo4_setTide (M : tvM) (a1 a2 : Int32) : f_X6_refusalOfTide M 1 a1 a2 ≠ 4 := by
  unfold f_X6_refusalOfTide
  repeat' split
  all_goals decide
theorem pc_2 {B : Nat} {M : tvM} (h : pJ B M M) (hB : B + 240 ≤ 10000000) (a1 a2 a3 : Int32) : lq_2 M a1 a2 a3 ∧ pJ (B + 240) (lm_2 M a1 a2 a3) (lm_2 M a1 a2 a3) := by
  obtain ⟨s, x, n, hJ, hr⟩ := h
  rcases pCall hJ hr hB (pSim_tides 1 hJ.2.1 hB a1 a2) (by decide) with ⟨a, v, M1, hv, b, c, c2, d⟩ | ⟨p, hp, a, d⟩ | ⟨a, M1, b, c, c2, d⟩
  · have hM : pMr M1 (tpl M1 257 0 (nI v).toInt64) := fun _ _ _ => rfl
    have e8 : f_X8_setTide M a1 a2 = (none, nI v, M1) := by
      unfold f_X8_setTide
      rw [show f_X6_refusalOfTide M 1 a1 a2 = 0 from a, pRef_0]
      dsimp only
      rw [if_pos rfl, show f_X7_become (f_X1_keep M) 1 a1 a2 = (nI v, M1) from b]
    have eL : f_L_setTide M a1 a2 = (0, (tpl M1 257 0 (nI v).toInt64)) := by
      unfold f_L_setTide
      rw [e8]
      rfl
    obtain ⟨q, K, M2, k1, k2, k3, k4, k5, k6⟩ := d _ hM
    have k1' : f_X9_tides (f_X9_keeps (tpl M1 257 0 (nI v).toInt64)) a1 a2 = (nI v, K) := k1
    have e9 : f_X9_setTide (tpl M1 257 0 (nI v).toInt64) a1 a2 = (nI v, M2) := by
      unfold f_X9_setTide
      rw [k1']
      dsimp only
      rw [pEnds0 k2 k4]
    have q9 : q_X9_setTide (tpl M1 257 0 (nI v).toInt64) a1 a2 := by
      unfold q_X9_setTide
      rw [k1']
      exact ⟨pQEnds0 k2 k3, trivial⟩
    unfold lq_2 lm_2
    rw [eL]
    dsimp only
    rw [e9]
    dsimp only
    refine ⟨⟨⟨fun e he => ?_, trivial⟩, q9, k5, fun _ => ?_, trivial⟩, k6.fin (by omega) ⟨fun _ _ => rfl, fun a ha => ?_⟩⟩
    · rw [e8] at he
      exact absurd he (by simp)
    · rw [show tgl M2 257 0 = (nI v).toInt64 from by show M2.2.1 257 0 = _; rw [k6.1]; exact tpl_s _ _ _ _]
      exact lg_self _
    · exact tvU_ne _ _ _ (by omega)
  · simp only [List.mem_cons, List.not_mem_nil, or_false] at hp
    obtain ⟨q, M2, k1, k2, k3⟩ := d M (pMr.refl M)
    have k1' : f_X9_tides (f_X9_keeps M) a1 a2 = (nI 0, M2) := k1
    subst hp
    · have e8 : f_X8_setTide M a1 a2 = (some "java/lang/IllegalArgumentException", 0, M) := by
        unfold f_X8_setTide
        rw [show f_X6_refusalOfTide M 1 a1 a2 = 2 from a, pRef_2]
        simp
      have eL : f_L_setTide M a1 a2 = (1, M) := by
        unfold f_L_setTide
        rw [e8]
        simp
      have e9 : f_X9_setTide M a1 a2 = (0, M2) := by
        unfold f_X9_setTide
        rw [k1']
        dsimp only
        rw [pEnds1 (by rw [k2]; decide)]
        first | done | rfl
      have q9 : q_X9_setTide M a1 a2 := by
        unfold q_X9_setTide
        rw [k1']
        exact ⟨pQEnds1 (by rw [k2]; decide), trivial⟩
      unfold lq_2 lm_2
      rw [eL]
      dsimp only
      rw [e9]
      refine ⟨⟨⟨fun e he => ?_, trivial⟩, q9, k2, fun n0 => absurd n0 (by simp), trivial⟩, k3.fin (by omega) ⟨fun _ _ => rfl, fun _ _ => rfl⟩⟩
      rw [e8] at he
      have he' := Option.some.inj he
      subst he'
      simp
  · exact absurd a (pNo4_setTide M a1 a2)

theorem pc_3 {B : Nat} {M : tvM} (h : pJ B M M) (hB : B + 240 ≤ 10000000) (a1 a2 a3 : Int32) : lq_3 M a1 a2 a3 ∧ pJ (B + 240) (lm_3 M a1 a2 a3) (lm_3 M a1 a2 a3) := by
  obtain ⟨s, x, n, hJ, hr⟩ := h
  rcases pCall hJ hr hB (pSim_turns 1 hJ.2.1 hB a1 a2 a3) (by decide) with ⟨a, v, M1, hv, b, c, c2, d⟩ | ⟨p, hp, a, d⟩ | ⟨a, M1, b, c, c2, d⟩
  · have hM : pMr M1 (tpl M1 257 0 (nI v).toInt64) := fun _ _ _ => rfl
    have e8 : f_X8_turnKey M a1 a2 a3 = (none, nI v, M1) := by
      unfold f_X8_turnKey
      rw [show f_X6_refusalOfTurn M 1 a1 a2 a3 = 0 from a, pHc0]
      dsimp only
      rw [if_pos rfl, show f_X6_turn (f_X1_keep M) 1 a1 a2 = (nI v, M1) from b]
    have eL : f_L_turnKey M a1 a2 a3 = (0, (tpl M1 257 0 (nI v).toInt64)) := by
      unfold f_L_turnKey
      rw [e8]
      rfl
    obtain ⟨q, K, M2, k1, k2, k3, k4, k5, k6⟩ := d _ hM
    have k1' : f_X9_turns (f_X9_keeps (tpl M1 257 0 (nI v).toInt64)) a1 a2 a3 = (nI v, K) := k1
    have e9 : f_X9_turnKey (tpl M1 257 0 (nI v).toInt64) a1 a2 a3 = (nI v, M2) := by
      unfold f_X9_turnKey
      rw [k1']
      dsimp only
      rw [pTold0 k2 k4 k5]
      dsimp only
      rw [pc_chr v hv]
    have q9 : q_X9_turnKey (tpl M1 257 0 (nI v).toInt64) a1 a2 a3 := by
      unfold q_X9_turnKey
      rw [k1']
      exact ⟨q, pQTold0 k2 k3, trivial⟩
    unfold lq_3 lm_3
    rw [eL]
    dsimp only
    rw [e9]
    dsimp only
    refine ⟨⟨⟨fun e he => ?_, trivial⟩, q9, k5, fun _ => ?_, trivial⟩, k6.fin (by omega) ⟨fun _ _ => rfl, fun a ha => ?_⟩⟩
    · rw [e8] at he
      exact absurd he (by simp)
    · rw [show tgl M2 257 0 = (nI v).toInt64 from by show M2.2.1 257 0 = _; rw [k6.1]; exact tpl_s _ _ _ _]
      exact lg_self _
    · exact tvU_ne _ _ _ (by omega)
  · simp only [List.mem_cons, List.not_mem_nil, or_false] at hp
    obtain ⟨q, M2, k1, k2, k3⟩ := d M (pMr.refl M)
    have k1' : f_X9_turns (f_X9_keeps M) a1 a2 a3 = (nI 0, M2) := k1
    rcases hp with rfl | rfl | rfl
    · have e8 : f_X8_turnKey M a1 a2 a3 = (some "java/lang/IndexOutOfBoundsException", 0, M) := by
        unfold f_X8_turnKey
        rw [show f_X6_refusalOfTurn M 1 a1 a2 a3 = 1 from a, pHc1]
        simp
      have eL : f_L_turnKey M a1 a2 a3 = (1, M) := by
        unfold f_L_turnKey
        rw [e8]
        simp
      have e9 : f_X9_turnKey M a1 a2 a3 = (0, M2) := by
        unfold f_X9_turnKey
        rw [k1']
        dsimp only
        rw [pTold1 (by rw [k2]; decide) (by rw [k2]; decide)]
        first | done | rfl
      have q9 : q_X9_turnKey M a1 a2 a3 := by
        unfold q_X9_turnKey
        rw [k1']
        exact ⟨q, pQTold1 (by rw [k2]; decide) (by rw [k2]; decide), trivial⟩
      unfold lq_3 lm_3
      rw [eL]
      dsimp only
      rw [e9]
      refine ⟨⟨⟨fun e he => ?_, trivial⟩, q9, k2, fun n0 => absurd n0 (by simp), trivial⟩, k3.fin (by omega) ⟨fun _ _ => rfl, fun _ _ => rfl⟩⟩
      rw [e8] at he
      have he' := Option.some.inj he
      subst he'
      simp
    · have e8 : f_X8_turnKey M a1 a2 a3 = (some "java/lang/IllegalArgumentException", 0, M) := by
        unfold f_X8_turnKey
        rw [show f_X6_refusalOfTurn M 1 a1 a2 a3 = 2 from a, pHc2]
        simp
      have eL : f_L_turnKey M a1 a2 a3 = (2, M) := by
        unfold f_L_turnKey
        rw [e8]
        simp
      have e9 : f_X9_turnKey M a1 a2 a3 = (0, M2) := by
        unfold f_X9_turnKey
        rw [k1']
        dsimp only
        rw [pTold1 (by rw [k2]; decide) (by rw [k2]; decide)]
        first | done | rfl
      have q9 : q_X9_turnKey M a1 a2 a3 := by
        unfold q_X9_turnKey
        rw [k1']
        exact ⟨q, pQTold1 (by rw [k2]; decide) (by rw [k2]; decide), trivial⟩
      unfold lq_3 lm_3
      rw [eL]
      dsimp only
      rw [e9]
      refine ⟨⟨⟨fun e he => ?_, trivial⟩, q9, k2, fun n0 => absurd n0 (by simp), trivial⟩, k3.fin (by omega) ⟨fun _ _ => rfl, fun _ _ => rfl⟩⟩
      rw [e8] at he
      have he' := Option.some.inj he
      subst he'
      simp
    · have e8 : f_X8_turnKey M a1 a2 a3 = (some "java/lang/IllegalStateException", 0, M) := by
        unfold f_X8_turnKey
        rw [show f_X6_refusalOfTurn M 1 a1 a2 a3 = 3 from a, pHc3]
        simp
      have eL : f_L_turnKey M a1 a2 a3 = (3, M) := by
        unfold f_L_turnKey
        rw [e8]
        simp
      have e9 : f_X9_turnKey M a1 a2 a3 = (0, M2) := by
        unfold f_X9_turnKey
        rw [k1']
        dsimp only
        rw [pTold1 (by rw [k2]; decide) (by rw [k2]; decide)]
        first | done | rfl
      have q9 : q_X9_turnKey M a1 a2 a3 := by
        unfold q_X9_turnKey
        rw [k1']
        exact ⟨q, pQTold1 (by rw [k2]; decide) (by rw [k2]; decide), trivial⟩
      unfold lq_3 lm_3
      rw [eL]
      dsimp only
      rw [e9]
      refine ⟨⟨⟨fun e he => ?_, trivial⟩, q9, k2, fun n0 => absurd n0 (by simp), trivial⟩, k3.fin (by omega) ⟨fun _ _ => rfl, fun _ _ => rfl⟩⟩
      rw [e8] at he
      have he' := Option.some.inj he
      subst he'
      simp
  · have b' : f_X6_hearWrongCode (f_X1_keep M) 1 a2 = M1 := b
    have e8 : f_X8_turnKey M a1 a2 a3 = (some "java/lang/UnsupportedOperationException", 0, M1) := by
      unfold f_X8_turnKey
      rw [show f_X6_refusalOfTurn M 1 a1 a2 a3 = 4 from a, pHc4, b']
      simp
    have eL : f_L_turnKey M a1 a2 a3 = (4, M1) := by
      unfold f_L_turnKey
      rw [e8]
      simp
    obtain ⟨q, K, M2, k1, k2, k3, k4, k5, k6⟩ := d M1 (pMr.refl M1)
    have k1' : f_X9_turns (f_X9_keeps M1) a1 a2 a3 = (nI 0, K) := k1
    have e9 : f_X9_turnKey M1 a1 a2 a3 = (0, M2) := by
      unfold f_X9_turnKey
      rw [k1']
      dsimp only
      rw [pTold4 k2 k4 k5]
      first | done | rfl
    have q9 : q_X9_turnKey M1 a1 a2 a3 := by
      unfold q_X9_turnKey
      rw [k1']
      exact ⟨q, pQTold4 k2 k3, trivial⟩
    unfold lq_3 lm_3
    rw [eL]
    dsimp only
    rw [e9]
    refine ⟨⟨⟨fun e he => ?_, trivial⟩, q9, k5, fun n0 => absurd n0 (by simp), trivial⟩, k6.fin (by omega) ⟨fun _ _ => rfl, fun _ _ => rfl⟩⟩
    rw [e8] at he
    have he' := Option.some.inj he
    subst he'
    simp

theorem pc_4 {B : Nat} {M : tvM} (h : pJ B M M) (hB : B + 240 ≤ 10000000) (a1 a2 a3 : Int32) : lq_4 M a1 a2 a3 ∧ pJ (B + 240) (lm_4 M a1 a2 a3) (lm_4 M a1 a2 a3) := by
  obtain ⟨s, x, n, hJ, hr⟩ := h
  rcases pCall hJ hr hB (pSim_codes 1 hJ.2.1 hB a1 a2 a3) (by decide) with ⟨a, v, M1, hv, b, c, c2, d⟩ | ⟨p, hp, a, d⟩ | ⟨a, M1, b, c, c2, d⟩
  · have hM : pMr M1 (tpl M1 257 0 (nI v).toInt64) := fun _ _ _ => rfl
    have e8 : f_X8_changeCode M a1 a2 a3 = (none, nI v, M1) := by
      unfold f_X8_changeCode
      rw [show f_X6_refusalOfCode M 1 a1 a2 a3 = 0 from a, pHc0]
      dsimp only
      rw [if_pos rfl, show f_X6_recode (f_X1_keep M) 1 a1 a3 = (nI v, M1) from b]
    have eL : f_L_changeCode M a1 a2 a3 = (0, (tpl M1 257 0 (nI v).toInt64)) := by
      unfold f_L_changeCode
      rw [e8]
      rfl
    obtain ⟨q, K, M2, k1, k2, k3, k4, k5, k6⟩ := d _ hM
    have k1' : f_X9_codes (f_X9_keeps (tpl M1 257 0 (nI v).toInt64)) a1 a2 a3 = (nI v, K) := k1
    have e9 : f_X9_changeCode (tpl M1 257 0 (nI v).toInt64) a1 a2 a3 = (nI v, M2) := by
      unfold f_X9_changeCode
      rw [k1']
      dsimp only
      rw [pTold0 k2 k4 k5]
    have q9 : q_X9_changeCode (tpl M1 257 0 (nI v).toInt64) a1 a2 a3 := by
      unfold q_X9_changeCode
      rw [k1']
      exact ⟨q, pQTold0 k2 k3, trivial⟩
    unfold lq_4 lm_4
    rw [eL]
    dsimp only
    rw [e9]
    dsimp only
    refine ⟨⟨⟨fun e he => ?_, trivial⟩, q9, k5, fun _ => ?_, trivial⟩, k6.fin (by omega) ⟨fun _ _ => rfl, fun a ha => ?_⟩⟩
    · rw [e8] at he
      exact absurd he (by simp)
    · rw [show tgl M2 257 0 = (nI v).toInt64 from by show M2.2.1 257 0 = _; rw [k6.1]; exact tpl_s _ _ _ _]
      exact lg_self _
    · exact tvU_ne _ _ _ (by omega)
  · simp only [List.mem_cons, List.not_mem_nil, or_false] at hp
    obtain ⟨q, M2, k1, k2, k3⟩ := d M (pMr.refl M)
    have k1' : f_X9_codes (f_X9_keeps M) a1 a2 a3 = (nI 0, M2) := k1
    rcases hp with rfl | rfl | rfl
    · have e8 : f_X8_changeCode M a1 a2 a3 = (some "java/lang/IndexOutOfBoundsException", 0, M) := by
        unfold f_X8_changeCode
        rw [show f_X6_refusalOfCode M 1 a1 a2 a3 = 1 from a, pHc1]
        simp
      have eL : f_L_changeCode M a1 a2 a3 = (1, M) := by
        unfold f_L_changeCode
        rw [e8]
        simp
      have e9 : f_X9_changeCode M a1 a2 a3 = (0, M2) := by
        unfold f_X9_changeCode
        rw [k1']
        dsimp only
        rw [pTold1 (by rw [k2]; decide) (by rw [k2]; decide)]
        first | done | rfl
      have q9 : q_X9_changeCode M a1 a2 a3 := by
        unfold q_X9_changeCode
        rw [k1']
        exact ⟨q, pQTold1 (by rw [k2]; decide) (by rw [k2]; decide), trivial⟩
      unfold lq_4 lm_4
      rw [eL]
      dsimp only
      rw [e9]
      refine ⟨⟨⟨fun e he => ?_, trivial⟩, q9, k2, fun n0 => absurd n0 (by simp), trivial⟩, k3.fin (by omega) ⟨fun _ _ => rfl, fun _ _ => rfl⟩⟩
      rw [e8] at he
      have he' := Option.some.inj he
      subst he'
      simp
    · have e8 : f_X8_changeCode M a1 a2 a3 = (some "java/lang/IllegalArgumentException", 0, M) := by
        unfold f_X8_changeCode
        rw [show f_X6_refusalOfCode M 1 a1 a2 a3 = 2 from a, pHc2]
        simp
      have eL : f_L_changeCode M a1 a2 a3 = (2, M) := by
        unfold f_L_changeCode
        rw [e8]
        simp
      have e9 : f_X9_changeCode M a1 a2 a3 = (0, M2) := by
        unfold f_X9_changeCode
        rw [k1']
        dsimp only
        rw [pTold1 (by rw [k2]; decide) (by rw [k2]; decide)]
        first | done | rfl
      have q9 : q_X9_changeCode M a1 a2 a3 := by
        unfold q_X9_changeCode
        rw [k1']
        exact ⟨q, pQTold1 (by rw [k2]; decide) (by rw [k2]; decide), trivial⟩
      unfold lq_4 lm_4
      rw [eL]
      dsimp only
      rw [e9]
      refine ⟨⟨⟨fun e he => ?_, trivial⟩, q9, k2, fun n0 => absurd n0 (by simp), trivial⟩, k3.fin (by omega) ⟨fun _ _ => rfl, fun _ _ => rfl⟩⟩
      rw [e8] at he
      have he' := Option.some.inj he
      subst he'
      simp
    · have e8 : f_X8_changeCode M a1 a2 a3 = (some "java/lang/IllegalStateException", 0, M) := by
        unfold f_X8_changeCode
        rw [show f_X6_refusalOfCode M 1 a1 a2 a3 = 3 from a, pHc3]
        simp
      have eL : f_L_changeCode M a1 a2 a3 = (3, M) := by
        unfold f_L_changeCode
        rw [e8]
        simp
      have e9 : f_X9_changeCode M a1 a2 a3 = (0, M2) := by
        unfold f_X9_changeCode
        rw [k1']
        dsimp only
        rw [pTold1 (by rw [k2]; decide) (by rw [k2]; decide)]
        first | done | rfl
      have q9 : q_X9_changeCode M a1 a2 a3 := by
        unfold q_X9_changeCode
        rw [k1']
        exact ⟨q, pQTold1 (by rw [k2]; decide) (by rw [k2]; decide), trivial⟩
      unfold lq_4 lm_4
      rw [eL]
      dsimp only
      rw [e9]
      refine ⟨⟨⟨fun e he => ?_, trivial⟩, q9, k2, fun n0 => absurd n0 (by simp), trivial⟩, k3.fin (by omega) ⟨fun _ _ => rfl, fun _ _ => rfl⟩⟩
      rw [e8] at he
      have he' := Option.some.inj he
      subst he'
      simp
  · have b' : f_X6_hearWrongCode (f_X1_keep M) 1 a1 = M1 := b
    have e8 : f_X8_changeCode M a1 a2 a3 = (some "java/lang/UnsupportedOperationException", 0, M1) := by
      unfold f_X8_changeCode
      rw [show f_X6_refusalOfCode M 1 a1 a2 a3 = 4 from a, pHc4, b']
      simp
    have eL : f_L_changeCode M a1 a2 a3 = (4, M1) := by
      unfold f_L_changeCode
      rw [e8]
      simp
    obtain ⟨q, K, M2, k1, k2, k3, k4, k5, k6⟩ := d M1 (pMr.refl M1)
    have k1' : f_X9_codes (f_X9_keeps M1) a1 a2 a3 = (nI 0, K) := k1
    have e9 : f_X9_changeCode M1 a1 a2 a3 = (0, M2) := by
      unfold f_X9_changeCode
      rw [k1']
      dsimp only
      rw [pTold4 k2 k4 k5]
      first | done | rfl
    have q9 : q_X9_changeCode M1 a1 a2 a3 := by
      unfold q_X9_changeCode
      rw [k1']
      exact ⟨q, pQTold4 k2 k3, trivial⟩
    unfold lq_4 lm_4
    rw [eL]
    dsimp only
    rw [e9]
    refine ⟨⟨⟨fun e he => ?_, trivial⟩, q9, k5, fun n0 => absurd n0 (by simp), trivial⟩, k6.fin (by omega) ⟨fun _ _ => rfl, fun _ _ => rfl⟩⟩
    rw [e8] at he
    have he' := Option.some.inj he
    subst he'
    simp

theorem pNo4_deposit (M : tvM) (a1 a2 : Int32) : f_X6_refusalOfPut M 1 a1 a2 ≠ 4 := by
  unfold f_X6_refusalOfPut
  repeat' split
  all_goals decide
theorem pc_5 {B : Nat} {M : tvM} (h : pJ B M M) (hB : B + 240 ≤ 10000000) (a1 a2 a3 : Int32) : lq_5 M a1 a2 a3 ∧ pJ (B + 240) (lm_5 M a1 a2 a3) (lm_5 M a1 a2 a3) := by
  obtain ⟨s, x, n, hJ, hr⟩ := h
  rcases pCall hJ hr hB (pSim_deposits 1 hJ.2.1 hB a1 a2) (by decide) with ⟨a, v, M1, hv, b, c, c2, d⟩ | ⟨p, hp, a, d⟩ | ⟨a, M1, b, c, c2, d⟩
  · have hM : pMr M1 (tpl M1 257 0 (nI v).toInt64) := fun _ _ _ => rfl
    have e8 : f_X8_deposit M a1 a2 = (none, nI v, M1) := by
      unfold f_X8_deposit
      rw [show f_X6_refusalOfPut M 1 a1 a2 = 0 from a, pRef_0]
      dsimp only
      rw [if_pos rfl, show f_X6_put (f_X1_keep M) 1 a1 a2 = (nI v, M1) from b]
    have eL : f_L_deposit M a1 a2 = (0, (tpl M1 257 0 (nI v).toInt64)) := by
      unfold f_L_deposit
      rw [e8]
      rfl
    obtain ⟨q, K, M2, k1, k2, k3, k4, k5, k6⟩ := d _ hM
    have k1' : f_X9_deposits (f_X9_keeps (tpl M1 257 0 (nI v).toInt64)) a1 a2 = (nI v, K) := k1
    have e9 : f_X9_deposit (tpl M1 257 0 (nI v).toInt64) a1 a2 = (nI v, M2) := by
      unfold f_X9_deposit
      rw [k1']
      dsimp only
      rw [pEnds0 k2 k4]
    have q9 : q_X9_deposit (tpl M1 257 0 (nI v).toInt64) a1 a2 := by
      unfold q_X9_deposit
      rw [k1']
      exact ⟨q, pQEnds0 k2 k3, trivial⟩
    unfold lq_5 lm_5
    rw [eL]
    dsimp only
    rw [e9]
    dsimp only
    refine ⟨⟨⟨fun e he => ?_, trivial⟩, q9, k5, fun _ => ?_, trivial⟩, k6.fin (by omega) ⟨fun _ _ => rfl, fun a ha => ?_⟩⟩
    · rw [e8] at he
      exact absurd he (by simp)
    · rw [show tgl M2 257 0 = (nI v).toInt64 from by show M2.2.1 257 0 = _; rw [k6.1]; exact tpl_s _ _ _ _]
      exact lg_self _
    · exact tvU_ne _ _ _ (by omega)
  · simp only [List.mem_cons, List.not_mem_nil, or_false] at hp
    obtain ⟨q, M2, k1, k2, k3⟩ := d M (pMr.refl M)
    have k1' : f_X9_deposits (f_X9_keeps M) a1 a2 = (nI 0, M2) := k1
    rcases hp with rfl | rfl | rfl
    · have e8 : f_X8_deposit M a1 a2 = (some "java/lang/IndexOutOfBoundsException", 0, M) := by
        unfold f_X8_deposit
        rw [show f_X6_refusalOfPut M 1 a1 a2 = 1 from a, pRef_1]
        simp
      have eL : f_L_deposit M a1 a2 = (1, M) := by
        unfold f_L_deposit
        rw [e8]
        simp
      have e9 : f_X9_deposit M a1 a2 = (0, M2) := by
        unfold f_X9_deposit
        rw [k1']
        dsimp only
        rw [pEnds1 (by rw [k2]; decide)]
        first | done | rfl
      have q9 : q_X9_deposit M a1 a2 := by
        unfold q_X9_deposit
        rw [k1']
        exact ⟨q, pQEnds1 (by rw [k2]; decide), trivial⟩
      unfold lq_5 lm_5
      rw [eL]
      dsimp only
      rw [e9]
      refine ⟨⟨⟨fun e he => ?_, trivial⟩, q9, k2, fun n0 => absurd n0 (by simp), trivial⟩, k3.fin (by omega) ⟨fun _ _ => rfl, fun _ _ => rfl⟩⟩
      rw [e8] at he
      have he' := Option.some.inj he
      subst he'
      simp
    · have e8 : f_X8_deposit M a1 a2 = (some "java/lang/IllegalArgumentException", 0, M) := by
        unfold f_X8_deposit
        rw [show f_X6_refusalOfPut M 1 a1 a2 = 2 from a, pRef_2]
        simp
      have eL : f_L_deposit M a1 a2 = (2, M) := by
        unfold f_L_deposit
        rw [e8]
        simp
      have e9 : f_X9_deposit M a1 a2 = (0, M2) := by
        unfold f_X9_deposit
        rw [k1']
        dsimp only
        rw [pEnds1 (by rw [k2]; decide)]
        first | done | rfl
      have q9 : q_X9_deposit M a1 a2 := by
        unfold q_X9_deposit
        rw [k1']
        exact ⟨q, pQEnds1 (by rw [k2]; decide), trivial⟩
      unfold lq_5 lm_5
      rw [eL]
      dsimp only
      rw [e9]
      refine ⟨⟨⟨fun e he => ?_, trivial⟩, q9, k2, fun n0 => absurd n0 (by simp), trivial⟩, k3.fin (by omega) ⟨fun _ _ => rfl, fun _ _ => rfl⟩⟩
      rw [e8] at he
      have he' := Option.some.inj he
      subst he'
      simp
    · have e8 : f_X8_deposit M a1 a2 = (some "java/lang/IllegalStateException", 0, M) := by
        unfold f_X8_deposit
        rw [show f_X6_refusalOfPut M 1 a1 a2 = 3 from a, pRef_3]
        simp
      have eL : f_L_deposit M a1 a2 = (3, M) := by
        unfold f_L_deposit
        rw [e8]
        simp
      have e9 : f_X9_deposit M a1 a2 = (0, M2) := by
        unfold f_X9_deposit
        rw [k1']
        dsimp only
        rw [pEnds1 (by rw [k2]; decide)]
        first | done | rfl
      have q9 : q_X9_deposit M a1 a2 := by
        unfold q_X9_deposit
        rw [k1']
        exact ⟨q, pQEnds1 (by rw [k2]; decide), trivial⟩
      unfold lq_5 lm_5
      rw [eL]
      dsimp only
      rw [e9]
      refine ⟨⟨⟨fun e he => ?_, trivial⟩, q9, k2, fun n0 => absurd n0 (by simp), trivial⟩, k3.fin (by omega) ⟨fun _ _ => rfl, fun _ _ => rfl⟩⟩
      rw [e8] at he
      have he' := Option.some.inj he
      subst he'
      simp
  · exact absurd a (pNo4_deposit M a1 a2)

theorem pNo4_withdraw (M : tvM) (a1 : Int32) : f_X6_refusalOfTake M 1 a1 ≠ 4 := by
  unfold f_X6_refusalOfTake
  repeat' split
  all_goals decide
theorem pc_6 {B : Nat} {M : tvM} (h : pJ B M M) (hB : B + 240 ≤ 10000000) (a1 a2 a3 : Int32) : lq_6 M a1 a2 a3 ∧ pJ (B + 240) (lm_6 M a1 a2 a3) (lm_6 M a1 a2 a3) := by
  obtain ⟨s, x, n, hJ, hr⟩ := h
  rcases pCall hJ hr hB (pSim_withdraws 1 hJ.2.1 hB a1) (by decide) with ⟨a, v, M1, hv, b, c, c2, d⟩ | ⟨p, hp, a, d⟩ | ⟨a, M1, b, c, c2, d⟩
  · have hM : pMr M1 (tpl M1 257 0 (nI v).toInt64) := fun _ _ _ => rfl
    have e8 : f_X8_withdraw M a1 = (none, nI v, M1) := by
      unfold f_X8_withdraw
      rw [show f_X6_refusalOfTake M 1 a1 = 0 from a, pRef_0]
      dsimp only
      rw [if_pos rfl, show f_X6_take (f_X1_keep M) 1 a1 = (nI v, M1) from b]
    have eL : f_L_withdraw M a1 = (0, (tpl M1 257 0 (nI v).toInt64)) := by
      unfold f_L_withdraw
      rw [e8]
      rfl
    obtain ⟨q, K, M2, k1, k2, k3, k4, k5, k6⟩ := d _ hM
    have k1' : f_X9_withdraws (f_X9_keeps (tpl M1 257 0 (nI v).toInt64)) a1 = (nI v, K) := k1
    have e9 : f_X9_withdraw (tpl M1 257 0 (nI v).toInt64) a1 = (nI v, M2) := by
      unfold f_X9_withdraw
      rw [k1']
      dsimp only
      rw [pEnds0 k2 k4]
    have q9 : q_X9_withdraw (tpl M1 257 0 (nI v).toInt64) a1 := by
      unfold q_X9_withdraw
      rw [k1']
      exact ⟨q, pQEnds0 k2 k3, trivial⟩
    unfold lq_6 lm_6
    rw [eL]
    dsimp only
    rw [e9]
    dsimp only
    refine ⟨⟨⟨fun e he => ?_, trivial⟩, q9, k5, fun _ => ?_, trivial⟩, k6.fin (by omega) ⟨fun _ _ => rfl, fun a ha => ?_⟩⟩
    · rw [e8] at he
      exact absurd he (by simp)
    · rw [show tgl M2 257 0 = (nI v).toInt64 from by show M2.2.1 257 0 = _; rw [k6.1]; exact tpl_s _ _ _ _]
      exact lg_self _
    · exact tvU_ne _ _ _ (by omega)
  · simp only [List.mem_cons, List.not_mem_nil, or_false] at hp
    obtain ⟨q, M2, k1, k2, k3⟩ := d M (pMr.refl M)
    have k1' : f_X9_withdraws (f_X9_keeps M) a1 = (nI 0, M2) := k1
    rcases hp with rfl | rfl | rfl
    · have e8 : f_X8_withdraw M a1 = (some "java/lang/IndexOutOfBoundsException", 0, M) := by
        unfold f_X8_withdraw
        rw [show f_X6_refusalOfTake M 1 a1 = 1 from a, pRef_1]
        simp
      have eL : f_L_withdraw M a1 = (1, M) := by
        unfold f_L_withdraw
        rw [e8]
        simp
      have e9 : f_X9_withdraw M a1 = (0, M2) := by
        unfold f_X9_withdraw
        rw [k1']
        dsimp only
        rw [pEnds1 (by rw [k2]; decide)]
        first | done | rfl
      have q9 : q_X9_withdraw M a1 := by
        unfold q_X9_withdraw
        rw [k1']
        exact ⟨q, pQEnds1 (by rw [k2]; decide), trivial⟩
      unfold lq_6 lm_6
      rw [eL]
      dsimp only
      rw [e9]
      refine ⟨⟨⟨fun e he => ?_, trivial⟩, q9, k2, fun n0 => absurd n0 (by simp), trivial⟩, k3.fin (by omega) ⟨fun _ _ => rfl, fun _ _ => rfl⟩⟩
      rw [e8] at he
      have he' := Option.some.inj he
      subst he'
      simp
    · have e8 : f_X8_withdraw M a1 = (some "java/lang/IllegalStateException", 0, M) := by
        unfold f_X8_withdraw
        rw [show f_X6_refusalOfTake M 1 a1 = 3 from a, pRef_3]
        simp
      have eL : f_L_withdraw M a1 = (2, M) := by
        unfold f_L_withdraw
        rw [e8]
        simp
      have e9 : f_X9_withdraw M a1 = (0, M2) := by
        unfold f_X9_withdraw
        rw [k1']
        dsimp only
        rw [pEnds1 (by rw [k2]; decide)]
        first | done | rfl
      have q9 : q_X9_withdraw M a1 := by
        unfold q_X9_withdraw
        rw [k1']
        exact ⟨q, pQEnds1 (by rw [k2]; decide), trivial⟩
      unfold lq_6 lm_6
      rw [eL]
      dsimp only
      rw [e9]
      refine ⟨⟨⟨fun e he => ?_, trivial⟩, q9, k2, fun n0 => absurd n0 (by simp), trivial⟩, k3.fin (by omega) ⟨fun _ _ => rfl, fun _ _ => rfl⟩⟩
      rw [e8] at he
      have he' := Option.some.inj he
      subst he'
      simp
    · have e8 : f_X8_withdraw M a1 = (some "java/util/NoSuchElementException", 0, M) := by
        unfold f_X8_withdraw
        rw [show f_X6_refusalOfTake M 1 a1 = 5 from a, pRef_5]
        simp
      have eL : f_L_withdraw M a1 = (3, M) := by
        unfold f_L_withdraw
        rw [e8]
        simp
      have e9 : f_X9_withdraw M a1 = (0, M2) := by
        unfold f_X9_withdraw
        rw [k1']
        dsimp only
        rw [pEnds1 (by rw [k2]; decide)]
        first | done | rfl
      have q9 : q_X9_withdraw M a1 := by
        unfold q_X9_withdraw
        rw [k1']
        exact ⟨q, pQEnds1 (by rw [k2]; decide), trivial⟩
      unfold lq_6 lm_6
      rw [eL]
      dsimp only
      rw [e9]
      refine ⟨⟨⟨fun e he => ?_, trivial⟩, q9, k2, fun n0 => absurd n0 (by simp), trivial⟩, k3.fin (by omega) ⟨fun _ _ => rfl, fun _ _ => rfl⟩⟩
      rw [e8] at he
      have he' := Option.some.inj he
      subst he'
      simp
  · exact absurd a (pNo4_withdraw M a1)

theorem pNo4_close (M : tvM) (a1 : Int32) : f_X6_refusalOfClose M 1 a1 ≠ 4 := by
  unfold f_X6_refusalOfClose
  repeat' split
  all_goals decide
theorem pc_7 {B : Nat} {M : tvM} (h : pJ B M M) (hB : B + 240 ≤ 10000000) (a1 a2 a3 : Int32) : lq_7 M a1 a2 a3 ∧ pJ (B + 240) (lm_7 M a1 a2 a3) (lm_7 M a1 a2 a3) := by
  obtain ⟨s, x, n, hJ, hr⟩ := h
  rcases pCall hJ hr hB (pSim_closes 1 hJ.2.1 hB a1) (by decide) with ⟨a, v, M1, hv, b, c, c2, d⟩ | ⟨p, hp, a, d⟩ | ⟨a, M1, b, c, c2, d⟩
  · have hM : pMr M1 (tpl M1 257 0 (nI v).toInt64) := fun _ _ _ => rfl
    have e8 : f_X8_close M a1 = (none, nI v, M1) := by
      unfold f_X8_close
      rw [show f_X6_refusalOfClose M 1 a1 = 0 from a, pRef_0]
      dsimp only
      rw [if_pos rfl, show f_X6_shut (f_X1_keep M) 1 a1 = (nI v, M1) from b]
    have eL : f_L_close M a1 = (0, (tpl M1 257 0 (nI v).toInt64)) := by
      unfold f_L_close
      rw [e8]
      rfl
    obtain ⟨q, K, M2, k1, k2, k3, k4, k5, k6⟩ := d _ hM
    have k1' : f_X9_closes (f_X9_keeps (tpl M1 257 0 (nI v).toInt64)) a1 = (nI v, K) := k1
    have e9 : f_X9_close (tpl M1 257 0 (nI v).toInt64) a1 = (nI v, M2) := by
      unfold f_X9_close
      rw [k1']
      dsimp only
      rw [pEnds0 k2 k4]
    have q9 : q_X9_close (tpl M1 257 0 (nI v).toInt64) a1 := by
      unfold q_X9_close
      rw [k1']
      exact ⟨q, pQEnds0 k2 k3, trivial⟩
    unfold lq_7 lm_7
    rw [eL]
    dsimp only
    rw [e9]
    dsimp only
    refine ⟨⟨⟨fun e he => ?_, trivial⟩, q9, k5, fun _ => ?_, trivial⟩, k6.fin (by omega) ⟨fun _ _ => rfl, fun a ha => ?_⟩⟩
    · rw [e8] at he
      exact absurd he (by simp)
    · rw [show tgl M2 257 0 = (nI v).toInt64 from by show M2.2.1 257 0 = _; rw [k6.1]; exact tpl_s _ _ _ _]
      exact lg_self _
    · exact tvU_ne _ _ _ (by omega)
  · simp only [List.mem_cons, List.not_mem_nil, or_false] at hp
    obtain ⟨q, M2, k1, k2, k3⟩ := d M (pMr.refl M)
    have k1' : f_X9_closes (f_X9_keeps M) a1 = (nI 0, M2) := k1
    rcases hp with rfl | rfl
    · have e8 : f_X8_close M a1 = (some "java/lang/IndexOutOfBoundsException", 0, M) := by
        unfold f_X8_close
        rw [show f_X6_refusalOfClose M 1 a1 = 1 from a, pRef_1]
        simp
      have eL : f_L_close M a1 = (1, M) := by
        unfold f_L_close
        rw [e8]
        simp
      have e9 : f_X9_close M a1 = (0, M2) := by
        unfold f_X9_close
        rw [k1']
        dsimp only
        rw [pEnds1 (by rw [k2]; decide)]
        first | done | rfl
      have q9 : q_X9_close M a1 := by
        unfold q_X9_close
        rw [k1']
        exact ⟨q, pQEnds1 (by rw [k2]; decide), trivial⟩
      unfold lq_7 lm_7
      rw [eL]
      dsimp only
      rw [e9]
      refine ⟨⟨⟨fun e he => ?_, trivial⟩, q9, k2, fun n0 => absurd n0 (by simp), trivial⟩, k3.fin (by omega) ⟨fun _ _ => rfl, fun _ _ => rfl⟩⟩
      rw [e8] at he
      have he' := Option.some.inj he
      subst he'
      simp
    · have e8 : f_X8_close M a1 = (some "java/lang/IllegalStateException", 0, M) := by
        unfold f_X8_close
        rw [show f_X6_refusalOfClose M 1 a1 = 3 from a, pRef_3]
        simp
      have eL : f_L_close M a1 = (2, M) := by
        unfold f_L_close
        rw [e8]
        simp
      have e9 : f_X9_close M a1 = (0, M2) := by
        unfold f_X9_close
        rw [k1']
        dsimp only
        rw [pEnds1 (by rw [k2]; decide)]
        first | done | rfl
      have q9 : q_X9_close M a1 := by
        unfold q_X9_close
        rw [k1']
        exact ⟨q, pQEnds1 (by rw [k2]; decide), trivial⟩
      unfold lq_7 lm_7
      rw [eL]
      dsimp only
      rw [e9]
      refine ⟨⟨⟨fun e he => ?_, trivial⟩, q9, k2, fun n0 => absurd n0 (by simp), trivial⟩, k3.fin (by omega) ⟨fun _ _ => rfl, fun _ _ => rfl⟩⟩
      rw [e8] at he
      have he' := Option.some.inj he
      subst he'
      simp
  · exact absurd a (pNo4_close M a1)

theorem pNo4_pass (M : tvM) (a1 : Int32) : f_X6_refusalOfWait M 1 a1 ≠ 4 := by
  unfold f_X6_refusalOfWait
  repeat' split
  all_goals decide
theorem pc_8 {B : Nat} {M : tvM} (h : pJ B M M) (hB : B + 240 ≤ 10000000) (a1 a2 a3 : Int32) : lq_8 M a1 a2 a3 ∧ pJ (B + 240) (lm_8 M a1 a2 a3) (lm_8 M a1 a2 a3) := by
  obtain ⟨s, x, n, hJ, hr⟩ := h
  rcases pCall hJ hr hB (pSim_waits 1 hJ.2.1 hB a1) (by decide) with ⟨a, v, M1, hv, b, c, c2, d⟩ | ⟨p, hp, a, d⟩ | ⟨a, M1, b, c, c2, d⟩
  · have hM : pMr M1 (tpl M1 257 0 (nI v).toInt64) := fun _ _ _ => rfl
    have e8 : f_X8_pass M a1 = (none, nI v, M1) := by
      unfold f_X8_pass
      rw [show f_X6_refusalOfWait M 1 a1 = 0 from a, pRef_0]
      dsimp only
      rw [if_pos rfl, show f_X6_letPass (f_X1_keep M) 1 a1 = (nI v, M1) from b]
    have eL : f_L_pass M a1 = (0, (tpl M1 257 0 (nI v).toInt64)) := by
      unfold f_L_pass
      rw [e8]
      rfl
    obtain ⟨q, K, M2, k1, k2, k3, k4, k5, k6⟩ := d _ hM
    have k1' : f_X9_waits (f_X9_keeps (tpl M1 257 0 (nI v).toInt64)) a1 = (nI v, K) := k1
    have e9 : f_X9_pass (tpl M1 257 0 (nI v).toInt64) a1 = (nI v, M2) := by
      unfold f_X9_pass
      rw [k1']
      dsimp only
      rw [pEnds0 k2 k4]
    have q9 : q_X9_pass (tpl M1 257 0 (nI v).toInt64) a1 := by
      unfold q_X9_pass
      rw [k1']
      exact ⟨q, pQEnds0 k2 k3, trivial⟩
    unfold lq_8 lm_8
    rw [eL]
    dsimp only
    rw [e9]
    dsimp only
    refine ⟨⟨⟨fun e he => ?_, trivial⟩, q9, k5, fun _ => ?_, trivial⟩, k6.fin (by omega) ⟨fun _ _ => rfl, fun a ha => ?_⟩⟩
    · rw [e8] at he
      exact absurd he (by simp)
    · rw [show tgl M2 257 0 = (nI v).toInt64 from by show M2.2.1 257 0 = _; rw [k6.1]; exact tpl_s _ _ _ _]
      exact lg_self _
    · exact tvU_ne _ _ _ (by omega)
  · simp only [List.mem_cons, List.not_mem_nil, or_false] at hp
    obtain ⟨q, M2, k1, k2, k3⟩ := d M (pMr.refl M)
    have k1' : f_X9_waits (f_X9_keeps M) a1 = (nI 0, M2) := k1
    subst hp
    · have e8 : f_X8_pass M a1 = (some "java/lang/IllegalArgumentException", 0, M) := by
        unfold f_X8_pass
        rw [show f_X6_refusalOfWait M 1 a1 = 2 from a, pRef_2]
        simp
      have eL : f_L_pass M a1 = (1, M) := by
        unfold f_L_pass
        rw [e8]
        simp
      have e9 : f_X9_pass M a1 = (0, M2) := by
        unfold f_X9_pass
        rw [k1']
        dsimp only
        rw [pEnds1 (by rw [k2]; decide)]
        first | done | rfl
      have q9 : q_X9_pass M a1 := by
        unfold q_X9_pass
        rw [k1']
        exact ⟨q, pQEnds1 (by rw [k2]; decide), trivial⟩
      unfold lq_8 lm_8
      rw [eL]
      dsimp only
      rw [e9]
      refine ⟨⟨⟨fun e he => ?_, trivial⟩, q9, k2, fun n0 => absurd n0 (by simp), trivial⟩, k3.fin (by omega) ⟨fun _ _ => rfl, fun _ _ => rfl⟩⟩
      rw [e8] at he
      have he' := Option.some.inj he
      subst he'
      simp
  · exact absurd a (pNo4_pass M a1)

