theorem f_X8_run_1 {M M' : tvM} (hp : f_X5_parse M = (-1, M')) : ∃ U : Nat, 30 ≤ U ∧ f_X8_run M = tvRu U 0 (f_X1_begin (tpi M' 243 1 0)) := by
  obtain ⟨U, hU⟩ : ∃ U : Nat, U = 2147483647 := ⟨_, rfl⟩
  refine ⟨U, by omega, ?_⟩
  unfold f_X8_run
  rw [← hU, hp]
  dsimp only
  rw [if_pos rfl]
  unfold f_X5_empty
  exact Eq.refl _
/-- the end of the loop: the model remembers -/
theorem pRs_end {N' M4 : tvM} {s' : Nat → Nat} {m : Nat} {y : Int32} (h : N'.1 249 17 = nI m) (r1 : q_X9_remembers (puN N' s' (nI 0))) (r2 : f_X9_remembers (puN N' s' (nI 0)) = M4) : s_X9_run (y, nI m, puN N' s' (nI 0)) = .inr (nI m, M4) ∧ qs_X9_run (y, nI m, puN N' s' (nI 0)) := by
  have e1 : tgi (puN N' s' (nI 0)) 249 17 = nI m := (puN_o _ _ _ (by omega) (by omega)).trans h
  have e5 : tgi (puN N' s' (nI 0)) 249 5 = 0 := puN_t _ _ _
  have hle : nI m ≤ nI m := Int32.le_refl _
  constructor
  · show sb_X9_run y (nI m) (puN N' s' (nI 0)) = _
    unfold sb_X9_run
    rw [e1, if_pos hle, pEnds0 e5 r2]
  · show qb_X9_run y (nI m) (puN N' s' (nI 0))
    unfold qb_X9_run
    rw [e1]
    exact ⟨fun _ => ⟨⟨fun _ => ⟨r1, trivial⟩, fun _ => trivial⟩, trivial⟩, fun z => absurd hle z⟩

