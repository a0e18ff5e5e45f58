theorem tvnw {w : Cond} (h : w ∈ lw_tbl) (hg : tvIsN w = true) : w ∈ tvNest := List.mem_filter.mpr ⟨h, hg⟩
theorem tvIn_0 : ∀ w ∈ u_ws RX0 TX0 10, w ∈ tvGW := by decide +kernel
theorem tvIn_1 : ∀ w ∈ u_ws RX1 TX1 3, w ∈ tvGW := by decide +kernel
theorem tvIn_2 : ∀ w ∈ u_ws RX2 TX2 4, w ∈ tvGW := by decide +kernel
theorem tvIn_3 : ∀ w ∈ u_ws RX3 TX3 2, w ∈ tvGW := by decide +kernel
theorem tvIn_4 : ∀ w ∈ u_ws RX4 TX4 5, w ∈ tvGW := by decide +kernel
theorem tvIn_5 : ∀ w ∈ u_ws RX5 TX5 6, w ∈ tvGW := by decide +kernel
theorem tvIn_6 : ∀ w ∈ u_ws RX6 TX6 9, w ∈ tvGW := by decide +kernel
theorem tvIn_7 : ∀ w ∈ u_ws RX7 TX7 2, w ∈ tvGW := by decide +kernel
theorem tvIn_8 : ∀ w ∈ u_ws RX8 TX8 10, w ∈ tvGW := by decide +kernel
theorem tvIn_9 : ∀ w ∈ u_ws RX9 TX9 18, w ∈ tvGW := by decide +kernel
theorem tv_nz_pos {x : Int32} (h : 0 < x) : ¬ x = 0 := fun e => by subst e; exact absurd h (by decide)
theorem tv_nz_nle {x : Int32} (h : ¬ x ≤ 0) : ¬ x = 0 := fun e => by subst e; exact absurd (by decide) h
theorem fl_RX2_9 : tvFl RX2 9 2 1 := ⟨_, _, _, rfl, by decide, rfl, tvIn_2, rfl, Or.inl (tvgw (by decide +kernel) (by decide +kernel))⟩
theorem fl_RX2_15 : tvFl RX2 15 2 2 := ⟨_, _, _, rfl, by decide, rfl, tvIn_2, rfl, Or.inl (tvgw (by decide +kernel) (by decide +kernel))⟩
theorem fl_RX2_18 : tvFl RX2 18 2 3 := ⟨_, _, _, rfl, by decide, rfl, tvIn_2, rfl, Or.inl (tvgw (by decide +kernel) (by decide +kernel))⟩
theorem fl_RX2_21 : tvFl RX2 21 2 0 := ⟨_, _, _, rfl, by decide, rfl, tvIn_2, rfl, Or.inl (tvgw (by decide +kernel) (by decide +kernel))⟩
theorem ml_RX2_31 : Cond.methodLink RX2 31 yX2_has ∈ tvGW := tvgw (by decide +kernel) (by decide +kernel)
theorem yk_X2_attemptsOf : tvYk yX2_attemptsOf cX2_attemptsOf 2 (some .int) 1 := ⟨tvgw (by decide +kernel) (by decide +kernel), tvgw (by decide +kernel) (by decide +kernel), by decide +kernel, by decide +kernel, by decide +kernel⟩
theorem yi_X2_attemptsOf : tvYi yX2_attemptsOf := ⟨tvgw (by decide +kernel) (by decide +kernel), tvgw (by decide +kernel) (by decide +kernel)⟩
theorem yk_X2_codeOf : tvYk yX2_codeOf cX2_codeOf 2 (some .int) 1 := ⟨tvgw (by decide +kernel) (by decide +kernel), tvgw (by decide +kernel) (by decide +kernel), by decide +kernel, by decide +kernel, by decide +kernel⟩
theorem yi_X2_codeOf : tvYi yX2_codeOf := ⟨tvgw (by decide +kernel) (by decide +kernel), tvgw (by decide +kernel) (by decide +kernel)⟩
theorem yk_X2_has : tvYk yX2_has cX2_has 2 (some .boolean) 1 := ⟨tvgw (by decide +kernel) (by decide +kernel), tvgw (by decide +kernel) (by decide +kernel), by decide +kernel, by decide +kernel, by decide +kernel⟩
theorem yi_X2_has : tvYi yX2_has := ⟨tvgw (by decide +kernel) (by decide +kernel), tvgw (by decide +kernel) (by decide +kernel)⟩
theorem yk_X2_lock : tvYk yX2_lock cX2_lock 3 none 2 := ⟨tvgw (by decide +kernel) (by decide +kernel), tvgw (by decide +kernel) (by decide +kernel), by decide +kernel, by decide +kernel, by decide +kernel⟩
theorem yi_X2_lock : tvYi yX2_lock := ⟨tvgw (by decide +kernel) (by decide +kernel), tvgw (by decide +kernel) (by decide +kernel)⟩
theorem yk_X2_setAttempts : tvYk yX2_setAttempts cX2_setAttempts 3 none 2 := ⟨tvgw (by decide +kernel) (by decide +kernel), tvgw (by decide +kernel) (by decide +kernel), by decide +kernel, by decide +kernel, by decide +kernel⟩
theorem yi_X2_setAttempts : tvYi yX2_setAttempts := ⟨tvgw (by decide +kernel) (by decide +kernel), tvgw (by decide +kernel) (by decide +kernel)⟩
theorem yk_X2_setCode : tvYk yX2_setCode cX2_setCode 3 none 2 := ⟨tvgw (by decide +kernel) (by decide +kernel), tvgw (by decide +kernel) (by decide +kernel), by decide +kernel, by decide +kernel, by decide +kernel⟩
theorem yi_X2_setCode : tvYi yX2_setCode := ⟨tvgw (by decide +kernel) (by decide +kernel), tvgw (by decide +kernel) (by decide +kernel)⟩
theorem dk_X2_attemptsOf_0 : tvD cX2_attemptsOf 0 (.aload_n 0) 1 1 := ⟨by decide +kernel, rfl⟩
theorem dk_X2_attemptsOf_1 : tvD cX2_attemptsOf 1 (.iload_n 1) 1 2 := ⟨by decide +kernel, rfl⟩
theorem dk_X2_attemptsOf_2 : tvD cX2_attemptsOf 2 (.invokevirtual 31) 3 5 := ⟨by decide +kernel, rfl⟩
theorem dk_X2_attemptsOf_5 : tvJ cX2_attemptsOf 5 (.ifCond .eq) 17 8 := ⟨12, by decide +kernel, by decide, rfl⟩
theorem dk_X2_attemptsOf_8 : tvD cX2_attemptsOf 8 (.aload_n 0) 1 9 := ⟨by decide +kernel, rfl⟩
theorem dk_X2_attemptsOf_9 : tvD cX2_attemptsOf 9 (.getfield 15) 3 12 := ⟨by decide +kernel, rfl⟩
theorem dk_X2_attemptsOf_12 : tvD cX2_attemptsOf 12 (.iload_n 1) 1 13 := ⟨by decide +kernel, rfl⟩
theorem dk_X2_attemptsOf_13 : tvD cX2_attemptsOf 13 (.iaload) 1 14 := ⟨by decide +kernel, rfl⟩
theorem dk_X2_attemptsOf_14 : tvJ cX2_attemptsOf 14 .goto 18 17 := ⟨4, by decide +kernel, by decide, rfl⟩
theorem dk_X2_attemptsOf_17 : tvD cX2_attemptsOf 17 (.iconst 0) 1 18 := ⟨by decide +kernel, rfl⟩
theorem dk_X2_attemptsOf_18 : tvD cX2_attemptsOf 18 (.ireturn) 1 19 := ⟨by decide +kernel, rfl⟩
theorem dk_X2_codeOf_0 : tvD cX2_codeOf 0 (.aload_n 0) 1 1 := ⟨by decide +kernel, rfl⟩
theorem dk_X2_codeOf_1 : tvD cX2_codeOf 1 (.iload_n 1) 1 2 := ⟨by decide +kernel, rfl⟩
theorem dk_X2_codeOf_2 : tvD cX2_codeOf 2 (.invokevirtual 31) 3 5 := ⟨by decide +kernel, rfl⟩
theorem dk_X2_codeOf_5 : tvJ cX2_codeOf 5 (.ifCond .eq) 17 8 := ⟨12, by decide +kernel, by decide, rfl⟩
theorem dk_X2_codeOf_8 : tvD cX2_codeOf 8 (.aload_n 0) 1 9 := ⟨by decide +kernel, rfl⟩
theorem dk_X2_codeOf_9 : tvD cX2_codeOf 9 (.getfield 9) 3 12 := ⟨by decide +kernel, rfl⟩
theorem dk_X2_codeOf_12 : tvD cX2_codeOf 12 (.iload_n 1) 1 13 := ⟨by decide +kernel, rfl⟩
theorem dk_X2_codeOf_13 : tvD cX2_codeOf 13 (.iaload) 1 14 := ⟨by decide +kernel, rfl⟩
theorem dk_X2_codeOf_14 : tvJ cX2_codeOf 14 .goto 18 17 := ⟨4, by decide +kernel, by decide, rfl⟩
theorem dk_X2_codeOf_17 : tvD cX2_codeOf 17 (.iconst (-1)) 1 18 := ⟨by decide +kernel, rfl⟩
theorem dk_X2_codeOf_18 : tvD cX2_codeOf 18 (.ireturn) 1 19 := ⟨by decide +kernel, rfl⟩
theorem dk_X2_has_0 : tvD cX2_has 0 (.iload_n 1) 1 1 := ⟨by decide +kernel, rfl⟩
theorem dk_X2_has_1 : tvJ cX2_has 1 (.ifCond .lt) 22 4 := ⟨21, by decide +kernel, by decide, rfl⟩
theorem dk_X2_has_4 : tvD cX2_has 4 (.iload_n 1) 1 5 := ⟨by decide +kernel, rfl⟩
theorem dk_X2_has_5 : tvD cX2_has 5 (.aload_n 0) 1 6 := ⟨by decide +kernel, rfl⟩
theorem dk_X2_has_6 : tvD cX2_has 6 (.getfield 21) 3 9 := ⟨by decide +kernel, rfl⟩
theorem dk_X2_has_9 : tvJ cX2_has 9 (.if_icmp .ge) 22 12 := ⟨13, by decide +kernel, by decide, rfl⟩
theorem dk_X2_has_12 : tvD cX2_has 12 (.iload_n 1) 1 13 := ⟨by decide +kernel, rfl⟩
theorem dk_X2_has_13 : tvD cX2_has 13 (.bipush 8) 2 15 := ⟨by decide +kernel, rfl⟩
theorem dk_X2_has_15 : tvJ cX2_has 15 (.if_icmp .ge) 22 18 := ⟨7, by decide +kernel, by decide, rfl⟩
theorem dk_X2_has_18 : tvD cX2_has 18 (.iconst 1) 1 19 := ⟨by decide +kernel, rfl⟩
theorem dk_X2_has_19 : tvJ cX2_has 19 .goto 23 22 := ⟨4, by decide +kernel, by decide, rfl⟩
theorem dk_X2_has_22 : tvD cX2_has 22 (.iconst 0) 1 23 := ⟨by decide +kernel, rfl⟩
theorem dk_X2_has_23 : tvD cX2_has 23 (.ireturn) 1 24 := ⟨by decide +kernel, rfl⟩
theorem dk_X2_lock_0 : tvD cX2_lock 0 (.aload_n 0) 1 1 := ⟨by decide +kernel, rfl⟩
theorem dk_X2_lock_1 : tvD cX2_lock 1 (.iload_n 1) 1 2 := ⟨by decide +kernel, rfl⟩
theorem dk_X2_lock_2 : tvD cX2_lock 2 (.invokevirtual 31) 3 5 := ⟨by decide +kernel, rfl⟩
theorem dk_X2_lock_5 : tvJ cX2_lock 5 (.ifCond .eq) 15 8 := ⟨10, by decide +kernel, by decide, rfl⟩
theorem dk_X2_lock_8 : tvD cX2_lock 8 (.aload_n 0) 1 9 := ⟨by decide +kernel, rfl⟩
theorem dk_X2_lock_9 : tvD cX2_lock 9 (.getfield 18) 3 12 := ⟨by decide +kernel, rfl⟩
theorem dk_X2_lock_12 : tvD cX2_lock 12 (.iload_n 1) 1 13 := ⟨by decide +kernel, rfl⟩
theorem dk_X2_lock_13 : tvD cX2_lock 13 (.iload_n 2) 1 14 := ⟨by decide +kernel, rfl⟩
theorem dk_X2_lock_14 : tvD cX2_lock 14 (.iastore) 1 15 := ⟨by decide +kernel, rfl⟩
theorem dk_X2_lock_15 : tvD cX2_lock 15 (.return_) 1 16 := ⟨by decide +kernel, rfl⟩
theorem dk_X2_setAttempts_0 : tvD cX2_setAttempts 0 (.aload_n 0) 1 1 := ⟨by decide +kernel, rfl⟩
theorem dk_X2_setAttempts_1 : tvD cX2_setAttempts 1 (.iload_n 1) 1 2 := ⟨by decide +kernel, rfl⟩
theorem dk_X2_setAttempts_2 : tvD cX2_setAttempts 2 (.invokevirtual 31) 3 5 := ⟨by decide +kernel, rfl⟩
theorem dk_X2_setAttempts_5 : tvJ cX2_setAttempts 5 (.ifCond .eq) 15 8 := ⟨10, by decide +kernel, by decide, rfl⟩
theorem dk_X2_setAttempts_8 : tvD cX2_setAttempts 8 (.aload_n 0) 1 9 := ⟨by decide +kernel, rfl⟩
theorem dk_X2_setAttempts_9 : tvD cX2_setAttempts 9 (.getfield 15) 3 12 := ⟨by decide +kernel, rfl⟩
theorem dk_X2_setAttempts_12 : tvD cX2_setAttempts 12 (.iload_n 1) 1 13 := ⟨by decide +kernel, rfl⟩
theorem dk_X2_setAttempts_13 : tvD cX2_setAttempts 13 (.iload_n 2) 1 14 := ⟨by decide +kernel, rfl⟩
theorem dk_X2_setAttempts_14 : tvD cX2_setAttempts 14 (.iastore) 1 15 := ⟨by decide +kernel, rfl⟩
theorem dk_X2_setAttempts_15 : tvD cX2_setAttempts 15 (.return_) 1 16 := ⟨by decide +kernel, rfl⟩
theorem dk_X2_setCode_0 : tvD cX2_setCode 0 (.aload_n 0) 1 1 := ⟨by decide +kernel, rfl⟩
theorem dk_X2_setCode_1 : tvD cX2_setCode 1 (.iload_n 1) 1 2 := ⟨by decide +kernel, rfl⟩
theorem dk_X2_setCode_2 : tvD cX2_setCode 2 (.invokevirtual 31) 3 5 := ⟨by decide +kernel, rfl⟩
theorem dk_X2_setCode_5 : tvJ cX2_setCode 5 (.ifCond .eq) 15 8 := ⟨10, by decide +kernel, by decide, rfl⟩
theorem dk_X2_setCode_8 : tvD cX2_setCode 8 (.aload_n 0) 1 9 := ⟨by decide +kernel, rfl⟩
theorem dk_X2_setCode_9 : tvD cX2_setCode 9 (.getfield 9) 3 12 := ⟨by decide +kernel, rfl⟩
theorem dk_X2_setCode_12 : tvD cX2_setCode 12 (.iload_n 1) 1 13 := ⟨by decide +kernel, rfl⟩
theorem dk_X2_setCode_13 : tvD cX2_setCode 13 (.iload_n 2) 1 14 := ⟨by decide +kernel, rfl⟩
theorem dk_X2_setCode_14 : tvD cX2_setCode 14 (.iastore) 1 15 := ⟨by decide +kernel, rfl⟩
theorem dk_X2_setCode_15 : tvD cX2_setCode 15 (.return_) 1 16 := ⟨by decide +kernel, rfl⟩
/-- TideVault$Holders.has(I)Z -/
def f_X2_has (M : tvM) (b : Nat) (x1 : Int32) : Int32 := (if x1 < 0 then 0 else (if (tgi M (b + 2) 0) ≤ x1 then 0 else (if 8 ≤ x1 then 0 else 1)))
theorem m_X2_has (G : tvG) (M : tvM) {b : Nat} (hb : tvSB b) (x1 : Int32) : tvRun G yX2_has cX2_has 2 (some .boolean) 1 0 0 tvP0 tvP0 [.ref (G.2.1 + (b + 2)), .int x1] M (.inl (some (.int (f_X2_has M b x1)))) M := by
  refine tvRun.of yk_X2_has rfl [some (.ref (G.2.1 + (b + 2))), some (.int x1)] rfl (Nat.le_of_ble_eq_true rfl) ?_
  intro E hG C hQ; subst hG
  refine tv_iload_n C dk_X2_has_0 rfl ?_
  refine tv_if_lt C dk_X2_has_1 (fun h1 => ?_) (fun h1 => ?_)
  · refine tv_iconst (v := 0) C dk_X2_has_22 (by decide) ?_
    exact tv_iret C hQ dk_X2_has_23 rfl (by rw [f_X2_has, if_pos h1]) rfl
  refine tv_iload_n C dk_X2_has_4 rfl ?_
  refine tv_aload_n C dk_X2_has_5 rfl ?_
  refine tv_getI C dk_X2_has_6 fl_RX2_21 (tvSB_sh hb 2 (by decide)).2 (tvSB_sh hb 2 (by decide)).1 (fun _ _ _ _ => rfl) ?_
  refine tv_icmp_ge C dk_X2_has_9 (fun h2 => ?_) (fun h2 => ?_)
  · refine tv_iconst (v := 0) C dk_X2_has_22 (by decide) ?_
    exact tv_iret C hQ dk_X2_has_23 rfl (by rw [f_X2_has, if_neg h1, if_pos h2]) rfl
  refine tv_iload_n C dk_X2_has_12 rfl ?_
  refine tv_bipush (v := 8) C dk_X2_has_13 (by decide) ?_
  refine tv_icmp_ge C dk_X2_has_15 (fun h3 => ?_) (fun h3 => ?_)
  · refine tv_iconst (v := 0) C dk_X2_has_22 (by decide) ?_
    exact tv_iret C hQ dk_X2_has_23 rfl (by rw [f_X2_has, if_neg h1, if_neg h2, if_pos h3]) rfl
  refine tv_iconst (v := 1) C dk_X2_has_18 (by decide) ?_
  refine tv_goto C dk_X2_has_19 ?_
  exact tv_iret C hQ dk_X2_has_23 rfl (by rw [f_X2_has, if_neg h1, if_neg h2, if_neg h3]) rfl
theorem f_X2_has_in {M : tvM} {b : Nat} {x : Int32} (h : ¬ (f_X2_has M b x) = 0) : vp_in x 8 := by sorry
/-- TideVault$Holders.codeOf(I)I -/
def f_X2_codeOf (M : tvM) (b : Nat) (x1 : Int32) : Int32 := (if (f_X2_has M b x1) = 0 then (-1) else (tgi M (b + 3) x1.toNatClampNeg))
theorem m_X2_codeOf (G : tvG) (M : tvM) {b : Nat} (hb : tvSB b) (x1 : Int32) : tvRun G yX2_codeOf cX2_codeOf 2 (some .int) 2 0 0 tvP0 tvP0 [.ref (G.2.1 + (b + 2)), .int x1] M (.inl (some (.int (f_X2_codeOf M b x1)))) M := by
  refine tvRun.of yk_X2_codeOf rfl [some (.ref (G.2.1 + (b + 2))), some (.int x1)] rfl (Nat.le_of_ble_eq_true rfl) ?_
  intro E hG C hQ; subst hG
  refine tv_aload_n C dk_X2_codeOf_0 rfl ?_
  refine tv_iload_n C dk_X2_codeOf_1 rfl ?_
  refine tv_cV1 C dk_X2_codeOf_2 ml_RX2_31 yk_X2_has yi_X2_has (m_X2_has _ M hb x1) (tvSB_sh hb 2 (by decide)).2 (tvSB_sh hb 2 (by decide)).1 rfl rfl rfl (Nat.le_of_ble_eq_true rfl) (Nat.le_of_ble_eq_true rfl) (Nat.le_of_ble_eq_true rfl) (Nat.le_of_ble_eq_true rfl) (Nat.le_of_ble_eq_true rfl) ?_
  refine tv_if_eq C dk_X2_codeOf_5 (fun h1 => ?_) (fun h1 => ?_)
  · refine tv_iconst (v := (-1)) C dk_X2_codeOf_17 (by decide) ?_
    exact tv_iret C hQ dk_X2_codeOf_18 rfl (by rw [f_X2_codeOf, if_pos h1]) rfl
  refine tv_aload_n C dk_X2_codeOf_8 rfl ?_
  refine tv_getR (r := (b + 3)) C dk_X2_codeOf_9 fl_RX2_9 (tvSB_sh hb 2 (by decide)).2 (tvSB_sh hb 2 (by decide)).1 (tvSB_rho hb (2, 1, 3) (by decide)) (fun _ _ _ _ => rfl) ?_
  refine tv_iload_n C dk_X2_codeOf_12 rfl ?_
  refine tv_iaload C dk_X2_codeOf_13 (tvSB_sh hb 3 (by decide)).2 (tvSB_sh hb 3 (by decide)).1 (f_X2_has_in h1) ?_
  refine tv_goto C dk_X2_codeOf_14 ?_
  exact tv_iret C hQ dk_X2_codeOf_18 rfl (by rw [f_X2_codeOf, if_neg h1]) rfl
/-- TideVault$Holders.attemptsOf(I)I -/
def f_X2_attemptsOf (M : tvM) (b : Nat) (x1 : Int32) : Int32 := (if (f_X2_has M b x1) = 0 then 0 else (tgi M (b + 4) x1.toNatClampNeg))
theorem m_X2_attemptsOf (G : tvG) (M : tvM) {b : Nat} (hb : tvSB b) (x1 : Int32) : tvRun G yX2_attemptsOf cX2_attemptsOf 2 (some .int) 2 0 0 tvP0 tvP0 [.ref (G.2.1 + (b + 2)), .int x1] M (.inl (some (.int (f_X2_attemptsOf M b x1)))) M := by
  refine tvRun.of yk_X2_attemptsOf rfl [some (.ref (G.2.1 + (b + 2))), some (.int x1)] rfl (Nat.le_of_ble_eq_true rfl) ?_
  intro E hG C hQ; subst hG
  refine tv_aload_n C dk_X2_attemptsOf_0 rfl ?_
  refine tv_iload_n C dk_X2_attemptsOf_1 rfl ?_
  refine tv_cV1 C dk_X2_attemptsOf_2 ml_RX2_31 yk_X2_has yi_X2_has (m_X2_has _ M hb x1) (tvSB_sh hb 2 (by decide)).2 (tvSB_sh hb 2 (by decide)).1 rfl rfl rfl (Nat.le_of_ble_eq_true rfl) (Nat.le_of_ble_eq_true rfl) (Nat.le_of_ble_eq_true rfl) (Nat.le_of_ble_eq_true rfl) (Nat.le_of_ble_eq_true rfl) ?_
  refine tv_if_eq C dk_X2_attemptsOf_5 (fun h1 => ?_) (fun h1 => ?_)
  · refine tv_iconst (v := 0) C dk_X2_attemptsOf_17 (by decide) ?_
    exact tv_iret C hQ dk_X2_attemptsOf_18 rfl (by rw [f_X2_attemptsOf, if_pos h1]) rfl
  refine tv_aload_n C dk_X2_attemptsOf_8 rfl ?_
  refine tv_getR (r := (b + 4)) C dk_X2_attemptsOf_9 fl_RX2_15 (tvSB_sh hb 2 (by decide)).2 (tvSB_sh hb 2 (by decide)).1 (tvSB_rho hb (2, 2, 4) (by decide)) (fun _ _ _ _ => rfl) ?_
  refine tv_iload_n C dk_X2_attemptsOf_12 rfl ?_
  refine tv_iaload C dk_X2_attemptsOf_13 (tvSB_sh hb 4 (by decide)).2 (tvSB_sh hb 4 (by decide)).1 (f_X2_has_in h1) ?_
  refine tv_goto C dk_X2_attemptsOf_14 ?_
  exact tv_iret C hQ dk_X2_attemptsOf_18 rfl (by rw [f_X2_attemptsOf, if_neg h1]) rfl
/-- TideVault$Holders.setCode(II)V -/
def f_X2_setCode (M : tvM) (b : Nat) (x1 : Int32) (x2 : Int32) : tvM := (if (f_X2_has M b x1) = 0 then M else (tpi M (b + 3) x1.toNatClampNeg x2))
theorem m_X2_setCode (G : tvG) (M : tvM) {b : Nat} (hb : tvSB b) (x1 : Int32) (x2 : Int32) : tvRun G yX2_setCode cX2_setCode 3 none 2 0 0 tvP0 tvP0 [.ref (G.2.1 + (b + 2)), .int x1, .int x2] M (.inl none) (f_X2_setCode M b x1 x2) := by
  refine tvRun.of yk_X2_setCode rfl [some (.ref (G.2.1 + (b + 2))), some (.int x1), some (.int x2)] rfl (Nat.le_of_ble_eq_true rfl) ?_
  intro E hG C hQ; subst hG
  refine tv_aload_n C dk_X2_setCode_0 rfl ?_
  refine tv_iload_n C dk_X2_setCode_1 rfl ?_
  refine tv_cV1 C dk_X2_setCode_2 ml_RX2_31 yk_X2_has yi_X2_has (m_X2_has _ M hb x1) (tvSB_sh hb 2 (by decide)).2 (tvSB_sh hb 2 (by decide)).1 rfl rfl rfl (Nat.le_of_ble_eq_true rfl) (Nat.le_of_ble_eq_true rfl) (Nat.le_of_ble_eq_true rfl) (Nat.le_of_ble_eq_true rfl) (Nat.le_of_ble_eq_true rfl) ?_
  refine tv_if_eq C dk_X2_setCode_5 (fun h1 => ?_) (fun h1 => ?_)
  · exact tv_vret C hQ dk_X2_setCode_15 rfl (by rw [f_X2_setCode, if_pos h1])
  refine tv_aload_n C dk_X2_setCode_8 rfl ?_
  refine tv_getR (r := (b + 3)) C dk_X2_setCode_9 fl_RX2_9 (tvSB_sh hb 2 (by decide)).2 (tvSB_sh hb 2 (by decide)).1 (tvSB_rho hb (2, 1, 3) (by decide)) (fun _ _ _ _ => rfl) ?_
  refine tv_iload_n C dk_X2_setCode_12 rfl ?_
  refine tv_iload_n C dk_X2_setCode_13 rfl ?_
  refine tv_iastore C tvP0_ex dk_X2_setCode_14 (tvSB_sh hb 3 (by decide)).2 (tvSB_sh hb 3 (by decide)).1 (f_X2_has_in h1) ?_
  exact tv_vret C hQ dk_X2_setCode_15 rfl (by rw [f_X2_setCode, if_neg h1])
/-- TideVault$Holders.setAttempts(II)V -/
def f_X2_setAttempts (M : tvM) (b : Nat) (x1 : Int32) (x2 : Int32) : tvM := (if (f_X2_has M b x1) = 0 then M else (tpi M (b + 4) x1.toNatClampNeg x2))
theorem m_X2_setAttempts (G : tvG) (M : tvM) {b : Nat} (hb : tvSB b) (x1 : Int32) (x2 : Int32) : tvRun G yX2_setAttempts cX2_setAttempts 3 none 2 0 0 tvP0 tvP0 [.ref (G.2.1 + (b + 2)), .int x1, .int x2] M (.inl none) (f_X2_setAttempts M b x1 x2) := by
  refine tvRun.of yk_X2_setAttempts rfl [some (.ref (G.2.1 + (b + 2))), some (.int x1), some (.int x2)] rfl (Nat.le_of_ble_eq_true rfl) ?_
  intro E hG C hQ; subst hG
  refine tv_aload_n C dk_X2_setAttempts_0 rfl ?_
  refine tv_iload_n C dk_X2_setAttempts_1 rfl ?_
  refine tv_cV1 C dk_X2_setAttempts_2 ml_RX2_31 yk_X2_has yi_X2_has (m_X2_has _ M hb x1) (tvSB_sh hb 2 (by decide)).2 (tvSB_sh hb 2 (by decide)).1 rfl rfl rfl (Nat.le_of_ble_eq_true rfl) (Nat.le_of_ble_eq_true rfl) (Nat.le_of_ble_eq_true rfl) (Nat.le_of_ble_eq_true rfl) (Nat.le_of_ble_eq_true rfl) ?_
  refine tv_if_eq C dk_X2_setAttempts_5 (fun h1 => ?_) (fun h1 => ?_)
  · exact tv_vret C hQ dk_X2_setAttempts_15 rfl (by rw [f_X2_setAttempts, if_pos h1])
  refine tv_aload_n C dk_X2_setAttempts_8 rfl ?_
  refine tv_getR (r := (b + 4)) C dk_X2_setAttempts_9 fl_RX2_15 (tvSB_sh hb 2 (by decide)).2 (tvSB_sh hb 2 (by decide)).1 (tvSB_rho hb (2, 2, 4) (by decide)) (fun _ _ _ _ => rfl) ?_
  refine tv_iload_n C dk_X2_setAttempts_12 rfl ?_
  refine tv_iload_n C dk_X2_setAttempts_13 rfl ?_
  refine tv_iastore C tvP0_ex dk_X2_setAttempts_14 (tvSB_sh hb 4 (by decide)).2 (tvSB_sh hb 4 (by decide)).1 (f_X2_has_in h1) ?_
  exact tv_vret C hQ dk_X2_setAttempts_15 rfl (by rw [f_X2_setAttempts, if_neg h1])
/-- TideVault$Holders.lock(II)V -/
def f_X2_lock (M : tvM) (b : Nat) (x1 : Int32) (x2 : Int32) : tvM := (if (f_X2_has M b x1) = 0 then M else (tpi M (b + 5) x1.toNatClampNeg x2))
theorem m_X2_lock (G : tvG) (M : tvM) {b : Nat} (hb : tvSB b) (x1 : Int32) (x2 : Int32) : tvRun G yX2_lock cX2_lock 3 none 2 0 0 tvP0 tvP0 [.ref (G.2.1 + (b + 2)), .int x1, .int x2] M (.inl none) (f_X2_lock M b x1 x2) := by
  refine tvRun.of yk_X2_lock rfl [some (.ref (G.2.1 + (b + 2))), some (.int x1), some (.int x2)] rfl (Nat.le_of_ble_eq_true rfl) ?_
  intro E hG C hQ; subst hG
  refine tv_aload_n C dk_X2_lock_0 rfl ?_
  refine tv_iload_n C dk_X2_lock_1 rfl ?_
  refine tv_cV1 C dk_X2_lock_2 ml_RX2_31 yk_X2_has yi_X2_has (m_X2_has _ M hb x1) (tvSB_sh hb 2 (by decide)).2 (tvSB_sh hb 2 (by decide)).1 rfl rfl rfl (Nat.le_of_ble_eq_true rfl) (Nat.le_of_ble_eq_true rfl) (Nat.le_of_ble_eq_true rfl) (Nat.le_of_ble_eq_true rfl) (Nat.le_of_ble_eq_true rfl) ?_
  refine tv_if_eq C dk_X2_lock_5 (fun h1 => ?_) (fun h1 => ?_)
  · exact tv_vret C hQ dk_X2_lock_15 rfl (by rw [f_X2_lock, if_pos h1])
  refine tv_aload_n C dk_X2_lock_8 rfl ?_
  refine tv_getR (r := (b + 5)) C dk_X2_lock_9 fl_RX2_18 (tvSB_sh hb 2 (by decide)).2 (tvSB_sh hb 2 (by decide)).1 (tvSB_rho hb (2, 3, 5) (by decide)) (fun _ _ _ _ => rfl) ?_
  refine tv_iload_n C dk_X2_lock_12 rfl ?_
  refine tv_iload_n C dk_X2_lock_13 rfl ?_
  refine tv_iastore C tvP0_ex dk_X2_lock_14 (tvSB_sh hb 5 (by decide)).2 (tvSB_sh hb 5 (by decide)).1 (f_X2_has_in h1) ?_
  exact tv_vret C hQ dk_X2_lock_15 rfl (by rw [f_X2_lock, if_neg h1])
