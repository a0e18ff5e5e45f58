theorem w_newB {E : tvE} {X : va_W} {k sl pc pc' : Nat} {M : tvM} {L : List (Option Value)} {st : List Value} (C : tvC E RL cL_acts 6 (some .int) 12 300 6000 []) {pc1 pc2 : Nat} (hd1 : tvD cL_acts pc (.new 138) 3 pc1) (hd2 : tvD cL_acts pc1 .dup 1 pc2) (hd3 : tvD cL_acts pc2 (.invokespecial 140) 3 pc') (hcat : (st.map fun v => v.category).sum ≤ 6) (hk : k + 2 ≤ 300) (hs : sl + 20 ≤ 6000) (kk : ∀ p q : Nat, tv_W E (tvPX (X ++ [sbO p q 0 0, sbA E.G q 16 (fun _ => 0)])) (k + 1 + 1) (sl + 4 + 16) M pc' L (.ref p :: st)) : tv_W E (tvPX X) k sl M pc L st := by
  refine tx_new (N := 4) (fs := [.null, .int 0, .int 0, .int 0]) C hd1 xn_sb rfl (fun k hk => by rcases (show k = 0 ∨ k = 1 ∨ k = 2 ∨ k = 3 by omega) with rfl | rfl | rfl | rfl <;> rfl) (by omega) (by omega) (fun p => ?_)
  refine tv_dup C hd2 rfl ?_
  refine tx_pI C hd3 ml_RL_140 yk_J4_init_da8c8 rfl im_J4_init_da8c8 (a_J4_init _ _ M (sb_last X _)) sbV_no rfl rfl (z_cat hcat rfl) (Nat.le_of_ble_eq_true rfl) (Nat.le_of_ble_eq_true rfl) (by omega) (by omega) (fun v1 X1 M1 h1 => ?_)
  obtain ⟨e1, e2, q, h1⟩ := h1
  cases e1
  rw [e2, h1, sb_setl, List.append_assoc]
  exact kk p q
theorem w_appS {E : tvE} {X : va_W} {k sl pc pc' : Nat} {M : tvM} {L : List (Option Value)} {st : List Value} (C : tvC E RL cL_acts 6 (some .int) 12 300 6000 []) (hd : tvD cL_acts pc (.invokevirtual 143) 3 pc') {i j p n m a b w : Nat} {f : Nat → Int32} (hB : sbB E.G X i j p n m) (hm : m ≤ 120) (hT : sbT E.G X j a b w f) (hf : byG w f) (hw : n + w ≤ 60) (hcat : (st.map fun v => v.category).sum ≤ 6) (hk : k + 1 ≤ 300) (hs : sl + 120 ≤ 6000) (kk : ∀ (X1 : va_W) (j1 m1 : Nat), sbB E.G X1 i j1 p (n + w) m1 → m1 ≤ 120 → sbK X X1 i j j1 → tv_W E (tvPX X1) (k + 1) (sl + 120) M pc' L (.ref p :: st)) : tv_W E (tvPX X) k sl M pc L (.ref a :: .ref p :: st) := by
  obtain ⟨q, z, g, hx, hj, -⟩ := id hB
  refine tx_pV (i := i) (ci := 9) (T := TJ4) (N := 4) (Cn := "java/lang/StringBuilder") C hd ml_RL_143 yk_J4_append_15ec4 im_J4_append_15ec4 xs_J4_append_15ec4 (a_J4_appendS _ X M hB hm hT hf hw) sbV_no hx rfl rfl rfl (Nat.le_trans hcat (by decide)) (Nat.le_of_ble_eq_true rfl) (Nat.le_of_ble_eq_true rfl) (by omega) (by omega) (fun v1 X1 M1 h1 => ?_)
  obtain ⟨e1, e2, j1, m1, h2, h3, h4⟩ := h1
  cases e1
  rw [e2]
  exact kk X1 j1 m1 h2 h3 h4
theorem w_appI {E : tvE} {X : va_W} {k sl pc pc' : Nat} {M : tvM} {L : List (Option Value)} {st : List Value} (C : tvC E RL cL_acts 6 (some .int) 12 300 6000 []) (hd : tvD cL_acts pc (.invokevirtual 147) 3 pc') {i j p n m v : Nat} (hB : sbB E.G X i j p n m) (hm : m ≤ 120) (hv : v < 100) (hw : n + 2 ≤ 60) (hcat : (st.map fun v => v.category).sum ≤ 6) (hk : k + 1 ≤ 300) (hs : sl + 120 ≤ 6000) (kk : ∀ (X1 : va_W) (j1 m1 n1 : Nat), n1 ≤ n + 2 → sbB E.G X1 i j1 p n1 m1 → m1 ≤ 120 → sbK X X1 i j j1 → tv_W E (tvPX X1) (k + 1) (sl + 120) M pc' L (.ref p :: st)) : tv_W E (tvPX X) k sl M pc L (.int (nI v) :: .ref p :: st) := by
  obtain ⟨q, z, g, hx, hj, -⟩ := id hB
  refine tx_pV (i := i) (ci := 9) (T := TJ4) (N := 4) (Cn := "java/lang/StringBuilder") C hd ml_RL_147 yk_J4_append_bf812 im_J4_append_bf812 xs_J4_append_bf812 (a_J4_appendI _ X M hB hm hv hw) sbV_no hx rfl rfl rfl (Nat.le_trans hcat (by decide)) (Nat.le_of_ble_eq_true rfl) (Nat.le_of_ble_eq_true rfl) (by omega) (by omega) (fun v1 X1 M1 h1 => ?_)
  obtain ⟨e1, e2, j1, m1, h2, h3, h4⟩ := h1
  cases e1
  rw [e2]
  exact kk X1 j1 m1 _ (by split <;> omega) h2 h3 h4
theorem w_toS {E : tvE} {X : va_W} {k sl pc pc' : Nat} {M : tvM} {L : List (Option Value)} {st : List Value} (C : tvC E RL cL_acts 6 (some .int) 12 300 6000 []) (hd : tvD cL_acts pc (.invokevirtual 156) 3 pc') {i j p n m : Nat} (hB : sbB E.G X i j p n m) (hm : m ≤ 120) (hcat : (st.map fun v => v.category).sum ≤ 6) (hk : k + 2 ≤ 300) (hs : sl + 124 ≤ 6000) (kk : ∀ (a b : Nat) (g : Nat → Int32), byG n g → tv_W E (tvPX (X ++ [(a, .inr (10, [.ref b, .int 0, .int 0, .int 0])), sbA E.G b n g])) (k + 2) (sl + 124) M pc' L (.ref a :: st)) : tv_W E (tvPX X) k sl M pc L (.ref p :: st) := by
  obtain ⟨q, z, g, hx, hj, -⟩ := id hB
  refine tx_pV (i := i) (ci := 9) (T := TJ4) (N := 4) (Cn := "java/lang/StringBuilder") C hd ml_RL_156 yk_J4_toString_0e30d im_J4_toString_0e30d xs_J4_toString_0e30d (a_J4_toString _ X M hB hm) sbR_no hx rfl rfl rfl (Nat.le_trans hcat (by decide)) (Nat.le_of_ble_eq_true rfl) (Nat.le_of_ble_eq_true rfl) (by omega) (by omega) (fun v1 X1 M1 h1 => ?_)
  obtain ⟨a, e1, e2, b, g, h2, h3, h4⟩ := h1
  cases e1
  rw [e2, h2]
  exact kk a b g h4

theorem w_acts_d {E : tvE} {M : tvM} (C : tvC E RL cL_acts 6 (some .int) 12 300 6000 []) {B : Nat} {s : Nat → Nat} {x n0 : Nat} {S : Nat → Nat → Nat} (hG : pG B M s x n0 S) (h0 : zE M) (hB : B + 14400 ≤ 10000000) (hQ : tvEndX E (aP (B + 14400) s) 300 6000) {i a b c : Nat} (ha : a < 5) (hb : b < 5) (hc : c < 60) : tv_W E (tvPX []) 0 0 M 312 [some (.ref (E.G.2.1 + 0)), some (.ref E.G.sb), some (.int (nI i)), some (.int (nI a)), some (.int (nI b)), some (.int (nI c))] [] := by
  refine tv_aload_n C dk_L_acts_312 rfl ?_
  refine w_newB C dk_L_acts_313 dk_L_acts_316 dk_L_acts_317 (Nat.le_of_ble_eq_true rfl) (by omega) (by omega) (fun p q => ?_)
  have hB0 : sbB E.G ([] ++ [sbO p q 0 0, sbA E.G q 16 (fun _ => 0)]) 0 1 p 0 16 := sbB_new [] p q
  refine tv_ldcS (i := 3) C dk_L_acts_320 (List.mem_of_getElem? (i := 38) rfl) ?_
  refine w_appS C dk_L_acts_322 hB0 (by omega) (zt_3 _ _ _) zg_3 (by omega) (Nat.le_of_ble_eq_true rfl) (by omega) (by omega) (fun Xy1 jy1 my1 hBy1 hmy1 hKy1 => ?_)
  refine tv_iload_n C dk_L_acts_325 rfl ?_
  refine w_appI C dk_L_acts_326 hBy1 hmy1 (v := a) (by omega) (by omega) (Nat.le_of_ble_eq_true rfl) (by omega) (by omega) (fun Xy2 jy2 my2 ny2 hny2 hBy2 hmy2 hKy2 => ?_)
  refine tv_ldcS (i := 27) C dk_L_acts_329 (List.mem_of_getElem? (i := 18) rfl) ?_
  refine w_appS C dk_L_acts_331 hBy2 hmy2 (zt_27 _ _ _) zg_27 (by omega) (Nat.le_of_ble_eq_true rfl) (by omega) (by omega) (fun Xy3 jy3 my3 hBy3 hmy3 hKy3 => ?_)
  refine tv_iload C dk_L_acts_334 rfl ?_
  refine w_appI C dk_L_acts_336 hBy3 hmy3 (v := b) (by omega) (by omega) (Nat.le_of_ble_eq_true rfl) (by omega) (by omega) (fun Xy4 jy4 my4 ny4 hny4 hBy4 hmy4 hKy4 => ?_)
  refine tv_ldcS (i := 28) C dk_L_acts_339 (List.mem_of_getElem? (i := 19) rfl) ?_
  refine w_appS C dk_L_acts_341 hBy4 hmy4 (zt_28 _ _ _) zg_28 (by omega) (Nat.le_of_ble_eq_true rfl) (by omega) (by omega) (fun Xy5 jy5 my5 hBy5 hmy5 hKy5 => ?_)
  refine tv_iload C dk_L_acts_344 rfl ?_
  refine tv_iconst (v := nI 5) C dk_L_acts_346 (by decide) ?_
  refine tv_irem C dk_L_acts_347 (by decide) ?_
  refine tv_ti (v := nI (c % 5)) (pn_rem (by omega) (by omega) (by omega)) ?_
  have key : ∀ v : Nat, v < 100 → tv_W E (tvPX Xy5) (0 + 1 + 1 + 1 + 1 + 1 + 1 + 1) (0 + 4 + 16 + 120 + 120 + 120 + 120 + 120) M 361 [some (.ref (E.G.2.1 + 0)), some (.ref E.G.sb), some (.int (nI i)), some (.int (nI a)), some (.int (nI b)), some (.int (nI c))] [.int (nI v), .ref p, .ref (E.G.2.1 + 0)] := by
    intro v hv
    refine w_appI C dk_L_acts_361 hBy5 hmy5 hv (by omega) (Nat.le_of_ble_eq_true rfl) (by omega) (by omega) (fun Xo jo mo no hno hO hmo hKo => ?_)
    have hol := hO.lt
    have fin : ∀ (X2 : va_W) (n2 m2 a2 b2 w2 : Nat) (f2 : Nat → Int32) (k2 l2 : Nat), sbB E.G X2 0 jo p n2 m2 → m2 ≤ 120 → n2 ≤ 20 → sbT E.G X2 jo a2 b2 w2 f2 → byG w2 f2 → w2 ≤ 40 → k2 ≤ 200 → l2 ≤ 4000 → tv_W E (tvPX X2) k2 l2 M 462 [some (.ref (E.G.2.1 + 0)), some (.ref E.G.sb), some (.int (nI i)), some (.int (nI a)), some (.int (nI b)), some (.int (nI c))] [.ref a2, .ref p, .ref (E.G.2.1 + 0)] := by
      intro X2 n2 m2 a2 b2 w2 f2 k2 l2 hB2 hm2 hn2 hT2 hg2 hw2 hk2 hl2
      refine w_appS C dk_L_acts_462 hB2 hm2 hT2 hg2 (by omega) (Nat.le_of_ble_eq_true rfl) (by omega) (by omega) (fun X3 j3 m3 hB3 hm3 hK3 => ?_)
      refine w_toS C dk_L_acts_465 hB3 hm3 (Nat.le_of_ble_eq_true rfl) (by omega) (by omega) (fun a4 b4 g4 hg4 => ?_)
      refine tx_pS (As := [.ref (E.G.2.1 + 0), .ref a4]) C dk_L_acts_468 ml_RL_166 yk_L_does yi_L_does (a_L_does _ _ M (sbT_str X3 a4 b4 _ X3.length.pred g4 (Nat.pred_lt (by have := hB3.lt; omega))).txt hg4 (by omega) hG h0 hB) dP_no rfl rfl (Nat.le_of_ble_eq_true rfl) (Nat.le_of_ble_eq_true rfl) (Nat.le_of_ble_eq_true rfl) (by omega) (by omega) (fun v5 X5 M5 h5 => ?_)
      obtain ⟨z, e1, h6⟩ := id h5
      cases e1
      have h7 := dP_a h5
      refine tx_drop0 ?_
      show tv_W E _ _ _ _ _ _ [.int z]
      exact tx_iret C hQ dk_L_acts_471 rfl h7 (by omega) (by omega)
    refine tv_iload C dk_L_acts_364 rfl ?_
    refine tv_iconst (v := nI 3) C dk_L_acts_366 (by decide) ?_
    refine tv_irem C dk_L_acts_367 (by decide) ?_
    refine tv_ti (v := nI (c % 3)) (pn_rem (by omega) (by omega) (by omega)) ?_
    by_cases q3 : c % 3 = 0
    · skip
      refine tv_if_ne C dk_L_acts_368 (fun h => absurd (by rw [q3]; rfl) h) (fun _ => ?_)
      refine w_newB C dk_L_acts_371 dk_L_acts_374 dk_L_acts_375 (Nat.le_of_ble_eq_true rfl) (by omega) (by omega) (fun p2 q => ?_)
      have hO0 := hO.app [sbO p2 q 0 0, sbA E.G q 16 (fun _ => 0)]
      have hil : 0 < Xo.length := hol.1
      have hjl : jo < Xo.length := hol.2
      have hlt : Xo.length < Xo.length + 1 := Nat.lt_succ_self _
      refine tv_ldcS (i := 29) C dk_L_acts_378 (List.mem_of_getElem? (i := 20) rfl) ?_
      refine w_appS C dk_L_acts_380 (sbB_new Xo p2 q) (by omega) (zt_29 _ _ _) zg_29 (by omega) (Nat.le_of_ble_eq_true rfl) (by omega) (by omega) (fun Xz6 jz6 mz6 hBz6 hmz6 hKz6 => ?_)
      have hOz6 := hO0.keep hKz6 hil (by omega) hlt
      have hlt := hKz6.lt (sbB_new Xo p2 q) hlt
      refine tv_iload C dk_L_acts_383 rfl ?_
      refine w_appI C dk_L_acts_385 hBz6 hmz6 (v := c) (by omega) (by omega) (Nat.le_of_ble_eq_true rfl) (by omega) (by omega) (fun Xz7 jz7 mz7 nz7 hnz7 hBz7 hmz7 hKz7 => ?_)
      have hOz7 := hOz6.keep hKz7 hil (by omega) hlt
      have hlt := hKz7.lt hBz6 hlt
      refine w_toS C dk_L_acts_388 hBz7 hmz7 (Nat.le_of_ble_eq_true rfl) (by omega) (by omega) (fun a3 b3 g3 hg3 => ?_)
      refine tv_goto C dk_L_acts_391 ?_
      exact fin _ _ _ _ _ _ _ _ _ (hOz7.app _) hmo (by omega) (sbT_str _ a3 b3 _ jo g3 hOz7.lt.2) hg3 (by omega) (by omega) (by omega)
    · skip
      refine tv_if_ne C dk_L_acts_368 (fun _ => ?_) (fun h => absurd ((pn_eq (a := c % 3) (b := 0) (by omega) (by omega)).1 h) q3)
      refine tv_iload C dk_L_acts_394 rfl ?_
      refine tv_iconst (v := nI 3) C dk_L_acts_396 (by decide) ?_
      refine tv_irem C dk_L_acts_397 (by decide) ?_
      refine tv_ti (v := nI (c % 3)) (pn_rem (by omega) (by omega) (by omega)) ?_
      refine tv_iconst (v := nI 1) C dk_L_acts_398 (by decide) ?_
      by_cases q1 : c % 3 = 1
      · skip
        refine tv_icmp_ne C dk_L_acts_399 (fun h => absurd (by rw [q1]) h) (fun _ => ?_)
        refine w_newB C dk_L_acts_402 dk_L_acts_405 dk_L_acts_406 (Nat.le_of_ble_eq_true rfl) (by omega) (by omega) (fun p2 q => ?_)
        have hO0 := hO.app [sbO p2 q 0 0, sbA E.G q 16 (fun _ => 0)]
        have hil : 0 < Xo.length := hol.1
        have hjl : jo < Xo.length := hol.2
        have hlt : Xo.length < Xo.length + 1 := Nat.lt_succ_self _
        refine tv_ldcS (i := 30) C dk_L_acts_409 (List.mem_of_getElem? (i := 21) rfl) ?_
        refine w_appS C dk_L_acts_411 (sbB_new Xo p2 q) (by omega) (zt_30 _ _ _) zg_30 (by omega) (Nat.le_of_ble_eq_true rfl) (by omega) (by omega) (fun Xz8 jz8 mz8 hBz8 hmz8 hKz8 => ?_)
        have hOz8 := hO0.keep hKz8 hil (by omega) hlt
        have hlt := hKz8.lt (sbB_new Xo p2 q) hlt
        refine tv_iload_n C dk_L_acts_414 rfl ?_
        refine w_appI C dk_L_acts_415 hBz8 hmz8 (v := a) (by omega) (by omega) (Nat.le_of_ble_eq_true rfl) (by omega) (by omega) (fun Xz9 jz9 mz9 nz9 hnz9 hBz9 hmz9 hKz9 => ?_)
        have hOz9 := hOz8.keep hKz9 hil (by omega) hlt
        have hlt := hKz9.lt hBz8 hlt
        refine tv_ldcS (i := 28) C dk_L_acts_418 (List.mem_of_getElem? (i := 19) rfl) ?_
        refine w_appS C dk_L_acts_420 hBz9 hmz9 (zt_28 _ _ _) zg_28 (by omega) (Nat.le_of_ble_eq_true rfl) (by omega) (by omega) (fun Xz10 jz10 mz10 hBz10 hmz10 hKz10 => ?_)
        have hOz10 := hOz9.keep hKz10 hil (by omega) hlt
        have hlt := hKz10.lt hBz9 hlt
        refine tv_iload C dk_L_acts_423 rfl ?_
        refine w_appI C dk_L_acts_425 hBz10 hmz10 (v := c) (by omega) (by omega) (Nat.le_of_ble_eq_true rfl) (by omega) (by omega) (fun Xz11 jz11 mz11 nz11 hnz11 hBz11 hmz11 hKz11 => ?_)
        have hOz11 := hOz10.keep hKz11 hil (by omega) hlt
        have hlt := hKz11.lt hBz10 hlt
        refine tv_ldcS (i := 31) C dk_L_acts_428 (List.mem_of_getElem? (i := 22) rfl) ?_
        refine w_appS C dk_L_acts_430 hBz11 hmz11 (zt_31 _ _ _) zg_31 (by omega) (Nat.le_of_ble_eq_true rfl) (by omega) (by omega) (fun Xz12 jz12 mz12 hBz12 hmz12 hKz12 => ?_)
        have hOz12 := hOz11.keep hKz12 hil (by omega) hlt
        have hlt := hKz12.lt hBz11 hlt
        refine tv_iload_n C dk_L_acts_433 rfl ?_
        refine w_appI C dk_L_acts_434 hBz12 hmz12 (v := a) (by omega) (by omega) (Nat.le_of_ble_eq_true rfl) (by omega) (by omega) (fun Xz13 jz13 mz13 nz13 hnz13 hBz13 hmz13 hKz13 => ?_)
        have hOz13 := hOz12.keep hKz13 hil (by omega) hlt
        have hlt := hKz13.lt hBz12 hlt
        refine w_toS C dk_L_acts_437 hBz13 hmz13 (Nat.le_of_ble_eq_true rfl) (by omega) (by omega) (fun a3 b3 g3 hg3 => ?_)
        refine tv_goto C dk_L_acts_440 ?_
        exact fin _ _ _ _ _ _ _ _ _ (hOz13.app _) hmo (by omega) (sbT_str _ a3 b3 _ jo g3 hOz13.lt.2) hg3 (by omega) (by omega) (by omega)
      · skip
        refine tv_icmp_ne C dk_L_acts_399 (fun _ => ?_) (fun h => absurd ((pn_eq (a := c % 3) (b := 1) (by omega) (by omega)).1 h) q1)
        refine w_newB C dk_L_acts_443 dk_L_acts_446 dk_L_acts_447 (Nat.le_of_ble_eq_true rfl) (by omega) (by omega) (fun p2 q => ?_)
        have hO0 := hO.app [sbO p2 q 0 0, sbA E.G q 16 (fun _ => 0)]
        have hil : 0 < Xo.length := hol.1
        have hjl : jo < Xo.length := hol.2
        have hlt : Xo.length < Xo.length + 1 := Nat.lt_succ_self _
        refine tv_ldcS (i := 32) C dk_L_acts_450 (List.mem_of_getElem? (i := 23) rfl) ?_
        refine w_appS C dk_L_acts_452 (sbB_new Xo p2 q) (by omega) (zt_32 _ _ _) zg_32 (by omega) (Nat.le_of_ble_eq_true rfl) (by omega) (by omega) (fun Xz14 jz14 mz14 hBz14 hmz14 hKz14 => ?_)
        have hOz14 := hO0.keep hKz14 hil (by omega) hlt
        have hlt := hKz14.lt (sbB_new Xo p2 q) hlt
        refine tv_iload_n C dk_L_acts_455 rfl ?_
        refine w_appI C dk_L_acts_456 hBz14 hmz14 (v := a) (by omega) (by omega) (Nat.le_of_ble_eq_true rfl) (by omega) (by omega) (fun Xz15 jz15 mz15 nz15 hnz15 hBz15 hmz15 hKz15 => ?_)
        have hOz15 := hOz14.keep hKz15 hil (by omega) hlt
        have hlt := hKz15.lt hBz14 hlt
        refine w_toS C dk_L_acts_459 hBz15 hmz15 (Nat.le_of_ble_eq_true rfl) (by omega) (by omega) (fun a3 b3 g3 hg3 => ?_)
        exact fin _ _ _ _ _ _ _ _ _ (hOz15.app _) hmo (by omega) (sbT_str _ a3 b3 _ jo g3 hOz15.lt.2) hg3 (by omega) (by omega) (by omega)
  by_cases q5 : c % 5 = 0
  · skip
    refine tv_if_ne C dk_L_acts_348 (fun h => absurd (by rw [q5]; rfl) h) (fun _ => ?_)
    refine tv_iload C dk_L_acts_351 rfl ?_
    refine tv_goto C dk_L_acts_353 ?_
    exact key c (by omega)
  · skip
    refine tv_if_ne C dk_L_acts_348 (fun _ => ?_) (fun h => absurd ((pn_eq (a := c % 5) (b := 0) (by omega) (by omega)).1 h) q5)
    refine tv_bipush (v := nI 7) C dk_L_acts_356 (by decide) ?_
    refine tv_iload C dk_L_acts_358 rfl ?_
    refine tv_imul C dk_L_acts_360 ?_
    refine tv_ti (v := nI (7 * b)) (pn_mul 7 b) ?_
    exact key (7 * b) (by omega)
