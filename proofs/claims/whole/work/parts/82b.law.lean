theorem nw_RL_8 : tvNw RL 8 8 := ⟨_, _, _, rfl, rfl, tvIn_8, tyX8_ok, tvgc (tvc_1 (List.mem_of_getElem? (i := 27) (by decide +kernel))) rfl, tvgc (tvc_1 (List.mem_of_getElem? (i := 28) (by decide +kernel))) rfl, tvgc (tvc_1 (List.mem_of_getElem? (i := 1) (by decide +kernel))) rfl, by decide⟩
theorem nw_RL_143 : tvNw RL 143 9 := ⟨_, _, _, rfl, rfl, tvIn_9, tyX9_ok, tvgc (tvc_6 (List.mem_of_getElem? (i := 152) (by decide +kernel))) rfl, tvgc (tvc_6 (List.mem_of_getElem? (i := 153) (by decide +kernel))) rfl, tvgc (tvc_1 (List.mem_of_getElem? (i := 10) (by decide +kernel))) rfl, by decide⟩
theorem ml_RL_142 : Cond.methodLink RL 142 yX8_init ∈ tvGW := tvgc (tvc_1 (List.mem_of_getElem? (i := 29) (by decide +kernel))) rfl
theorem ml_RL_145 : Cond.methodLink RL 145 yX9_init ∈ tvGW := tvgc (tvc_6 (List.mem_of_getElem? (i := 154) (by decide +kernel))) rfl
theorem ym_X8_init : Cond.instanceMethod yX8_init ∈ tvGW := tvgc (tvc_1 (List.mem_of_getElem? (i := 30) (by decide +kernel))) rfl
theorem ym_X9_init : Cond.instanceMethod yX9_init ∈ tvGW := tvgc (tvc_6 (List.mem_of_getElem? (i := 155) (by decide +kernel))) rfl
theorem ac_L_long : Cond.arrayClass (newarray.typeOf .long) ∈ tvGW := tvgc (tvc_8 (List.mem_of_getElem? (i := 148) (by decide +kernel))) rfl
theorem ac_L_double : Cond.arrayClass (newarray.typeOf .double) ∈ tvGW := tvgc (tvc_8 (List.mem_of_getElem? (i := 149) (by decide +kernel))) rfl
def tvLof : Array Int := #[208, 264, 344, 412, 492, 572, 640, 696, 752, 808, 821, 834, 890, 946, 959, 972, 1028, 1084, 1140, 1153, 1221, 1277, 1333, 1389, 1445, 1501, 1557, 1625, 1681, 1695, 1709, 1774, 1840, 1853, 1909, 1965, 2021, 2034, 2090, 2103, 2159, 2217, 2261, 2305, 2349, 2400, 2444, 2457]
theorem dk_L_law_44 : decode cL_law 44 = .ok (.tableswitch 2501 0 47 tvLof, 208) := by decide +kernel
theorem dk_L_law_44_0 : tvSw cL_law 44 0 252 := Or.inl ⟨2501, 0, 47, tvLof, 208, 208, dk_L_law_44, by decide, by decide, by decide, by decide⟩
theorem dk_L_law_44_1 : tvSw cL_law 44 1 308 := Or.inl ⟨2501, 0, 47, tvLof, 208, 264, dk_L_law_44, by decide, by decide, by decide, by decide⟩
theorem dk_L_law_44_2 : tvSw cL_law 44 2 388 := Or.inl ⟨2501, 0, 47, tvLof, 208, 344, dk_L_law_44, by decide, by decide, by decide, by decide⟩
theorem dk_L_law_44_3 : tvSw cL_law 44 3 456 := Or.inl ⟨2501, 0, 47, tvLof, 208, 412, dk_L_law_44, by decide, by decide, by decide, by decide⟩
theorem dk_L_law_44_4 : tvSw cL_law 44 4 536 := Or.inl ⟨2501, 0, 47, tvLof, 208, 492, dk_L_law_44, by decide, by decide, by decide, by decide⟩
theorem dk_L_law_44_5 : tvSw cL_law 44 5 616 := Or.inl ⟨2501, 0, 47, tvLof, 208, 572, dk_L_law_44, by decide, by decide, by decide, by decide⟩
theorem dk_L_law_44_6 : tvSw cL_law 44 6 684 := Or.inl ⟨2501, 0, 47, tvLof, 208, 640, dk_L_law_44, by decide, by decide, by decide, by decide⟩
theorem dk_L_law_44_7 : tvSw cL_law 44 7 740 := Or.inl ⟨2501, 0, 47, tvLof, 208, 696, dk_L_law_44, by decide, by decide, by decide, by decide⟩
theorem dk_L_law_44_8 : tvSw cL_law 44 8 796 := Or.inl ⟨2501, 0, 47, tvLof, 208, 752, dk_L_law_44, by decide, by decide, by decide, by decide⟩
theorem dk_L_law_44_9 : tvSw cL_law 44 9 852 := Or.inl ⟨2501, 0, 47, tvLof, 208, 808, dk_L_law_44, by decide, by decide, by decide, by decide⟩
theorem dk_L_law_44_10 : tvSw cL_law 44 10 865 := Or.inl ⟨2501, 0, 47, tvLof, 208, 821, dk_L_law_44, by decide, by decide, by decide, by decide⟩
theorem dk_L_law_44_11 : tvSw cL_law 44 11 878 := Or.inl ⟨2501, 0, 47, tvLof, 208, 834, dk_L_law_44, by decide, by decide, by decide, by decide⟩
theorem dk_L_law_44_12 : tvSw cL_law 44 12 934 := Or.inl ⟨2501, 0, 47, tvLof, 208, 890, dk_L_law_44, by decide, by decide, by decide, by decide⟩
theorem dk_L_law_44_13 : tvSw cL_law 44 13 990 := Or.inl ⟨2501, 0, 47, tvLof, 208, 946, dk_L_law_44, by decide, by decide, by decide, by decide⟩
theorem dk_L_law_44_14 : tvSw cL_law 44 14 1003 := Or.inl ⟨2501, 0, 47, tvLof, 208, 959, dk_L_law_44, by decide, by decide, by decide, by decide⟩
theorem dk_L_law_44_15 : tvSw cL_law 44 15 1016 := Or.inl ⟨2501, 0, 47, tvLof, 208, 972, dk_L_law_44, by decide, by decide, by decide, by decide⟩
theorem dk_L_law_44_16 : tvSw cL_law 44 16 1072 := Or.inl ⟨2501, 0, 47, tvLof, 208, 1028, dk_L_law_44, by decide, by decide, by decide, by decide⟩
theorem dk_L_law_44_17 : tvSw cL_law 44 17 1128 := Or.inl ⟨2501, 0, 47, tvLof, 208, 1084, dk_L_law_44, by decide, by decide, by decide, by decide⟩
theorem dk_L_law_44_18 : tvSw cL_law 44 18 1184 := Or.inl ⟨2501, 0, 47, tvLof, 208, 1140, dk_L_law_44, by decide, by decide, by decide, by decide⟩
theorem dk_L_law_44_19 : tvSw cL_law 44 19 1197 := Or.inl ⟨2501, 0, 47, tvLof, 208, 1153, dk_L_law_44, by decide, by decide, by decide, by decide⟩
theorem dk_L_law_44_20 : tvSw cL_law 44 20 1265 := Or.inl ⟨2501, 0, 47, tvLof, 208, 1221, dk_L_law_44, by decide, by decide, by decide, by decide⟩
theorem dk_L_law_44_21 : tvSw cL_law 44 21 1321 := Or.inl ⟨2501, 0, 47, tvLof, 208, 1277, dk_L_law_44, by decide, by decide, by decide, by decide⟩
theorem dk_L_law_44_22 : tvSw cL_law 44 22 1377 := Or.inl ⟨2501, 0, 47, tvLof, 208, 1333, dk_L_law_44, by decide, by decide, by decide, by decide⟩
theorem dk_L_law_44_23 : tvSw cL_law 44 23 1433 := Or.inl ⟨2501, 0, 47, tvLof, 208, 1389, dk_L_law_44, by decide, by decide, by decide, by decide⟩
theorem dk_L_law_44_24 : tvSw cL_law 44 24 1489 := Or.inl ⟨2501, 0, 47, tvLof, 208, 1445, dk_L_law_44, by decide, by decide, by decide, by decide⟩
theorem dk_L_law_44_25 : tvSw cL_law 44 25 1545 := Or.inl ⟨2501, 0, 47, tvLof, 208, 1501, dk_L_law_44, by decide, by decide, by decide, by decide⟩
theorem dk_L_law_44_26 : tvSw cL_law 44 26 1601 := Or.inl ⟨2501, 0, 47, tvLof, 208, 1557, dk_L_law_44, by decide, by decide, by decide, by decide⟩
theorem dk_L_law_44_27 : tvSw cL_law 44 27 1669 := Or.inl ⟨2501, 0, 47, tvLof, 208, 1625, dk_L_law_44, by decide, by decide, by decide, by decide⟩
theorem dk_L_law_44_28 : tvSw cL_law 44 28 1725 := Or.inl ⟨2501, 0, 47, tvLof, 208, 1681, dk_L_law_44, by decide, by decide, by decide, by decide⟩
theorem dk_L_law_44_29 : tvSw cL_law 44 29 1739 := Or.inl ⟨2501, 0, 47, tvLof, 208, 1695, dk_L_law_44, by decide, by decide, by decide, by decide⟩
theorem dk_L_law_44_30 : tvSw cL_law 44 30 1753 := Or.inl ⟨2501, 0, 47, tvLof, 208, 1709, dk_L_law_44, by decide, by decide, by decide, by decide⟩
theorem dk_L_law_44_31 : tvSw cL_law 44 31 1818 := Or.inl ⟨2501, 0, 47, tvLof, 208, 1774, dk_L_law_44, by decide, by decide, by decide, by decide⟩
theorem dk_L_law_44_32 : tvSw cL_law 44 32 1884 := Or.inl ⟨2501, 0, 47, tvLof, 208, 1840, dk_L_law_44, by decide, by decide, by decide, by decide⟩
theorem dk_L_law_44_33 : tvSw cL_law 44 33 1897 := Or.inl ⟨2501, 0, 47, tvLof, 208, 1853, dk_L_law_44, by decide, by decide, by decide, by decide⟩
theorem dk_L_law_44_34 : tvSw cL_law 44 34 1953 := Or.inl ⟨2501, 0, 47, tvLof, 208, 1909, dk_L_law_44, by decide, by decide, by decide, by decide⟩
theorem dk_L_law_44_35 : tvSw cL_law 44 35 2009 := Or.inl ⟨2501, 0, 47, tvLof, 208, 1965, dk_L_law_44, by decide, by decide, by decide, by decide⟩
theorem dk_L_law_44_36 : tvSw cL_law 44 36 2065 := Or.inl ⟨2501, 0, 47, tvLof, 208, 2021, dk_L_law_44, by decide, by decide, by decide, by decide⟩
theorem dk_L_law_44_37 : tvSw cL_law 44 37 2078 := Or.inl ⟨2501, 0, 47, tvLof, 208, 2034, dk_L_law_44, by decide, by decide, by decide, by decide⟩
theorem dk_L_law_44_38 : tvSw cL_law 44 38 2134 := Or.inl ⟨2501, 0, 47, tvLof, 208, 2090, dk_L_law_44, by decide, by decide, by decide, by decide⟩
theorem dk_L_law_44_39 : tvSw cL_law 44 39 2147 := Or.inl ⟨2501, 0, 47, tvLof, 208, 2103, dk_L_law_44, by decide, by decide, by decide, by decide⟩
theorem dk_L_law_44_40 : tvSw cL_law 44 40 2203 := Or.inl ⟨2501, 0, 47, tvLof, 208, 2159, dk_L_law_44, by decide, by decide, by decide, by decide⟩
theorem dk_L_law_44_41 : tvSw cL_law 44 41 2261 := Or.inl ⟨2501, 0, 47, tvLof, 208, 2217, dk_L_law_44, by decide, by decide, by decide, by decide⟩
theorem dk_L_law_44_42 : tvSw cL_law 44 42 2305 := Or.inl ⟨2501, 0, 47, tvLof, 208, 2261, dk_L_law_44, by decide, by decide, by decide, by decide⟩
theorem dk_L_law_44_43 : tvSw cL_law 44 43 2349 := Or.inl ⟨2501, 0, 47, tvLof, 208, 2305, dk_L_law_44, by decide, by decide, by decide, by decide⟩
theorem dk_L_law_44_44 : tvSw cL_law 44 44 2393 := Or.inl ⟨2501, 0, 47, tvLof, 208, 2349, dk_L_law_44, by decide, by decide, by decide, by decide⟩
theorem dk_L_law_44_45 : tvSw cL_law 44 45 2444 := Or.inl ⟨2501, 0, 47, tvLof, 208, 2400, dk_L_law_44, by decide, by decide, by decide, by decide⟩
theorem dk_L_law_44_46 : tvSw cL_law 44 46 2488 := Or.inl ⟨2501, 0, 47, tvLof, 208, 2444, dk_L_law_44, by decide, by decide, by decide, by decide⟩
theorem dk_L_law_44_47 : tvSw cL_law 44 47 2501 := Or.inl ⟨2501, 0, 47, tvLof, 208, 2457, dk_L_law_44, by decide, by decide, by decide, by decide⟩
theorem dk_L_law_44_d {x : Int32} (h0 : ¬ x = 0) (h1 : ¬ x = 1) (h2 : ¬ x = 2) (h3 : ¬ x = 3) (h4 : ¬ x = 4) (h5 : ¬ x = 5) (h6 : ¬ x = 6) (h7 : ¬ x = 7) (h8 : ¬ x = 8) (h9 : ¬ x = 9) (h10 : ¬ x = 10) (h11 : ¬ x = 11) (h12 : ¬ x = 12) (h13 : ¬ x = 13) (h14 : ¬ x = 14) (h15 : ¬ x = 15) (h16 : ¬ x = 16) (h17 : ¬ x = 17) (h18 : ¬ x = 18) (h19 : ¬ x = 19) (h20 : ¬ x = 20) (h21 : ¬ x = 21) (h22 : ¬ x = 22) (h23 : ¬ x = 23) (h24 : ¬ x = 24) (h25 : ¬ x = 25) (h26 : ¬ x = 26) (h27 : ¬ x = 27) (h28 : ¬ x = 28) (h29 : ¬ x = 29) (h30 : ¬ x = 30) (h31 : ¬ x = 31) (h32 : ¬ x = 32) (h33 : ¬ x = 33) (h34 : ¬ x = 34) (h35 : ¬ x = 35) (h36 : ¬ x = 36) (h37 : ¬ x = 37) (h38 : ¬ x = 38) (h39 : ¬ x = 39) (h40 : ¬ x = 40) (h41 : ¬ x = 41) (h42 : ¬ x = 42) (h43 : ¬ x = 43) (h44 : ¬ x = 44) (h45 : ¬ x = 45) (h46 : ¬ x = 46) (h47 : ¬ x = 47) : tvSw cL_law 44 x 2545 := by
  refine Or.inr (Or.inl ⟨2501, 0, 47, tvLof, 208, dk_L_law_44, tvsw_out x 0 48 (by decide) ?_, by decide⟩)
  intro c u1 u2
  rcases (show c = 0 ∨ c = 1 ∨ c = 2 ∨ c = 3 ∨ c = 4 ∨ c = 5 ∨ c = 6 ∨ c = 7 ∨ c = 8 ∨ c = 9 ∨ c = 10 ∨ c = 11 ∨ c = 12 ∨ c = 13 ∨ c = 14 ∨ c = 15 ∨ c = 16 ∨ c = 17 ∨ c = 18 ∨ c = 19 ∨ c = 20 ∨ c = 21 ∨ c = 22 ∨ c = 23 ∨ c = 24 ∨ c = 25 ∨ c = 26 ∨ c = 27 ∨ c = 28 ∨ c = 29 ∨ c = 30 ∨ c = 31 ∨ c = 32 ∨ c = 33 ∨ c = 34 ∨ c = 35 ∨ c = 36 ∨ c = 37 ∨ c = 38 ∨ c = 39 ∨ c = 40 ∨ c = 41 ∨ c = 42 ∨ c = 43 ∨ c = 44 ∨ c = 45 ∨ c = 46 ∨ c = 47 by omega) with rfl | rfl | rfl | rfl | rfl | rfl | rfl | rfl | rfl | rfl | rfl | rfl | rfl | rfl | rfl | rfl | rfl | rfl | rfl | rfl | rfl | rfl | rfl | rfl | rfl | rfl | rfl | rfl | rfl | rfl | rfl | rfl | rfl | rfl | rfl | rfl | rfl | rfl | rfl | rfl | rfl | rfl | rfl | rfl | rfl | rfl | rfl | rfl
  · exact h0
  · exact h1
  · exact h2
  · exact h3
  · exact h4
  · exact h5
  · exact h6
  · exact h7
  · exact h8
  · exact h9
  · exact h10
  · exact h11
  · exact h12
  · exact h13
  · exact h14
  · exact h15
  · exact h16
  · exact h17
  · exact h18
  · exact h19
  · exact h20
  · exact h21
  · exact h22
  · exact h23
  · exact h24
  · exact h25
  · exact h26
  · exact h27
  · exact h28
  · exact h29
  · exact h30
  · exact h31
  · exact h32
  · exact h33
  · exact h34
  · exact h35
  · exact h36
  · exact h37
  · exact h38
  · exact h39
  · exact h40
  · exact h41
  · exact h42
  · exact h43
  · exact h44
  · exact h45
  · exact h46
  · exact h47
