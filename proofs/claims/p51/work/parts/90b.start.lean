def tvFC : List Cond := flatC (Jvm.Cond.and given_1 narrow_1)
def tvIx : List Nat := [563, 574, 582, 591, 601, 610, 618, 627, 637, 645, 651, 656, 665, 672, 681, 690, 697, 702, 563, 563, 563, 563, 563, 563, 563, 563, 563, 476, 481, 486, 503, 512, 522, 296, 314, 344, 364, 385, 402, 418, 445, 496, 533, 706, 735, 754, 771]
def tvNx : List Nat := [226, 242, 289, 273, 258, 243, 290, 274, 259, 227, 291, 275, 260, 228, 244, 276, 261, 229, 245, 292]
def tvRep : List (String × Nat) := [("TideVault$Program", 93), ("TideVault$Program", 95), ("TideVault$Program", 97), ("TideVault$Program", 99), ("TideVault$Program", 101), ("TideVault$Program", 103), ("TideVault$Program", 105), ("TideVault$Program", 107), ("TideVault$Program", 109), ("TideVault$Program", 52), ("TideVault$Program", 111), ("TideVault$Program", 113), ("TideVault$Program", 115), ("TideVault$Program", 117), ("TideVault$Program", 119), ("TideVault$Program", 121), ("TideVault$Program", 123), ("TideVault$Program", 125), ("TideVault$Program", 93), ("TideVault$Program", 93), ("TideVault$Program", 93), ("TideVault$Program", 93), ("TideVault$Program", 93), ("TideVault$Program", 93), ("TideVault$Program", 93), ("TideVault$Program", 93), ("TideVault$Program", 93), ("TideVaultLaw", 150), ("TideVaultLaw", 152), ("TideVaultLaw", 154), ("TideVaultLaw", 160), ("TideVaultLaw", 162), ("TideVaultLaw", 164), ("TideVault", 373), ("TideVault", 375), ("TideVault", 377), ("TideVault", 379), ("TideVault", 381), ("TideVault", 227), ("TideVault", 359), ("TideVault", 368), ("java/util/Arrays", 337), ("TideVault", 307), ("TideVault", 318), ("TideVault", 343), ("TideVault", 217), ("TideVault", 181)]
def tvTm (i : Nat) : Term := .string (tvRep.getD i ("", 0)).1 (tvRep.getD i ("", 0)).2
def tvTv (i : Nat) : Term := .field (tvTm i) "java/lang/String" "value" "[B"
def tvLenA : List Nat := tvLen ++ tvLenL
def tvBytA : List (List Int32) := tvByt ++ tvBytL
theorem tvFC_mem {w : Cond} {k : Nat} (h : tvFC[k]? = some w) : w ∈ tvFC := List.mem_of_getElem? h
theorem tvS_ex : ∀ i, i < 47 → tvFC[tvIx.getD i 0]? = some (Cond.exactly (tvTm i) "java/lang/String") := by decide +kernel
theorem tvS_co : ∀ i, i < 33 → (i < 18 ∨ 27 ≤ i) → tvFC[tvIx.getD i 0 + 1]? = some (Cond.eq (.field (tvTm i) "java/lang/String" "coder" "B") (.int 0)) := by decide +kernel
theorem tvS_ar : ∀ i, i < 33 → (i < 18 ∨ 27 ≤ i) → tvFC[tvIx.getD i 0 + 2]? = some (Cond.arrayOf (tvTv i) .byte) := by decide +kernel
theorem tvS_le : ∀ i, i < 33 → (i < 18 ∨ 27 ≤ i) → tvFC[tvIx.getD i 0 + 3]? = some (Cond.eq (.length (tvTv i)) (.int (Int32.ofNat (tvLenA.getD i 0)))) := by decide +kernel
theorem tvS_el : ∀ i, i < 33 → (i < 18 ∨ 27 ≤ i) → ∀ j, j < tvLenA.getD i 0 → tvFC[tvIx.getD i 0 + 4 + j]? = some (Cond.eq (.elem (tvTv i) (.int (Int32.ofNat j))) (.int ((tvBytA.getD i []).getD j 0))) := by decide +kernel
theorem tvS_nc : ∀ i, i < 20 → tvFC[tvNx.getD i 0]? = some (Cond.not (.castable (tvNcs.getD i ("", "")).1 (tvNcs.getD i ("", "")).2)) := by decide +kernel
theorem tvS_eq : tvFC[600]? = some (Cond.eq (.string "TideVaultLaw" 141) (tvTm 3)) := by decide +kernel
theorem tvD_ar1 : tvFC[12]? = some (Cond.arrayOf (.static "java/lang/Integer" "DigitOnes" "[B") .byte) := by decide +kernel
theorem tvD_le1 : tvFC[12 + 1]? = some (Cond.eq (.length (.static "java/lang/Integer" "DigitOnes" "[B")) (.int (Int32.ofNat 100))) := by decide +kernel
theorem tvD_el1 : ∀ j, j < 100 → tvFC[12 + 2 + j]? = some (Cond.eq (.elem (.static "java/lang/Integer" "DigitOnes" "[B") (.int (Int32.ofNat j))) (.int (nI (48 + j % 10)))) := by decide +kernel
theorem tvD_ar2 : tvFC[115]? = some (Cond.arrayOf (.static "java/lang/Integer" "DigitTens" "[B") .byte) := by decide +kernel
theorem tvD_le2 : tvFC[115 + 1]? = some (Cond.eq (.length (.static "java/lang/Integer" "DigitTens" "[B")) (.int (Int32.ofNat 100))) := by decide +kernel
theorem tvD_el2 : ∀ j, j < 100 → tvFC[115 + 2 + j]? = some (Cond.eq (.elem (.static "java/lang/Integer" "DigitTens" "[B") (.int (Int32.ofNat j))) (.int (nI (48 + j / 10)))) := by decide +kernel
theorem tvS_len : ∀ i, i < 33 → tvLenA.getD i 0 < 100 := by decide
theorem tvS_nA : ∀ i, i < 18 → tvLenA.getD i 0 = tvLen.getD i 0 ∧ tvBytA.getD i [] = tvByt.getD i [] := by decide +kernel
theorem tvS_nL : ∀ i, i < 6 → tvLenA.getD (27 + i) 0 = tvLenL.getD i 0 ∧ tvBytA.getD (27 + i) [] = tvBytL.getD i [] := by decide +kernel
theorem tvS_ne : ∀ i, i < 18 → ∀ j, j < 18 → i ≠ j → ¬ (tvLen.getD i 0 = tvLen.getD j 0 ∧ ∀ k, k < tvLen.getD i 0 → (tvByt.getD i []).getD k 0 = (tvByt.getD j []).getD k 0) := by decide +kernel
theorem tvS_neL : ∀ i, i < 6 → ∀ j, j < 6 → i ≠ j → ¬ (tvLenL.getD i 0 = tvLenL.getD j 0 ∧ ∀ k, k < tvLenL.getD i 0 → (tvBytL.getD i []).getD k 0 = (tvBytL.getD j []).getD k 0) := by decide +kernel
theorem tvS_rf : ∀ i, i < 39 → Cond.stringRef (tvStr.getD i ("", 0, "", 0)).1 (tvStr.getD i ("", 0, "", 0)).2.1 (tvStr.getD i ("", 0, "", 0)).2.2.1 ∈ lw_tbl := by
  intro i hi
  match i, hi with
  | 0, _ => exact tvc_6 (List.mem_of_getElem? (i := 26) (by decide +kernel))
  | 1, _ => exact tvc_6 (List.mem_of_getElem? (i := 27) (by decide +kernel))
  | 2, _ => exact tvc_6 (List.mem_of_getElem? (i := 28) (by decide +kernel))
  | 3, _ => exact tvc_6 (List.mem_of_getElem? (i := 29) (by decide +kernel))
  | 4, _ => exact tvc_6 (List.mem_of_getElem? (i := 30) (by decide +kernel))
  | 5, _ => exact tvc_6 (List.mem_of_getElem? (i := 31) (by decide +kernel))
  | 6, _ => exact tvc_6 (List.mem_of_getElem? (i := 32) (by decide +kernel))
  | 7, _ => exact tvc_6 (List.mem_of_getElem? (i := 33) (by decide +kernel))
  | 8, _ => exact tvc_6 (List.mem_of_getElem? (i := 34) (by decide +kernel))
  | 9, _ => exact tvc_6 (List.mem_of_getElem? (i := 54) (by decide +kernel))
  | 10, _ => exact tvc_6 (List.mem_of_getElem? (i := 58) (by decide +kernel))
  | 11, _ => exact tvc_6 (List.mem_of_getElem? (i := 59) (by decide +kernel))
  | 12, _ => exact tvc_6 (List.mem_of_getElem? (i := 60) (by decide +kernel))
  | 13, _ => exact tvc_6 (List.mem_of_getElem? (i := 61) (by decide +kernel))
  | 14, _ => exact tvc_6 (List.mem_of_getElem? (i := 62) (by decide +kernel))
  | 15, _ => exact tvc_6 (List.mem_of_getElem? (i := 63) (by decide +kernel))
  | 16, _ => exact tvc_6 (List.mem_of_getElem? (i := 64) (by decide +kernel))
  | 17, _ => exact tvc_6 (List.mem_of_getElem? (i := 65) (by decide +kernel))
  | 18, _ => exact tvc_5 (List.mem_of_getElem? (i := 133) (by decide +kernel))
  | 19, _ => exact tvc_5 (List.mem_of_getElem? (i := 134) (by decide +kernel))
  | 20, _ => exact tvc_5 (List.mem_of_getElem? (i := 135) (by decide +kernel))
  | 21, _ => exact tvc_5 (List.mem_of_getElem? (i := 199) (by decide +kernel))
  | 22, _ => exact tvc_5 (List.mem_of_getElem? (i := 200) (by decide +kernel))
  | 23, _ => exact tvc_5 (List.mem_of_getElem? (i := 201) (by decide +kernel))
  | 24, _ => exact tvc_1 (List.mem_of_getElem? (i := 89) (by decide +kernel))
  | 25, _ => exact tvc_1 (List.mem_of_getElem? (i := 125) (by decide +kernel))
  | 26, _ => exact tvc_1 (List.mem_of_getElem? (i := 141) (by decide +kernel))
  | 27, _ => exact tvc_1 (List.mem_of_getElem? (i := 157) (by decide +kernel))
  | 28, _ => exact tvc_1 (List.mem_of_getElem? (i := 173) (by decide +kernel))
  | 29, _ => exact tvc_2 (List.mem_of_getElem? (i := 216) (by decide +kernel))
  | 30, _ => exact tvc_2 (List.mem_of_getElem? (i := 239) (by decide +kernel))
  | 31, _ => exact tvc_3 (List.mem_of_getElem? (i := 15) (by decide +kernel))
  | 32, _ => exact tvc_5 (List.mem_of_getElem? (i := 175) (by decide +kernel))
  | 33, _ => exact tvc_5 (List.mem_of_getElem? (i := 238) (by decide +kernel))
  | 34, _ => exact tvc_6 (List.mem_of_getElem? (i := 85) (by decide +kernel))
  | 35, _ => exact tvc_6 (List.mem_of_getElem? (i := 109) (by decide +kernel))
  | 36, _ => exact tvc_6 (List.mem_of_getElem? (i := 190) (by decide +kernel))
  | 37, _ => exact tvc_7 (List.mem_of_getElem? (i := 2) (by decide +kernel))
  | 38, _ => exact tvc_4 (List.mem_of_getElem? (i := 233) (by decide +kernel))
  | i + 39, hi => exact absurd hi (by omega)
