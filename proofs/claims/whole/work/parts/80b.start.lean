def tvFC : List Cond := flatC (Jvm.Cond.and given_1 narrow_1)
def tvIx : List Nat := [365, 376, 384, 393, 402, 411, 419, 428, 438, 446, 452, 457, 466, 473, 482, 491, 498, 503, 632, 640, 650, 657, 664, 671, 679, 688, 695, 106, 124, 154, 174, 195, 212, 239, 256, 272, 285, 305, 335, 507, 536, 555, 583, 610]
def tvNx : List Nat := [21, 37, 68, 84, 100, 53, 38, 69, 85, 101, 54, 22, 70, 86, 102, 55, 23, 39, 87, 103, 56, 24, 40, 71, 104, 57, 26, 42, 73, 89]
def tvTm (i : Nat) : Term := .string (tvStr.getD i ("", 0, "", 0)).1 (tvStr.getD i ("", 0, "", 0)).2.1
def tvTv (i : Nat) : Term := .field (tvTm i) "java/lang/String" "value" "[B"
theorem tvFC_mem {w : Cond} {k : Nat} (h : tvFC[k]? = some w) : w ∈ tvFC := List.mem_of_getElem? h
theorem tvS_ex : ∀ i, i < 44 → tvFC[tvIx.getD i 0]? = some (Cond.exactly (tvTm i) "java/lang/String") := by decide +kernel
theorem tvS_co : ∀ i, i < 27 → tvFC[tvIx.getD i 0 + 1]? = some (Cond.eq (.field (tvTm i) "java/lang/String" "coder" "B") (.int 0)) := by decide +kernel
theorem tvS_ar : ∀ i, i < 27 → tvFC[tvIx.getD i 0 + 2]? = some (Cond.arrayOf (tvTv i) .byte) := by decide +kernel
theorem tvS_le : ∀ i, i < 27 → tvFC[tvIx.getD i 0 + 3]? = some (Cond.eq (.length (tvTv i)) (.int (Int32.ofNat (tvLen.getD i 0)))) := by decide +kernel
theorem tvS_el : ∀ i, i < 27 → ∀ j, j < tvLen.getD i 0 → tvFC[tvIx.getD i 0 + 4 + j]? = some (Cond.eq (.elem (tvTv i) (.int (Int32.ofNat j))) (.int ((tvByt.getD i []).getD j 0))) := by decide +kernel
theorem tvS_nc : ∀ i, i < 30 → tvFC[tvNx.getD i 0]? = some (Cond.not (.castable (tvNcs.getD i ("", "")).1 (tvNcs.getD i ("", "")).2)) := by decide +kernel
theorem tvS_len : ∀ i, i < 27 → tvLen.getD i 0 < 100 := by decide
theorem tvS_ne : ∀ i, i < 27 → ∀ j, j < 27 → i ≠ j → ¬ (tvLen.getD i 0 = tvLen.getD j 0 ∧ ∀ k, k < tvLen.getD i 0 → (tvByt.getD i []).getD k 0 = (tvByt.getD j []).getD k 0) := by decide +kernel
theorem tvS_rf : ∀ i, i < 44 → Cond.stringRef (tvStr.getD i ("", 0, "", 0)).1 (tvStr.getD i ("", 0, "", 0)).2.1 (tvStr.getD i ("", 0, "", 0)).2.2.1 ∈ lw_tbl := by
  intro i hi
  match i, hi with
  | 0, _ => exact tvc_5 (List.mem_of_getElem? (i := 195) (by decide +kernel))
  | 1, _ => exact tvc_5 (List.mem_of_getElem? (i := 196) (by decide +kernel))
  | 2, _ => exact tvc_5 (List.mem_of_getElem? (i := 197) (by decide +kernel))
  | 3, _ => exact tvc_5 (List.mem_of_getElem? (i := 198) (by decide +kernel))
  | 4, _ => exact tvc_5 (List.mem_of_getElem? (i := 199) (by decide +kernel))
  | 5, _ => exact tvc_5 (List.mem_of_getElem? (i := 200) (by decide +kernel))
  | 6, _ => exact tvc_5 (List.mem_of_getElem? (i := 201) (by decide +kernel))
  | 7, _ => exact tvc_5 (List.mem_of_getElem? (i := 202) (by decide +kernel))
  | 8, _ => exact tvc_5 (List.mem_of_getElem? (i := 203) (by decide +kernel))
  | 9, _ => exact tvc_6 (List.mem_of_getElem? (i := 29) (by decide +kernel))
  | 10, _ => exact tvc_6 (List.mem_of_getElem? (i := 33) (by decide +kernel))
  | 11, _ => exact tvc_6 (List.mem_of_getElem? (i := 34) (by decide +kernel))
  | 12, _ => exact tvc_6 (List.mem_of_getElem? (i := 35) (by decide +kernel))
  | 13, _ => exact tvc_6 (List.mem_of_getElem? (i := 36) (by decide +kernel))
  | 14, _ => exact tvc_6 (List.mem_of_getElem? (i := 37) (by decide +kernel))
  | 15, _ => exact tvc_6 (List.mem_of_getElem? (i := 38) (by decide +kernel))
  | 16, _ => exact tvc_6 (List.mem_of_getElem? (i := 39) (by decide +kernel))
  | 17, _ => exact tvc_6 (List.mem_of_getElem? (i := 40) (by decide +kernel))
  | 18, _ => exact tvc_7 (List.mem_of_getElem? (i := 90) (by decide +kernel))
  | 19, _ => exact tvc_8 (List.mem_of_getElem? (i := 83) (by decide +kernel))
  | 20, _ => exact tvc_8 (List.mem_of_getElem? (i := 97) (by decide +kernel))
  | 21, _ => exact tvc_8 (List.mem_of_getElem? (i := 106) (by decide +kernel))
  | 22, _ => exact tvc_8 (List.mem_of_getElem? (i := 107) (by decide +kernel))
  | 23, _ => exact tvc_8 (List.mem_of_getElem? (i := 108) (by decide +kernel))
  | 24, _ => exact tvc_8 (List.mem_of_getElem? (i := 113) (by decide +kernel))
  | 25, _ => exact tvc_8 (List.mem_of_getElem? (i := 114) (by decide +kernel))
  | 26, _ => exact tvc_8 (List.mem_of_getElem? (i := 119) (by decide +kernel))
  | 27, _ => exact tvc_3 (List.mem_of_getElem? (i := 54) (by decide +kernel))
  | 28, _ => exact tvc_3 (List.mem_of_getElem? (i := 90) (by decide +kernel))
  | 29, _ => exact tvc_3 (List.mem_of_getElem? (i := 106) (by decide +kernel))
  | 30, _ => exact tvc_3 (List.mem_of_getElem? (i := 122) (by decide +kernel))
  | 31, _ => exact tvc_3 (List.mem_of_getElem? (i := 138) (by decide +kernel))
  | 32, _ => exact tvc_4 (List.mem_of_getElem? (i := 224) (by decide +kernel))
  | 33, _ => exact tvc_5 (List.mem_of_getElem? (i := 51) (by decide +kernel))
  | 34, _ => exact tvc_5 (List.mem_of_getElem? (i := 60) (by decide +kernel))
  | 35, _ => exact tvc_5 (List.mem_of_getElem? (i := 95) (by decide +kernel))
  | 36, _ => exact tvc_5 (List.mem_of_getElem? (i := 104) (by decide +kernel))
  | 37, _ => exact tvc_5 (List.mem_of_getElem? (i := 152) (by decide +kernel))
  | 38, _ => exact tvc_5 (List.mem_of_getElem? (i := 168) (by decide +kernel))
  | 39, _ => exact tvc_6 (List.mem_of_getElem? (i := 60) (by decide +kernel))
  | 40, _ => exact tvc_6 (List.mem_of_getElem? (i := 87) (by decide +kernel))
  | 41, _ => exact tvc_6 (List.mem_of_getElem? (i := 108) (by decide +kernel))
  | 42, _ => exact tvc_6 (List.mem_of_getElem? (i := 134) (by decide +kernel))
  | 43, _ => exact tvc_6 (List.mem_of_getElem? (i := 147) (by decide +kernel))
  | i + 44, hi => exact absurd hi (by omega)
