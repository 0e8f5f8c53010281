/-! what the Statement gives of the start: the tables, the text constants, the statics -/
def xTm (i : Nat) : Term := .string (xStr.getD i ("", 0, "")).1 (xStr.getD i ("", 0, "")).2.1
def xFl1 : List Cond := flatC (Jvm.Cond.and given_1 narrow_1)
theorem sx_len : ∀ i : Nat, i < 18 → xLen.getD i 0 < 2 ^ 31 := by decide +kernel
set_option maxRecDepth 100000 in
theorem sx_ex : ∀ i : Nat, i < 18 → Cond.exactly (xTm i) "java/lang/String" ∈ xFl1 := by decide +kernel
set_option maxRecDepth 100000 in
theorem sx_co : ∀ i : Nat, i < 18 → Cond.eq (.field (xTm i) "java/lang/String" "coder" "B") (.int 0) ∈ xFl1 := by decide +kernel
set_option maxRecDepth 100000 in
theorem sx_ar : ∀ i : Nat, i < 18 → Cond.arrayOf (.field (xTm i) "java/lang/String" "value" "[B") .byte ∈ xFl1 := by decide +kernel
set_option maxRecDepth 100000 in
theorem sx_le : ∀ i : Nat, i < 18 → Cond.eq (.length (.field (xTm i) "java/lang/String" "value" "[B")) (.int (Int32.ofNat (xLen.getD i 0))) ∈ xFl1 := by decide +kernel
set_option maxRecDepth 100000 in
theorem sx_cs : Cond.eq (.static "java/lang/String" "COMPACT_STRINGS" "Z") (.int 1) ∈ xFl1 := by decide +kernel
set_option maxRecDepth 100000 in
theorem sx_fm : Cond.isRef (.static "jdk/internal/util/Preconditions" "SIOOBE_FORMATTER" "Ljava/util/function/BiFunction;") ∈ xFl1 := by decide +kernel
theorem sx_el0 : ∀ j : Nat, j < xLen.getD 0 0 → Cond.eq (.elem (.field (xTm 0) "java/lang/String" "value" "[B") (.int (Int32.ofNat j))) (.int ((xByt.getD 0 []).getD j 0)) ∈ xFl1 := by
  intro j hj
  match j, hj with
  | 0, _ => exact List.mem_of_getElem? (i := 25) (by decide +kernel)
  | 1, _ => exact List.mem_of_getElem? (i := 26) (by decide +kernel)
  | 2, _ => exact List.mem_of_getElem? (i := 27) (by decide +kernel)
  | 3, _ => exact List.mem_of_getElem? (i := 28) (by decide +kernel)
  | 4, _ => exact List.mem_of_getElem? (i := 29) (by decide +kernel)
  | 5, _ => exact List.mem_of_getElem? (i := 30) (by decide +kernel)
  | 6, _ => exact List.mem_of_getElem? (i := 31) (by decide +kernel)
  | 7, _ => exact List.mem_of_getElem? (i := 32) (by decide +kernel)
  | 8, _ => exact List.mem_of_getElem? (i := 33) (by decide +kernel)
  | 9, _ => exact List.mem_of_getElem? (i := 34) (by decide +kernel)
  | 10, _ => exact List.mem_of_getElem? (i := 35) (by decide +kernel)
  | 11, _ => exact List.mem_of_getElem? (i := 36) (by decide +kernel)
  | 12, _ => exact List.mem_of_getElem? (i := 37) (by decide +kernel)
  | 13, _ => exact List.mem_of_getElem? (i := 38) (by decide +kernel)
  | 14, _ => exact List.mem_of_getElem? (i := 39) (by decide +kernel)
  | 15, _ => exact List.mem_of_getElem? (i := 40) (by decide +kernel)
  | 16, _ => exact List.mem_of_getElem? (i := 41) (by decide +kernel)
  | 17, _ => exact List.mem_of_getElem? (i := 42) (by decide +kernel)
  | 18, _ => exact List.mem_of_getElem? (i := 43) (by decide +kernel)
  | 19, _ => exact List.mem_of_getElem? (i := 44) (by decide +kernel)
  | 20, _ => exact List.mem_of_getElem? (i := 45) (by decide +kernel)
  | 21, _ => exact List.mem_of_getElem? (i := 46) (by decide +kernel)
  | 22, _ => exact List.mem_of_getElem? (i := 47) (by decide +kernel)
  | 23, _ => exact List.mem_of_getElem? (i := 48) (by decide +kernel)
  | 24, _ => exact List.mem_of_getElem? (i := 49) (by decide +kernel)
  | 25, _ => exact List.mem_of_getElem? (i := 50) (by decide +kernel)
  | 26, _ => exact List.mem_of_getElem? (i := 51) (by decide +kernel)
  | 27, _ => exact List.mem_of_getElem? (i := 52) (by decide +kernel)
  | 28, _ => exact List.mem_of_getElem? (i := 53) (by decide +kernel)
  | 29, _ => exact List.mem_of_getElem? (i := 54) (by decide +kernel)
  | 30, _ => exact List.mem_of_getElem? (i := 55) (by decide +kernel)
  | 31, _ => exact List.mem_of_getElem? (i := 56) (by decide +kernel)
  | 32, _ => exact List.mem_of_getElem? (i := 57) (by decide +kernel)
  | 33, _ => exact List.mem_of_getElem? (i := 58) (by decide +kernel)
  | 34, _ => exact List.mem_of_getElem? (i := 59) (by decide +kernel)
  | 35, _ => exact List.mem_of_getElem? (i := 60) (by decide +kernel)
  | 36, _ => exact List.mem_of_getElem? (i := 61) (by decide +kernel)
  | 37, _ => exact List.mem_of_getElem? (i := 62) (by decide +kernel)
  | 38, _ => exact List.mem_of_getElem? (i := 63) (by decide +kernel)
  | 39, _ => exact List.mem_of_getElem? (i := 64) (by decide +kernel)
  | 40, _ => exact List.mem_of_getElem? (i := 65) (by decide +kernel)
  | 41, _ => exact List.mem_of_getElem? (i := 66) (by decide +kernel)
  | 42, _ => exact List.mem_of_getElem? (i := 67) (by decide +kernel)
  | 43, _ => exact List.mem_of_getElem? (i := 68) (by decide +kernel)
  | 44, _ => exact List.mem_of_getElem? (i := 69) (by decide +kernel)
  | 45, _ => exact List.mem_of_getElem? (i := 70) (by decide +kernel)
  | 46, _ => exact List.mem_of_getElem? (i := 71) (by decide +kernel)
  | 47, _ => exact List.mem_of_getElem? (i := 72) (by decide +kernel)
  | 48, _ => exact List.mem_of_getElem? (i := 73) (by decide +kernel)
  | 49, _ => exact List.mem_of_getElem? (i := 74) (by decide +kernel)
  | 50, _ => exact List.mem_of_getElem? (i := 75) (by decide +kernel)
  | 51, _ => exact List.mem_of_getElem? (i := 76) (by decide +kernel)
  | 52, _ => exact List.mem_of_getElem? (i := 77) (by decide +kernel)
  | 53, _ => exact List.mem_of_getElem? (i := 78) (by decide +kernel)
  | 54, _ => exact List.mem_of_getElem? (i := 79) (by decide +kernel)
  | 55, _ => exact List.mem_of_getElem? (i := 80) (by decide +kernel)
  | 56, _ => exact List.mem_of_getElem? (i := 81) (by decide +kernel)
  | 57, _ => exact List.mem_of_getElem? (i := 82) (by decide +kernel)
  | 58, _ => exact List.mem_of_getElem? (i := 83) (by decide +kernel)
  | 59, _ => exact List.mem_of_getElem? (i := 84) (by decide +kernel)
  | 60, _ => exact List.mem_of_getElem? (i := 85) (by decide +kernel)
  | 61, _ => exact List.mem_of_getElem? (i := 86) (by decide +kernel)
  | 62, _ => exact List.mem_of_getElem? (i := 87) (by decide +kernel)
  | 63, _ => exact List.mem_of_getElem? (i := 88) (by decide +kernel)
  | 64, _ => exact List.mem_of_getElem? (i := 89) (by decide +kernel)
  | 65, _ => exact List.mem_of_getElem? (i := 90) (by decide +kernel)
  | 66, _ => exact List.mem_of_getElem? (i := 91) (by decide +kernel)
  | 67, _ => exact List.mem_of_getElem? (i := 92) (by decide +kernel)
  | 68, _ => exact List.mem_of_getElem? (i := 93) (by decide +kernel)
  | 69, _ => exact List.mem_of_getElem? (i := 94) (by decide +kernel)
  | 70, _ => exact List.mem_of_getElem? (i := 95) (by decide +kernel)
  | 71, _ => exact List.mem_of_getElem? (i := 96) (by decide +kernel)
  | 72, _ => exact List.mem_of_getElem? (i := 97) (by decide +kernel)
  | 73, _ => exact List.mem_of_getElem? (i := 98) (by decide +kernel)
  | 74, _ => exact List.mem_of_getElem? (i := 99) (by decide +kernel)
  | 75, _ => exact List.mem_of_getElem? (i := 100) (by decide +kernel)
  | 76, _ => exact List.mem_of_getElem? (i := 101) (by decide +kernel)
  | 77, _ => exact List.mem_of_getElem? (i := 102) (by decide +kernel)
  | 78, _ => exact List.mem_of_getElem? (i := 103) (by decide +kernel)
  | 79, _ => exact List.mem_of_getElem? (i := 104) (by decide +kernel)
  | 80, _ => exact List.mem_of_getElem? (i := 105) (by decide +kernel)
  | 81, _ => exact List.mem_of_getElem? (i := 106) (by decide +kernel)
  | 82, _ => exact List.mem_of_getElem? (i := 107) (by decide +kernel)
  | 83, _ => exact List.mem_of_getElem? (i := 108) (by decide +kernel)
  | 84, _ => exact List.mem_of_getElem? (i := 109) (by decide +kernel)
  | 85, _ => exact List.mem_of_getElem? (i := 110) (by decide +kernel)
  | 86, _ => exact List.mem_of_getElem? (i := 111) (by decide +kernel)
  | j + 87, hj => exact absurd hj (by show ¬ (j + 87 < 87); omega)
theorem sx_el1 : ∀ j : Nat, j < xLen.getD 1 0 → Cond.eq (.elem (.field (xTm 1) "java/lang/String" "value" "[B") (.int (Int32.ofNat j))) (.int ((xByt.getD 1 []).getD j 0)) ∈ xFl1 := by
  intro j hj
  match j, hj with
  | 0, _ => exact List.mem_of_getElem? (i := 116) (by decide +kernel)
  | 1, _ => exact List.mem_of_getElem? (i := 117) (by decide +kernel)
  | 2, _ => exact List.mem_of_getElem? (i := 118) (by decide +kernel)
  | j + 3, hj => exact absurd hj (by show ¬ (j + 3 < 3); omega)
theorem sx_el2 : ∀ j : Nat, j < xLen.getD 2 0 → Cond.eq (.elem (.field (xTm 2) "java/lang/String" "value" "[B") (.int (Int32.ofNat j))) (.int ((xByt.getD 2 []).getD j 0)) ∈ xFl1 := by
  intro j hj
  match j, hj with
  | 0, _ => exact List.mem_of_getElem? (i := 124) (by decide +kernel)
  | 1, _ => exact List.mem_of_getElem? (i := 125) (by decide +kernel)
  | 2, _ => exact List.mem_of_getElem? (i := 126) (by decide +kernel)
  | 3, _ => exact List.mem_of_getElem? (i := 127) (by decide +kernel)
  | j + 4, hj => exact absurd hj (by show ¬ (j + 4 < 4); omega)
theorem sx_el3 : ∀ j : Nat, j < xLen.getD 3 0 → Cond.eq (.elem (.field (xTm 3) "java/lang/String" "value" "[B") (.int (Int32.ofNat j))) (.int ((xByt.getD 3 []).getD j 0)) ∈ xFl1 := by
  intro j hj
  match j, hj with
  | 0, _ => exact List.mem_of_getElem? (i := 134) (by decide +kernel)
  | j + 1, hj => exact absurd hj (by show ¬ (j + 1 < 1); omega)
theorem sx_el4 : ∀ j : Nat, j < xLen.getD 4 0 → Cond.eq (.elem (.field (xTm 4) "java/lang/String" "value" "[B") (.int (Int32.ofNat j))) (.int ((xByt.getD 4 []).getD j 0)) ∈ xFl1 := by
  intro j hj
  match j, hj with
  | 0, _ => exact List.mem_of_getElem? (i := 142) (by decide +kernel)
  | 1, _ => exact List.mem_of_getElem? (i := 143) (by decide +kernel)
  | 2, _ => exact List.mem_of_getElem? (i := 144) (by decide +kernel)
  | 3, _ => exact List.mem_of_getElem? (i := 145) (by decide +kernel)
  | j + 4, hj => exact absurd hj (by show ¬ (j + 4 < 4); omega)
theorem sx_el5 : ∀ j : Nat, j < xLen.getD 5 0 → Cond.eq (.elem (.field (xTm 5) "java/lang/String" "value" "[B") (.int (Int32.ofNat j))) (.int ((xByt.getD 5 []).getD j 0)) ∈ xFl1 := by
  intro j hj
  match j, hj with
  | 0, _ => exact List.mem_of_getElem? (i := 154) (by decide +kernel)
  | 1, _ => exact List.mem_of_getElem? (i := 155) (by decide +kernel)
  | 2, _ => exact List.mem_of_getElem? (i := 156) (by decide +kernel)
  | 3, _ => exact List.mem_of_getElem? (i := 157) (by decide +kernel)
  | 4, _ => exact List.mem_of_getElem? (i := 158) (by decide +kernel)
  | j + 5, hj => exact absurd hj (by show ¬ (j + 5 < 5); omega)
theorem sx_el6 : ∀ j : Nat, j < xLen.getD 6 0 → Cond.eq (.elem (.field (xTm 6) "java/lang/String" "value" "[B") (.int (Int32.ofNat j))) (.int ((xByt.getD 6 []).getD j 0)) ∈ xFl1 := by
  intro j hj
  match j, hj with
  | 0, _ => exact List.mem_of_getElem? (i := 168) (by decide +kernel)
  | 1, _ => exact List.mem_of_getElem? (i := 169) (by decide +kernel)
  | 2, _ => exact List.mem_of_getElem? (i := 170) (by decide +kernel)
  | j + 3, hj => exact absurd hj (by show ¬ (j + 3 < 3); omega)
theorem sx_el7 : ∀ j : Nat, j < xLen.getD 7 0 → Cond.eq (.elem (.field (xTm 7) "java/lang/String" "value" "[B") (.int (Int32.ofNat j))) (.int ((xByt.getD 7 []).getD j 0)) ∈ xFl1 := by
  intro j hj
  match j, hj with
  | 0, _ => exact List.mem_of_getElem? (i := 181) (by decide +kernel)
  | 1, _ => exact List.mem_of_getElem? (i := 182) (by decide +kernel)
  | 2, _ => exact List.mem_of_getElem? (i := 183) (by decide +kernel)
  | 3, _ => exact List.mem_of_getElem? (i := 184) (by decide +kernel)
  | 4, _ => exact List.mem_of_getElem? (i := 185) (by decide +kernel)
  | 5, _ => exact List.mem_of_getElem? (i := 186) (by decide +kernel)
  | j + 6, hj => exact absurd hj (by show ¬ (j + 6 < 6); omega)
theorem sx_el8 : ∀ j : Nat, j < xLen.getD 8 0 → Cond.eq (.elem (.field (xTm 8) "java/lang/String" "value" "[B") (.int (Int32.ofNat j))) (.int ((xByt.getD 8 []).getD j 0)) ∈ xFl1 := by
  intro j hj
  match j, hj with
  | 0, _ => exact List.mem_of_getElem? (i := 198) (by decide +kernel)
  | 1, _ => exact List.mem_of_getElem? (i := 199) (by decide +kernel)
  | 2, _ => exact List.mem_of_getElem? (i := 200) (by decide +kernel)
  | 3, _ => exact List.mem_of_getElem? (i := 201) (by decide +kernel)
  | 4, _ => exact List.mem_of_getElem? (i := 202) (by decide +kernel)
  | j + 5, hj => exact absurd hj (by show ¬ (j + 5 < 5); omega)
theorem sx_el9 : ∀ j : Nat, j < xLen.getD 9 0 → Cond.eq (.elem (.field (xTm 9) "java/lang/String" "value" "[B") (.int (Int32.ofNat j))) (.int ((xByt.getD 9 []).getD j 0)) ∈ xFl1 := by
  intro j hj
  match j, hj with
  | 0, _ => exact List.mem_of_getElem? (i := 215) (by decide +kernel)
  | 1, _ => exact List.mem_of_getElem? (i := 216) (by decide +kernel)
  | 2, _ => exact List.mem_of_getElem? (i := 217) (by decide +kernel)
  | 3, _ => exact List.mem_of_getElem? (i := 218) (by decide +kernel)
  | 4, _ => exact List.mem_of_getElem? (i := 219) (by decide +kernel)
  | j + 5, hj => exact absurd hj (by show ¬ (j + 5 < 5); omega)
theorem sx_el10 : ∀ j : Nat, j < xLen.getD 10 0 → Cond.eq (.elem (.field (xTm 10) "java/lang/String" "value" "[B") (.int (Int32.ofNat j))) (.int ((xByt.getD 10 []).getD j 0)) ∈ xFl1 := by
  intro j hj
  match j, hj with
  | 0, _ => exact List.mem_of_getElem? (i := 233) (by decide +kernel)
  | 1, _ => exact List.mem_of_getElem? (i := 234) (by decide +kernel)
  | 2, _ => exact List.mem_of_getElem? (i := 235) (by decide +kernel)
  | 3, _ => exact List.mem_of_getElem? (i := 236) (by decide +kernel)
  | j + 4, hj => exact absurd hj (by show ¬ (j + 4 < 4); omega)
theorem sx_el11 : ∀ j : Nat, j < xLen.getD 11 0 → Cond.eq (.elem (.field (xTm 11) "java/lang/String" "value" "[B") (.int (Int32.ofNat j))) (.int ((xByt.getD 11 []).getD j 0)) ∈ xFl1 := by
  intro j hj
  match j, hj with
  | 0, _ => exact List.mem_of_getElem? (i := 251) (by decide +kernel)
  | 1, _ => exact List.mem_of_getElem? (i := 252) (by decide +kernel)
  | 2, _ => exact List.mem_of_getElem? (i := 253) (by decide +kernel)
  | 3, _ => exact List.mem_of_getElem? (i := 254) (by decide +kernel)
  | j + 4, hj => exact absurd hj (by show ¬ (j + 4 < 4); omega)
theorem sx_el12 : ∀ j : Nat, j < xLen.getD 12 0 → Cond.eq (.elem (.field (xTm 12) "java/lang/String" "value" "[B") (.int (Int32.ofNat j))) (.int ((xByt.getD 12 []).getD j 0)) ∈ xFl1 := by
  intro j hj
  match j, hj with
  | 0, _ => exact List.mem_of_getElem? (i := 270) (by decide +kernel)
  | 1, _ => exact List.mem_of_getElem? (i := 271) (by decide +kernel)
  | 2, _ => exact List.mem_of_getElem? (i := 272) (by decide +kernel)
  | 3, _ => exact List.mem_of_getElem? (i := 273) (by decide +kernel)
  | 4, _ => exact List.mem_of_getElem? (i := 274) (by decide +kernel)
  | 5, _ => exact List.mem_of_getElem? (i := 275) (by decide +kernel)
  | 6, _ => exact List.mem_of_getElem? (i := 276) (by decide +kernel)
  | 7, _ => exact List.mem_of_getElem? (i := 277) (by decide +kernel)
  | j + 8, hj => exact absurd hj (by show ¬ (j + 8 < 8); omega)
theorem sx_el13 : ∀ j : Nat, j < xLen.getD 13 0 → Cond.eq (.elem (.field (xTm 13) "java/lang/String" "value" "[B") (.int (Int32.ofNat j))) (.int ((xByt.getD 13 []).getD j 0)) ∈ xFl1 := by
  intro j hj
  match j, hj with
  | 0, _ => exact List.mem_of_getElem? (i := 294) (by decide +kernel)
  | 1, _ => exact List.mem_of_getElem? (i := 295) (by decide +kernel)
  | 2, _ => exact List.mem_of_getElem? (i := 296) (by decide +kernel)
  | j + 3, hj => exact absurd hj (by show ¬ (j + 3 < 3); omega)
theorem sx_el14 : ∀ j : Nat, j < xLen.getD 14 0 → Cond.eq (.elem (.field (xTm 14) "java/lang/String" "value" "[B") (.int (Int32.ofNat j))) (.int ((xByt.getD 14 []).getD j 0)) ∈ xFl1 := by
  intro j hj
  match j, hj with
  | 0, _ => exact List.mem_of_getElem? (i := 314) (by decide +kernel)
  | 1, _ => exact List.mem_of_getElem? (i := 315) (by decide +kernel)
  | 2, _ => exact List.mem_of_getElem? (i := 316) (by decide +kernel)
  | 3, _ => exact List.mem_of_getElem? (i := 317) (by decide +kernel)
  | 4, _ => exact List.mem_of_getElem? (i := 318) (by decide +kernel)
  | 5, _ => exact List.mem_of_getElem? (i := 319) (by decide +kernel)
  | 6, _ => exact List.mem_of_getElem? (i := 320) (by decide +kernel)
  | j + 7, hj => exact absurd hj (by show ¬ (j + 7 < 7); omega)
theorem sx_el15 : ∀ j : Nat, j < xLen.getD 15 0 → Cond.eq (.elem (.field (xTm 15) "java/lang/String" "value" "[B") (.int (Int32.ofNat j))) (.int ((xByt.getD 15 []).getD j 0)) ∈ xFl1 := by
  intro j hj
  match j, hj with
  | 0, _ => exact List.mem_of_getElem? (i := 339) (by decide +kernel)
  | 1, _ => exact List.mem_of_getElem? (i := 340) (by decide +kernel)
  | 2, _ => exact List.mem_of_getElem? (i := 341) (by decide +kernel)
  | 3, _ => exact List.mem_of_getElem? (i := 342) (by decide +kernel)
  | j + 4, hj => exact absurd hj (by show ¬ (j + 4 < 4); omega)
theorem sx_el16 : ∀ j : Nat, j < xLen.getD 16 0 → Cond.eq (.elem (.field (xTm 16) "java/lang/String" "value" "[B") (.int (Int32.ofNat j))) (.int ((xByt.getD 16 []).getD j 0)) ∈ xFl1 := by
  intro j hj
  match j, hj with
  | 0, _ => exact List.mem_of_getElem? (i := 362) (by decide +kernel)
  | 1, _ => exact List.mem_of_getElem? (i := 363) (by decide +kernel)
  | 2, _ => exact List.mem_of_getElem? (i := 364) (by decide +kernel)
  | 3, _ => exact List.mem_of_getElem? (i := 365) (by decide +kernel)
  | 4, _ => exact List.mem_of_getElem? (i := 366) (by decide +kernel)
  | 5, _ => exact List.mem_of_getElem? (i := 367) (by decide +kernel)
  | j + 6, hj => exact absurd hj (by show ¬ (j + 6 < 6); omega)
theorem sx_el17 : ∀ j : Nat, j < xLen.getD 17 0 → Cond.eq (.elem (.field (xTm 17) "java/lang/String" "value" "[B") (.int (Int32.ofNat j))) (.int ((xByt.getD 17 []).getD j 0)) ∈ xFl1 := by
  intro j hj
  match j, hj with
  | 0, _ => exact List.mem_of_getElem? (i := 388) (by decide +kernel)
  | j + 1, hj => exact absurd hj (by show ¬ (j + 1 < 1); omega)
theorem sx_el : ∀ i : Nat, i < 18 → ∀ j : Nat, j < xLen.getD i 0 → Cond.eq (.elem (.field (xTm i) "java/lang/String" "value" "[B") (.int (Int32.ofNat j))) (.int ((xByt.getD i []).getD j 0)) ∈ xFl1 := by
  intro i hi
  match i, hi with
  | 0, _ => exact sx_el0
  | 1, _ => exact sx_el1
  | 2, _ => exact sx_el2
  | 3, _ => exact sx_el3
  | 4, _ => exact sx_el4
  | 5, _ => exact sx_el5
  | 6, _ => exact sx_el6
  | 7, _ => exact sx_el7
  | 8, _ => exact sx_el8
  | 9, _ => exact sx_el9
  | 10, _ => exact sx_el10
  | 11, _ => exact sx_el11
  | 12, _ => exact sx_el12
  | 13, _ => exact sx_el13
  | 14, _ => exact sx_el14
  | 15, _ => exact sx_el15
  | 16, _ => exact sx_el16
  | 17, _ => exact sx_el17
  | i + 18, hi => exact absurd hi (by omega)
theorem sx_ne0 : ∀ j : Nat, j < 18 → 0 ≠ j → Cond.not (Cond.eq (xTm 0) (xTm j)) ∈ xFl1 ∨ Cond.not (Cond.eq (xTm j) (xTm 0)) ∈ xFl1 := by
  intro j hj hne
  match j, hj, hne with
  | 0, _, hne => exact absurd rfl hne
  | 1, _, _ => exact Or.inl (List.mem_of_getElem? (i := 119) (by decide +kernel))
  | 2, _, _ => exact Or.inl (List.mem_of_getElem? (i := 128) (by decide +kernel))
  | 3, _, _ => exact Or.inl (List.mem_of_getElem? (i := 135) (by decide +kernel))
  | 4, _, _ => exact Or.inl (List.mem_of_getElem? (i := 146) (by decide +kernel))
  | 5, _, _ => exact Or.inl (List.mem_of_getElem? (i := 159) (by decide +kernel))
  | 6, _, _ => exact Or.inl (List.mem_of_getElem? (i := 171) (by decide +kernel))
  | 7, _, _ => exact Or.inl (List.mem_of_getElem? (i := 187) (by decide +kernel))
  | 8, _, _ => exact Or.inl (List.mem_of_getElem? (i := 203) (by decide +kernel))
  | 9, _, _ => exact Or.inl (List.mem_of_getElem? (i := 220) (by decide +kernel))
  | 10, _, _ => exact Or.inl (List.mem_of_getElem? (i := 237) (by decide +kernel))
  | 11, _, _ => exact Or.inl (List.mem_of_getElem? (i := 255) (by decide +kernel))
  | 12, _, _ => exact Or.inl (List.mem_of_getElem? (i := 278) (by decide +kernel))
  | 13, _, _ => exact Or.inl (List.mem_of_getElem? (i := 297) (by decide +kernel))
  | 14, _, _ => exact Or.inl (List.mem_of_getElem? (i := 321) (by decide +kernel))
  | 15, _, _ => exact Or.inl (List.mem_of_getElem? (i := 343) (by decide +kernel))
  | 16, _, _ => exact Or.inl (List.mem_of_getElem? (i := 368) (by decide +kernel))
  | 17, _, _ => exact Or.inl (List.mem_of_getElem? (i := 389) (by decide +kernel))
  | j + 18, hj, _ => exact absurd hj (by omega)
theorem sx_ne1 : ∀ j : Nat, j < 18 → 1 ≠ j → Cond.not (Cond.eq (xTm 1) (xTm j)) ∈ xFl1 ∨ Cond.not (Cond.eq (xTm j) (xTm 1)) ∈ xFl1 := by
  intro j hj hne
  match j, hj, hne with
  | 0, _, _ => exact Or.inr (List.mem_of_getElem? (i := 119) (by decide +kernel))
  | 1, _, hne => exact absurd rfl hne
  | 2, _, _ => exact Or.inl (List.mem_of_getElem? (i := 129) (by decide +kernel))
  | 3, _, _ => exact Or.inl (List.mem_of_getElem? (i := 136) (by decide +kernel))
  | 4, _, _ => exact Or.inl (List.mem_of_getElem? (i := 147) (by decide +kernel))
  | 5, _, _ => exact Or.inl (List.mem_of_getElem? (i := 160) (by decide +kernel))
  | 6, _, _ => exact Or.inl (List.mem_of_getElem? (i := 172) (by decide +kernel))
  | 7, _, _ => exact Or.inl (List.mem_of_getElem? (i := 188) (by decide +kernel))
  | 8, _, _ => exact Or.inl (List.mem_of_getElem? (i := 204) (by decide +kernel))
  | 9, _, _ => exact Or.inl (List.mem_of_getElem? (i := 221) (by decide +kernel))
  | 10, _, _ => exact Or.inl (List.mem_of_getElem? (i := 238) (by decide +kernel))
  | 11, _, _ => exact Or.inl (List.mem_of_getElem? (i := 256) (by decide +kernel))
  | 12, _, _ => exact Or.inl (List.mem_of_getElem? (i := 279) (by decide +kernel))
  | 13, _, _ => exact Or.inl (List.mem_of_getElem? (i := 298) (by decide +kernel))
  | 14, _, _ => exact Or.inl (List.mem_of_getElem? (i := 322) (by decide +kernel))
  | 15, _, _ => exact Or.inl (List.mem_of_getElem? (i := 344) (by decide +kernel))
  | 16, _, _ => exact Or.inl (List.mem_of_getElem? (i := 369) (by decide +kernel))
  | 17, _, _ => exact Or.inl (List.mem_of_getElem? (i := 390) (by decide +kernel))
  | j + 18, hj, _ => exact absurd hj (by omega)
theorem sx_ne2 : ∀ j : Nat, j < 18 → 2 ≠ j → Cond.not (Cond.eq (xTm 2) (xTm j)) ∈ xFl1 ∨ Cond.not (Cond.eq (xTm j) (xTm 2)) ∈ xFl1 := by
  intro j hj hne
  match j, hj, hne with
  | 0, _, _ => exact Or.inr (List.mem_of_getElem? (i := 128) (by decide +kernel))
  | 1, _, _ => exact Or.inr (List.mem_of_getElem? (i := 129) (by decide +kernel))
  | 2, _, hne => exact absurd rfl hne
  | 3, _, _ => exact Or.inl (List.mem_of_getElem? (i := 137) (by decide +kernel))
  | 4, _, _ => exact Or.inl (List.mem_of_getElem? (i := 148) (by decide +kernel))
  | 5, _, _ => exact Or.inl (List.mem_of_getElem? (i := 161) (by decide +kernel))
  | 6, _, _ => exact Or.inl (List.mem_of_getElem? (i := 173) (by decide +kernel))
  | 7, _, _ => exact Or.inl (List.mem_of_getElem? (i := 189) (by decide +kernel))
  | 8, _, _ => exact Or.inl (List.mem_of_getElem? (i := 205) (by decide +kernel))
  | 9, _, _ => exact Or.inl (List.mem_of_getElem? (i := 222) (by decide +kernel))
  | 10, _, _ => exact Or.inl (List.mem_of_getElem? (i := 239) (by decide +kernel))
  | 11, _, _ => exact Or.inl (List.mem_of_getElem? (i := 257) (by decide +kernel))
  | 12, _, _ => exact Or.inl (List.mem_of_getElem? (i := 280) (by decide +kernel))
  | 13, _, _ => exact Or.inl (List.mem_of_getElem? (i := 299) (by decide +kernel))
  | 14, _, _ => exact Or.inl (List.mem_of_getElem? (i := 323) (by decide +kernel))
  | 15, _, _ => exact Or.inl (List.mem_of_getElem? (i := 345) (by decide +kernel))
  | 16, _, _ => exact Or.inl (List.mem_of_getElem? (i := 370) (by decide +kernel))
  | 17, _, _ => exact Or.inl (List.mem_of_getElem? (i := 391) (by decide +kernel))
  | j + 18, hj, _ => exact absurd hj (by omega)
theorem sx_ne3 : ∀ j : Nat, j < 18 → 3 ≠ j → Cond.not (Cond.eq (xTm 3) (xTm j)) ∈ xFl1 ∨ Cond.not (Cond.eq (xTm j) (xTm 3)) ∈ xFl1 := by
  intro j hj hne
  match j, hj, hne with
  | 0, _, _ => exact Or.inr (List.mem_of_getElem? (i := 135) (by decide +kernel))
  | 1, _, _ => exact Or.inr (List.mem_of_getElem? (i := 136) (by decide +kernel))
  | 2, _, _ => exact Or.inr (List.mem_of_getElem? (i := 137) (by decide +kernel))
  | 3, _, hne => exact absurd rfl hne
  | 4, _, _ => exact Or.inl (List.mem_of_getElem? (i := 149) (by decide +kernel))
  | 5, _, _ => exact Or.inl (List.mem_of_getElem? (i := 162) (by decide +kernel))
  | 6, _, _ => exact Or.inl (List.mem_of_getElem? (i := 174) (by decide +kernel))
  | 7, _, _ => exact Or.inl (List.mem_of_getElem? (i := 190) (by decide +kernel))
  | 8, _, _ => exact Or.inl (List.mem_of_getElem? (i := 206) (by decide +kernel))
  | 9, _, _ => exact Or.inl (List.mem_of_getElem? (i := 223) (by decide +kernel))
  | 10, _, _ => exact Or.inl (List.mem_of_getElem? (i := 240) (by decide +kernel))
  | 11, _, _ => exact Or.inl (List.mem_of_getElem? (i := 258) (by decide +kernel))
  | 12, _, _ => exact Or.inl (List.mem_of_getElem? (i := 281) (by decide +kernel))
  | 13, _, _ => exact Or.inl (List.mem_of_getElem? (i := 300) (by decide +kernel))
  | 14, _, _ => exact Or.inl (List.mem_of_getElem? (i := 324) (by decide +kernel))
  | 15, _, _ => exact Or.inl (List.mem_of_getElem? (i := 346) (by decide +kernel))
  | 16, _, _ => exact Or.inl (List.mem_of_getElem? (i := 371) (by decide +kernel))
  | 17, _, _ => exact Or.inl (List.mem_of_getElem? (i := 392) (by decide +kernel))
  | j + 18, hj, _ => exact absurd hj (by omega)
theorem sx_ne4 : ∀ j : Nat, j < 18 → 4 ≠ j → Cond.not (Cond.eq (xTm 4) (xTm j)) ∈ xFl1 ∨ Cond.not (Cond.eq (xTm j) (xTm 4)) ∈ xFl1 := by
  intro j hj hne
  match j, hj, hne with
  | 0, _, _ => exact Or.inr (List.mem_of_getElem? (i := 146) (by decide +kernel))
  | 1, _, _ => exact Or.inr (List.mem_of_getElem? (i := 147) (by decide +kernel))
  | 2, _, _ => exact Or.inr (List.mem_of_getElem? (i := 148) (by decide +kernel))
  | 3, _, _ => exact Or.inr (List.mem_of_getElem? (i := 149) (by decide +kernel))
  | 4, _, hne => exact absurd rfl hne
  | 5, _, _ => exact Or.inl (List.mem_of_getElem? (i := 163) (by decide +kernel))
  | 6, _, _ => exact Or.inl (List.mem_of_getElem? (i := 175) (by decide +kernel))
  | 7, _, _ => exact Or.inl (List.mem_of_getElem? (i := 191) (by decide +kernel))
  | 8, _, _ => exact Or.inl (List.mem_of_getElem? (i := 207) (by decide +kernel))
  | 9, _, _ => exact Or.inl (List.mem_of_getElem? (i := 224) (by decide +kernel))
  | 10, _, _ => exact Or.inl (List.mem_of_getElem? (i := 241) (by decide +kernel))
  | 11, _, _ => exact Or.inl (List.mem_of_getElem? (i := 259) (by decide +kernel))
  | 12, _, _ => exact Or.inl (List.mem_of_getElem? (i := 282) (by decide +kernel))
  | 13, _, _ => exact Or.inl (List.mem_of_getElem? (i := 301) (by decide +kernel))
  | 14, _, _ => exact Or.inl (List.mem_of_getElem? (i := 325) (by decide +kernel))
  | 15, _, _ => exact Or.inl (List.mem_of_getElem? (i := 347) (by decide +kernel))
  | 16, _, _ => exact Or.inl (List.mem_of_getElem? (i := 372) (by decide +kernel))
  | 17, _, _ => exact Or.inl (List.mem_of_getElem? (i := 393) (by decide +kernel))
  | j + 18, hj, _ => exact absurd hj (by omega)
theorem sx_ne5 : ∀ j : Nat, j < 18 → 5 ≠ j → Cond.not (Cond.eq (xTm 5) (xTm j)) ∈ xFl1 ∨ Cond.not (Cond.eq (xTm j) (xTm 5)) ∈ xFl1 := by
  intro j hj hne
  match j, hj, hne with
  | 0, _, _ => exact Or.inr (List.mem_of_getElem? (i := 159) (by decide +kernel))
  | 1, _, _ => exact Or.inr (List.mem_of_getElem? (i := 160) (by decide +kernel))
  | 2, _, _ => exact Or.inr (List.mem_of_getElem? (i := 161) (by decide +kernel))
  | 3, _, _ => exact Or.inr (List.mem_of_getElem? (i := 162) (by decide +kernel))
  | 4, _, _ => exact Or.inr (List.mem_of_getElem? (i := 163) (by decide +kernel))
  | 5, _, hne => exact absurd rfl hne
  | 6, _, _ => exact Or.inl (List.mem_of_getElem? (i := 176) (by decide +kernel))
  | 7, _, _ => exact Or.inl (List.mem_of_getElem? (i := 192) (by decide +kernel))
  | 8, _, _ => exact Or.inl (List.mem_of_getElem? (i := 208) (by decide +kernel))
  | 9, _, _ => exact Or.inl (List.mem_of_getElem? (i := 225) (by decide +kernel))
  | 10, _, _ => exact Or.inl (List.mem_of_getElem? (i := 242) (by decide +kernel))
  | 11, _, _ => exact Or.inl (List.mem_of_getElem? (i := 260) (by decide +kernel))
  | 12, _, _ => exact Or.inl (List.mem_of_getElem? (i := 283) (by decide +kernel))
  | 13, _, _ => exact Or.inl (List.mem_of_getElem? (i := 302) (by decide +kernel))
  | 14, _, _ => exact Or.inl (List.mem_of_getElem? (i := 326) (by decide +kernel))
  | 15, _, _ => exact Or.inl (List.mem_of_getElem? (i := 348) (by decide +kernel))
  | 16, _, _ => exact Or.inl (List.mem_of_getElem? (i := 373) (by decide +kernel))
  | 17, _, _ => exact Or.inl (List.mem_of_getElem? (i := 394) (by decide +kernel))
  | j + 18, hj, _ => exact absurd hj (by omega)
theorem sx_ne6 : ∀ j : Nat, j < 18 → 6 ≠ j → Cond.not (Cond.eq (xTm 6) (xTm j)) ∈ xFl1 ∨ Cond.not (Cond.eq (xTm j) (xTm 6)) ∈ xFl1 := by
  intro j hj hne
  match j, hj, hne with
  | 0, _, _ => exact Or.inr (List.mem_of_getElem? (i := 171) (by decide +kernel))
  | 1, _, _ => exact Or.inr (List.mem_of_getElem? (i := 172) (by decide +kernel))
  | 2, _, _ => exact Or.inr (List.mem_of_getElem? (i := 173) (by decide +kernel))
  | 3, _, _ => exact Or.inr (List.mem_of_getElem? (i := 174) (by decide +kernel))
  | 4, _, _ => exact Or.inr (List.mem_of_getElem? (i := 175) (by decide +kernel))
  | 5, _, _ => exact Or.inr (List.mem_of_getElem? (i := 176) (by decide +kernel))
  | 6, _, hne => exact absurd rfl hne
  | 7, _, _ => exact Or.inl (List.mem_of_getElem? (i := 193) (by decide +kernel))
  | 8, _, _ => exact Or.inl (List.mem_of_getElem? (i := 209) (by decide +kernel))
  | 9, _, _ => exact Or.inl (List.mem_of_getElem? (i := 226) (by decide +kernel))
  | 10, _, _ => exact Or.inl (List.mem_of_getElem? (i := 243) (by decide +kernel))
  | 11, _, _ => exact Or.inl (List.mem_of_getElem? (i := 261) (by decide +kernel))
  | 12, _, _ => exact Or.inl (List.mem_of_getElem? (i := 284) (by decide +kernel))
  | 13, _, _ => exact Or.inl (List.mem_of_getElem? (i := 303) (by decide +kernel))
  | 14, _, _ => exact Or.inl (List.mem_of_getElem? (i := 327) (by decide +kernel))
  | 15, _, _ => exact Or.inl (List.mem_of_getElem? (i := 349) (by decide +kernel))
  | 16, _, _ => exact Or.inl (List.mem_of_getElem? (i := 374) (by decide +kernel))
  | 17, _, _ => exact Or.inl (List.mem_of_getElem? (i := 395) (by decide +kernel))
  | j + 18, hj, _ => exact absurd hj (by omega)
theorem sx_ne7 : ∀ j : Nat, j < 18 → 7 ≠ j → Cond.not (Cond.eq (xTm 7) (xTm j)) ∈ xFl1 ∨ Cond.not (Cond.eq (xTm j) (xTm 7)) ∈ xFl1 := by
  intro j hj hne
  match j, hj, hne with
  | 0, _, _ => exact Or.inr (List.mem_of_getElem? (i := 187) (by decide +kernel))
  | 1, _, _ => exact Or.inr (List.mem_of_getElem? (i := 188) (by decide +kernel))
  | 2, _, _ => exact Or.inr (List.mem_of_getElem? (i := 189) (by decide +kernel))
  | 3, _, _ => exact Or.inr (List.mem_of_getElem? (i := 190) (by decide +kernel))
  | 4, _, _ => exact Or.inr (List.mem_of_getElem? (i := 191) (by decide +kernel))
  | 5, _, _ => exact Or.inr (List.mem_of_getElem? (i := 192) (by decide +kernel))
  | 6, _, _ => exact Or.inr (List.mem_of_getElem? (i := 193) (by decide +kernel))
  | 7, _, hne => exact absurd rfl hne
  | 8, _, _ => exact Or.inl (List.mem_of_getElem? (i := 210) (by decide +kernel))
  | 9, _, _ => exact Or.inl (List.mem_of_getElem? (i := 227) (by decide +kernel))
  | 10, _, _ => exact Or.inl (List.mem_of_getElem? (i := 244) (by decide +kernel))
  | 11, _, _ => exact Or.inl (List.mem_of_getElem? (i := 262) (by decide +kernel))
  | 12, _, _ => exact Or.inl (List.mem_of_getElem? (i := 285) (by decide +kernel))
  | 13, _, _ => exact Or.inl (List.mem_of_getElem? (i := 304) (by decide +kernel))
  | 14, _, _ => exact Or.inl (List.mem_of_getElem? (i := 328) (by decide +kernel))
  | 15, _, _ => exact Or.inl (List.mem_of_getElem? (i := 350) (by decide +kernel))
  | 16, _, _ => exact Or.inl (List.mem_of_getElem? (i := 375) (by decide +kernel))
  | 17, _, _ => exact Or.inl (List.mem_of_getElem? (i := 396) (by decide +kernel))
  | j + 18, hj, _ => exact absurd hj (by omega)
theorem sx_ne8 : ∀ j : Nat, j < 18 → 8 ≠ j → Cond.not (Cond.eq (xTm 8) (xTm j)) ∈ xFl1 ∨ Cond.not (Cond.eq (xTm j) (xTm 8)) ∈ xFl1 := by
  intro j hj hne
  match j, hj, hne with
  | 0, _, _ => exact Or.inr (List.mem_of_getElem? (i := 203) (by decide +kernel))
  | 1, _, _ => exact Or.inr (List.mem_of_getElem? (i := 204) (by decide +kernel))
  | 2, _, _ => exact Or.inr (List.mem_of_getElem? (i := 205) (by decide +kernel))
  | 3, _, _ => exact Or.inr (List.mem_of_getElem? (i := 206) (by decide +kernel))
  | 4, _, _ => exact Or.inr (List.mem_of_getElem? (i := 207) (by decide +kernel))
  | 5, _, _ => exact Or.inr (List.mem_of_getElem? (i := 208) (by decide +kernel))
  | 6, _, _ => exact Or.inr (List.mem_of_getElem? (i := 209) (by decide +kernel))
  | 7, _, _ => exact Or.inr (List.mem_of_getElem? (i := 210) (by decide +kernel))
  | 8, _, hne => exact absurd rfl hne
  | 9, _, _ => exact Or.inl (List.mem_of_getElem? (i := 228) (by decide +kernel))
  | 10, _, _ => exact Or.inl (List.mem_of_getElem? (i := 245) (by decide +kernel))
  | 11, _, _ => exact Or.inl (List.mem_of_getElem? (i := 263) (by decide +kernel))
  | 12, _, _ => exact Or.inl (List.mem_of_getElem? (i := 286) (by decide +kernel))
  | 13, _, _ => exact Or.inl (List.mem_of_getElem? (i := 305) (by decide +kernel))
  | 14, _, _ => exact Or.inl (List.mem_of_getElem? (i := 329) (by decide +kernel))
  | 15, _, _ => exact Or.inl (List.mem_of_getElem? (i := 351) (by decide +kernel))
  | 16, _, _ => exact Or.inl (List.mem_of_getElem? (i := 376) (by decide +kernel))
  | 17, _, _ => exact Or.inl (List.mem_of_getElem? (i := 397) (by decide +kernel))
  | j + 18, hj, _ => exact absurd hj (by omega)
theorem sx_ne9 : ∀ j : Nat, j < 18 → 9 ≠ j → Cond.not (Cond.eq (xTm 9) (xTm j)) ∈ xFl1 ∨ Cond.not (Cond.eq (xTm j) (xTm 9)) ∈ xFl1 := by
  intro j hj hne
  match j, hj, hne with
  | 0, _, _ => exact Or.inr (List.mem_of_getElem? (i := 220) (by decide +kernel))
  | 1, _, _ => exact Or.inr (List.mem_of_getElem? (i := 221) (by decide +kernel))
  | 2, _, _ => exact Or.inr (List.mem_of_getElem? (i := 222) (by decide +kernel))
  | 3, _, _ => exact Or.inr (List.mem_of_getElem? (i := 223) (by decide +kernel))
  | 4, _, _ => exact Or.inr (List.mem_of_getElem? (i := 224) (by decide +kernel))
  | 5, _, _ => exact Or.inr (List.mem_of_getElem? (i := 225) (by decide +kernel))
  | 6, _, _ => exact Or.inr (List.mem_of_getElem? (i := 226) (by decide +kernel))
  | 7, _, _ => exact Or.inr (List.mem_of_getElem? (i := 227) (by decide +kernel))
  | 8, _, _ => exact Or.inr (List.mem_of_getElem? (i := 228) (by decide +kernel))
  | 9, _, hne => exact absurd rfl hne
  | 10, _, _ => exact Or.inl (List.mem_of_getElem? (i := 246) (by decide +kernel))
  | 11, _, _ => exact Or.inl (List.mem_of_getElem? (i := 264) (by decide +kernel))
  | 12, _, _ => exact Or.inl (List.mem_of_getElem? (i := 287) (by decide +kernel))
  | 13, _, _ => exact Or.inl (List.mem_of_getElem? (i := 306) (by decide +kernel))
  | 14, _, _ => exact Or.inl (List.mem_of_getElem? (i := 330) (by decide +kernel))
  | 15, _, _ => exact Or.inl (List.mem_of_getElem? (i := 352) (by decide +kernel))
  | 16, _, _ => exact Or.inl (List.mem_of_getElem? (i := 377) (by decide +kernel))
  | 17, _, _ => exact Or.inl (List.mem_of_getElem? (i := 398) (by decide +kernel))
  | j + 18, hj, _ => exact absurd hj (by omega)
theorem sx_ne10 : ∀ j : Nat, j < 18 → 10 ≠ j → Cond.not (Cond.eq (xTm 10) (xTm j)) ∈ xFl1 ∨ Cond.not (Cond.eq (xTm j) (xTm 10)) ∈ xFl1 := by
  intro j hj hne
  match j, hj, hne with
  | 0, _, _ => exact Or.inr (List.mem_of_getElem? (i := 237) (by decide +kernel))
  | 1, _, _ => exact Or.inr (List.mem_of_getElem? (i := 238) (by decide +kernel))
  | 2, _, _ => exact Or.inr (List.mem_of_getElem? (i := 239) (by decide +kernel))
  | 3, _, _ => exact Or.inr (List.mem_of_getElem? (i := 240) (by decide +kernel))
  | 4, _, _ => exact Or.inr (List.mem_of_getElem? (i := 241) (by decide +kernel))
  | 5, _, _ => exact Or.inr (List.mem_of_getElem? (i := 242) (by decide +kernel))
  | 6, _, _ => exact Or.inr (List.mem_of_getElem? (i := 243) (by decide +kernel))
  | 7, _, _ => exact Or.inr (List.mem_of_getElem? (i := 244) (by decide +kernel))
  | 8, _, _ => exact Or.inr (List.mem_of_getElem? (i := 245) (by decide +kernel))
  | 9, _, _ => exact Or.inr (List.mem_of_getElem? (i := 246) (by decide +kernel))
  | 10, _, hne => exact absurd rfl hne
  | 11, _, _ => exact Or.inl (List.mem_of_getElem? (i := 265) (by decide +kernel))
  | 12, _, _ => exact Or.inl (List.mem_of_getElem? (i := 288) (by decide +kernel))
  | 13, _, _ => exact Or.inl (List.mem_of_getElem? (i := 307) (by decide +kernel))
  | 14, _, _ => exact Or.inl (List.mem_of_getElem? (i := 331) (by decide +kernel))
  | 15, _, _ => exact Or.inl (List.mem_of_getElem? (i := 353) (by decide +kernel))
  | 16, _, _ => exact Or.inl (List.mem_of_getElem? (i := 378) (by decide +kernel))
  | 17, _, _ => exact Or.inl (List.mem_of_getElem? (i := 399) (by decide +kernel))
  | j + 18, hj, _ => exact absurd hj (by omega)
theorem sx_ne11 : ∀ j : Nat, j < 18 → 11 ≠ j → Cond.not (Cond.eq (xTm 11) (xTm j)) ∈ xFl1 ∨ Cond.not (Cond.eq (xTm j) (xTm 11)) ∈ xFl1 := by
  intro j hj hne
  match j, hj, hne with
  | 0, _, _ => exact Or.inr (List.mem_of_getElem? (i := 255) (by decide +kernel))
  | 1, _, _ => exact Or.inr (List.mem_of_getElem? (i := 256) (by decide +kernel))
  | 2, _, _ => exact Or.inr (List.mem_of_getElem? (i := 257) (by decide +kernel))
  | 3, _, _ => exact Or.inr (List.mem_of_getElem? (i := 258) (by decide +kernel))
  | 4, _, _ => exact Or.inr (List.mem_of_getElem? (i := 259) (by decide +kernel))
  | 5, _, _ => exact Or.inr (List.mem_of_getElem? (i := 260) (by decide +kernel))
  | 6, _, _ => exact Or.inr (List.mem_of_getElem? (i := 261) (by decide +kernel))
  | 7, _, _ => exact Or.inr (List.mem_of_getElem? (i := 262) (by decide +kernel))
  | 8, _, _ => exact Or.inr (List.mem_of_getElem? (i := 263) (by decide +kernel))
  | 9, _, _ => exact Or.inr (List.mem_of_getElem? (i := 264) (by decide +kernel))
  | 10, _, _ => exact Or.inr (List.mem_of_getElem? (i := 265) (by decide +kernel))
  | 11, _, hne => exact absurd rfl hne
  | 12, _, _ => exact Or.inl (List.mem_of_getElem? (i := 289) (by decide +kernel))
  | 13, _, _ => exact Or.inl (List.mem_of_getElem? (i := 308) (by decide +kernel))
  | 14, _, _ => exact Or.inl (List.mem_of_getElem? (i := 332) (by decide +kernel))
  | 15, _, _ => exact Or.inl (List.mem_of_getElem? (i := 354) (by decide +kernel))
  | 16, _, _ => exact Or.inl (List.mem_of_getElem? (i := 379) (by decide +kernel))
  | 17, _, _ => exact Or.inl (List.mem_of_getElem? (i := 400) (by decide +kernel))
  | j + 18, hj, _ => exact absurd hj (by omega)
theorem sx_ne12 : ∀ j : Nat, j < 18 → 12 ≠ j → Cond.not (Cond.eq (xTm 12) (xTm j)) ∈ xFl1 ∨ Cond.not (Cond.eq (xTm j) (xTm 12)) ∈ xFl1 := by
  intro j hj hne
  match j, hj, hne with
  | 0, _, _ => exact Or.inr (List.mem_of_getElem? (i := 278) (by decide +kernel))
  | 1, _, _ => exact Or.inr (List.mem_of_getElem? (i := 279) (by decide +kernel))
  | 2, _, _ => exact Or.inr (List.mem_of_getElem? (i := 280) (by decide +kernel))
  | 3, _, _ => exact Or.inr (List.mem_of_getElem? (i := 281) (by decide +kernel))
  | 4, _, _ => exact Or.inr (List.mem_of_getElem? (i := 282) (by decide +kernel))
  | 5, _, _ => exact Or.inr (List.mem_of_getElem? (i := 283) (by decide +kernel))
  | 6, _, _ => exact Or.inr (List.mem_of_getElem? (i := 284) (by decide +kernel))
  | 7, _, _ => exact Or.inr (List.mem_of_getElem? (i := 285) (by decide +kernel))
  | 8, _, _ => exact Or.inr (List.mem_of_getElem? (i := 286) (by decide +kernel))
  | 9, _, _ => exact Or.inr (List.mem_of_getElem? (i := 287) (by decide +kernel))
  | 10, _, _ => exact Or.inr (List.mem_of_getElem? (i := 288) (by decide +kernel))
  | 11, _, _ => exact Or.inr (List.mem_of_getElem? (i := 289) (by decide +kernel))
  | 12, _, hne => exact absurd rfl hne
  | 13, _, _ => exact Or.inl (List.mem_of_getElem? (i := 309) (by decide +kernel))
  | 14, _, _ => exact Or.inl (List.mem_of_getElem? (i := 333) (by decide +kernel))
  | 15, _, _ => exact Or.inl (List.mem_of_getElem? (i := 355) (by decide +kernel))
  | 16, _, _ => exact Or.inl (List.mem_of_getElem? (i := 380) (by decide +kernel))
  | 17, _, _ => exact Or.inl (List.mem_of_getElem? (i := 401) (by decide +kernel))
  | j + 18, hj, _ => exact absurd hj (by omega)
theorem sx_ne13 : ∀ j : Nat, j < 18 → 13 ≠ j → Cond.not (Cond.eq (xTm 13) (xTm j)) ∈ xFl1 ∨ Cond.not (Cond.eq (xTm j) (xTm 13)) ∈ xFl1 := by
  intro j hj hne
  match j, hj, hne with
  | 0, _, _ => exact Or.inr (List.mem_of_getElem? (i := 297) (by decide +kernel))
  | 1, _, _ => exact Or.inr (List.mem_of_getElem? (i := 298) (by decide +kernel))
  | 2, _, _ => exact Or.inr (List.mem_of_getElem? (i := 299) (by decide +kernel))
  | 3, _, _ => exact Or.inr (List.mem_of_getElem? (i := 300) (by decide +kernel))
  | 4, _, _ => exact Or.inr (List.mem_of_getElem? (i := 301) (by decide +kernel))
  | 5, _, _ => exact Or.inr (List.mem_of_getElem? (i := 302) (by decide +kernel))
  | 6, _, _ => exact Or.inr (List.mem_of_getElem? (i := 303) (by decide +kernel))
  | 7, _, _ => exact Or.inr (List.mem_of_getElem? (i := 304) (by decide +kernel))
  | 8, _, _ => exact Or.inr (List.mem_of_getElem? (i := 305) (by decide +kernel))
  | 9, _, _ => exact Or.inr (List.mem_of_getElem? (i := 306) (by decide +kernel))
  | 10, _, _ => exact Or.inr (List.mem_of_getElem? (i := 307) (by decide +kernel))
  | 11, _, _ => exact Or.inr (List.mem_of_getElem? (i := 308) (by decide +kernel))
  | 12, _, _ => exact Or.inr (List.mem_of_getElem? (i := 309) (by decide +kernel))
  | 13, _, hne => exact absurd rfl hne
  | 14, _, _ => exact Or.inl (List.mem_of_getElem? (i := 334) (by decide +kernel))
  | 15, _, _ => exact Or.inl (List.mem_of_getElem? (i := 356) (by decide +kernel))
  | 16, _, _ => exact Or.inl (List.mem_of_getElem? (i := 381) (by decide +kernel))
  | 17, _, _ => exact Or.inl (List.mem_of_getElem? (i := 402) (by decide +kernel))
  | j + 18, hj, _ => exact absurd hj (by omega)
theorem sx_ne14 : ∀ j : Nat, j < 18 → 14 ≠ j → Cond.not (Cond.eq (xTm 14) (xTm j)) ∈ xFl1 ∨ Cond.not (Cond.eq (xTm j) (xTm 14)) ∈ xFl1 := by
  intro j hj hne
  match j, hj, hne with
  | 0, _, _ => exact Or.inr (List.mem_of_getElem? (i := 321) (by decide +kernel))
  | 1, _, _ => exact Or.inr (List.mem_of_getElem? (i := 322) (by decide +kernel))
  | 2, _, _ => exact Or.inr (List.mem_of_getElem? (i := 323) (by decide +kernel))
  | 3, _, _ => exact Or.inr (List.mem_of_getElem? (i := 324) (by decide +kernel))
  | 4, _, _ => exact Or.inr (List.mem_of_getElem? (i := 325) (by decide +kernel))
  | 5, _, _ => exact Or.inr (List.mem_of_getElem? (i := 326) (by decide +kernel))
  | 6, _, _ => exact Or.inr (List.mem_of_getElem? (i := 327) (by decide +kernel))
  | 7, _, _ => exact Or.inr (List.mem_of_getElem? (i := 328) (by decide +kernel))
  | 8, _, _ => exact Or.inr (List.mem_of_getElem? (i := 329) (by decide +kernel))
  | 9, _, _ => exact Or.inr (List.mem_of_getElem? (i := 330) (by decide +kernel))
  | 10, _, _ => exact Or.inr (List.mem_of_getElem? (i := 331) (by decide +kernel))
  | 11, _, _ => exact Or.inr (List.mem_of_getElem? (i := 332) (by decide +kernel))
  | 12, _, _ => exact Or.inr (List.mem_of_getElem? (i := 333) (by decide +kernel))
  | 13, _, _ => exact Or.inr (List.mem_of_getElem? (i := 334) (by decide +kernel))
  | 14, _, hne => exact absurd rfl hne
  | 15, _, _ => exact Or.inl (List.mem_of_getElem? (i := 357) (by decide +kernel))
  | 16, _, _ => exact Or.inl (List.mem_of_getElem? (i := 382) (by decide +kernel))
  | 17, _, _ => exact Or.inl (List.mem_of_getElem? (i := 403) (by decide +kernel))
  | j + 18, hj, _ => exact absurd hj (by omega)
theorem sx_ne15 : ∀ j : Nat, j < 18 → 15 ≠ j → Cond.not (Cond.eq (xTm 15) (xTm j)) ∈ xFl1 ∨ Cond.not (Cond.eq (xTm j) (xTm 15)) ∈ xFl1 := by
  intro j hj hne
  match j, hj, hne with
  | 0, _, _ => exact Or.inr (List.mem_of_getElem? (i := 343) (by decide +kernel))
  | 1, _, _ => exact Or.inr (List.mem_of_getElem? (i := 344) (by decide +kernel))
  | 2, _, _ => exact Or.inr (List.mem_of_getElem? (i := 345) (by decide +kernel))
  | 3, _, _ => exact Or.inr (List.mem_of_getElem? (i := 346) (by decide +kernel))
  | 4, _, _ => exact Or.inr (List.mem_of_getElem? (i := 347) (by decide +kernel))
  | 5, _, _ => exact Or.inr (List.mem_of_getElem? (i := 348) (by decide +kernel))
  | 6, _, _ => exact Or.inr (List.mem_of_getElem? (i := 349) (by decide +kernel))
  | 7, _, _ => exact Or.inr (List.mem_of_getElem? (i := 350) (by decide +kernel))
  | 8, _, _ => exact Or.inr (List.mem_of_getElem? (i := 351) (by decide +kernel))
  | 9, _, _ => exact Or.inr (List.mem_of_getElem? (i := 352) (by decide +kernel))
  | 10, _, _ => exact Or.inr (List.mem_of_getElem? (i := 353) (by decide +kernel))
  | 11, _, _ => exact Or.inr (List.mem_of_getElem? (i := 354) (by decide +kernel))
  | 12, _, _ => exact Or.inr (List.mem_of_getElem? (i := 355) (by decide +kernel))
  | 13, _, _ => exact Or.inr (List.mem_of_getElem? (i := 356) (by decide +kernel))
  | 14, _, _ => exact Or.inr (List.mem_of_getElem? (i := 357) (by decide +kernel))
  | 15, _, hne => exact absurd rfl hne
  | 16, _, _ => exact Or.inl (List.mem_of_getElem? (i := 383) (by decide +kernel))
  | 17, _, _ => exact Or.inl (List.mem_of_getElem? (i := 404) (by decide +kernel))
  | j + 18, hj, _ => exact absurd hj (by omega)
theorem sx_ne16 : ∀ j : Nat, j < 18 → 16 ≠ j → Cond.not (Cond.eq (xTm 16) (xTm j)) ∈ xFl1 ∨ Cond.not (Cond.eq (xTm j) (xTm 16)) ∈ xFl1 := by
  intro j hj hne
  match j, hj, hne with
  | 0, _, _ => exact Or.inr (List.mem_of_getElem? (i := 368) (by decide +kernel))
  | 1, _, _ => exact Or.inr (List.mem_of_getElem? (i := 369) (by decide +kernel))
  | 2, _, _ => exact Or.inr (List.mem_of_getElem? (i := 370) (by decide +kernel))
  | 3, _, _ => exact Or.inr (List.mem_of_getElem? (i := 371) (by decide +kernel))
  | 4, _, _ => exact Or.inr (List.mem_of_getElem? (i := 372) (by decide +kernel))
  | 5, _, _ => exact Or.inr (List.mem_of_getElem? (i := 373) (by decide +kernel))
  | 6, _, _ => exact Or.inr (List.mem_of_getElem? (i := 374) (by decide +kernel))
  | 7, _, _ => exact Or.inr (List.mem_of_getElem? (i := 375) (by decide +kernel))
  | 8, _, _ => exact Or.inr (List.mem_of_getElem? (i := 376) (by decide +kernel))
  | 9, _, _ => exact Or.inr (List.mem_of_getElem? (i := 377) (by decide +kernel))
  | 10, _, _ => exact Or.inr (List.mem_of_getElem? (i := 378) (by decide +kernel))
  | 11, _, _ => exact Or.inr (List.mem_of_getElem? (i := 379) (by decide +kernel))
  | 12, _, _ => exact Or.inr (List.mem_of_getElem? (i := 380) (by decide +kernel))
  | 13, _, _ => exact Or.inr (List.mem_of_getElem? (i := 381) (by decide +kernel))
  | 14, _, _ => exact Or.inr (List.mem_of_getElem? (i := 382) (by decide +kernel))
  | 15, _, _ => exact Or.inr (List.mem_of_getElem? (i := 383) (by decide +kernel))
  | 16, _, hne => exact absurd rfl hne
  | 17, _, _ => exact Or.inl (List.mem_of_getElem? (i := 405) (by decide +kernel))
  | j + 18, hj, _ => exact absurd hj (by omega)
theorem sx_ne17 : ∀ j : Nat, j < 18 → 17 ≠ j → Cond.not (Cond.eq (xTm 17) (xTm j)) ∈ xFl1 ∨ Cond.not (Cond.eq (xTm j) (xTm 17)) ∈ xFl1 := by
  intro j hj hne
  match j, hj, hne with
  | 0, _, _ => exact Or.inr (List.mem_of_getElem? (i := 389) (by decide +kernel))
  | 1, _, _ => exact Or.inr (List.mem_of_getElem? (i := 390) (by decide +kernel))
  | 2, _, _ => exact Or.inr (List.mem_of_getElem? (i := 391) (by decide +kernel))
  | 3, _, _ => exact Or.inr (List.mem_of_getElem? (i := 392) (by decide +kernel))
  | 4, _, _ => exact Or.inr (List.mem_of_getElem? (i := 393) (by decide +kernel))
  | 5, _, _ => exact Or.inr (List.mem_of_getElem? (i := 394) (by decide +kernel))
  | 6, _, _ => exact Or.inr (List.mem_of_getElem? (i := 395) (by decide +kernel))
  | 7, _, _ => exact Or.inr (List.mem_of_getElem? (i := 396) (by decide +kernel))
  | 8, _, _ => exact Or.inr (List.mem_of_getElem? (i := 397) (by decide +kernel))
  | 9, _, _ => exact Or.inr (List.mem_of_getElem? (i := 398) (by decide +kernel))
  | 10, _, _ => exact Or.inr (List.mem_of_getElem? (i := 399) (by decide +kernel))
  | 11, _, _ => exact Or.inr (List.mem_of_getElem? (i := 400) (by decide +kernel))
  | 12, _, _ => exact Or.inr (List.mem_of_getElem? (i := 401) (by decide +kernel))
  | 13, _, _ => exact Or.inr (List.mem_of_getElem? (i := 402) (by decide +kernel))
  | 14, _, _ => exact Or.inr (List.mem_of_getElem? (i := 403) (by decide +kernel))
  | 15, _, _ => exact Or.inr (List.mem_of_getElem? (i := 404) (by decide +kernel))
  | 16, _, _ => exact Or.inr (List.mem_of_getElem? (i := 405) (by decide +kernel))
  | 17, _, hne => exact absurd rfl hne
  | j + 18, hj, _ => exact absurd hj (by omega)
theorem sx_ne : ∀ i : Nat, i < 18 → ∀ j : Nat, j < 18 → i ≠ j → Cond.not (Cond.eq (xTm i) (xTm j)) ∈ xFl1 ∨ Cond.not (Cond.eq (xTm j) (xTm i)) ∈ xFl1 := by
  intro i hi
  match i, hi with
  | 0, _ => exact sx_ne0
  | 1, _ => exact sx_ne1
  | 2, _ => exact sx_ne2
  | 3, _ => exact sx_ne3
  | 4, _ => exact sx_ne4
  | 5, _ => exact sx_ne5
  | 6, _ => exact sx_ne6
  | 7, _ => exact sx_ne7
  | 8, _ => exact sx_ne8
  | 9, _ => exact sx_ne9
  | 10, _ => exact sx_ne10
  | 11, _ => exact sx_ne11
  | 12, _ => exact sx_ne12
  | 13, _ => exact sx_ne13
  | 14, _ => exact sx_ne14
  | 15, _ => exact sx_ne15
  | 16, _ => exact sx_ne16
  | 17, _ => exact sx_ne17
  | i + 18, hi => exact absurd hi (by omega)
