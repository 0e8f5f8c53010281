theorem sx_sr : ∀ i : Nat, i < 18 → Cond.stringRef (xStr.getD i ("", 0, "")).1 (xStr.getD i ("", 0, "")).2.1 (xStr.getD i ("", 0, "")).2.2 ∈ lw_tbl := by
  intro i hi
  match i, hi with
  | 0, _ => exact List.mem_of_getElem? (i := 213) (by decide +kernel)
  | 1, _ => exact List.mem_of_getElem? (i := 278) (by decide +kernel)
  | 2, _ => exact List.mem_of_getElem? (i := 293) (by decide +kernel)
  | 3, _ => exact List.mem_of_getElem? (i := 305) (by decide +kernel)
  | 4, _ => exact List.mem_of_getElem? (i := 310) (by decide +kernel)
  | 5, _ => exact List.mem_of_getElem? (i := 312) (by decide +kernel)
  | 6, _ => exact List.mem_of_getElem? (i := 313) (by decide +kernel)
  | 7, _ => exact List.mem_of_getElem? (i := 314) (by decide +kernel)
  | 8, _ => exact List.mem_of_getElem? (i := 319) (by decide +kernel)
  | 9, _ => exact List.mem_of_getElem? (i := 328) (by decide +kernel)
  | 10, _ => exact List.mem_of_getElem? (i := 329) (by decide +kernel)
  | 11, _ => exact List.mem_of_getElem? (i := 330) (by decide +kernel)
  | 12, _ => exact List.mem_of_getElem? (i := 331) (by decide +kernel)
  | 13, _ => exact List.mem_of_getElem? (i := 336) (by decide +kernel)
  | 14, _ => exact List.mem_of_getElem? (i := 337) (by decide +kernel)
  | 15, _ => exact List.mem_of_getElem? (i := 338) (by decide +kernel)
  | 16, _ => exact List.mem_of_getElem? (i := 339) (by decide +kernel)
  | 17, _ => exact List.mem_of_getElem? (i := 340) (by decide +kernel)
  | i + 18, hi => exact absurd hi (by omega)
theorem sx_nest : ∀ w ∈ xNest, w ∈ lw_tbl := by
  intro w hw
  simp only [xNest, List.mem_cons, List.not_mem_nil, or_false] at hw
  rcases hw with rfl | rfl | rfl | rfl | rfl | rfl
  · exact List.mem_of_getElem? (i := 63) (by decide +kernel)
  · exact List.mem_of_getElem? (i := 89) (by decide +kernel)
  · exact List.mem_of_getElem? (i := 125) (by decide +kernel)
  · exact List.mem_of_getElem? (i := 210) (by decide +kernel)
  · exact List.mem_of_getElem? (i := 212) (by decide +kernel)
  · exact List.mem_of_getElem? (i := 302) (by decide +kernel)
theorem sx_ao0 : Cond.arrayOver (.object RX0) ∈ lw_tbl := List.mem_of_getElem? (i := 208) (by decide +kernel)
theorem sx_ao3 : Cond.arrayOver (.object RX3) ∈ lw_tbl := List.mem_of_getElem? (i := 123) (by decide +kernel)
theorem sx_ls1 : Cond.laysStatic "java/lang/String" "COMPACT_STRINGS" "Z" ∈ lw_tbl := List.mem_of_getElem? (i := 223) (by decide +kernel)
theorem sx_ls2 : Cond.laysStatic "jdk/internal/util/Preconditions" "SIOOBE_FORMATTER" "Ljava/util/function/BiFunction;" ∈ lw_tbl := List.mem_of_getElem? (i := 239) (by decide +kernel)
theorem sx_is : Cond.initialized "java/lang/String" ∈ lw_tbl := List.mem_of_getElem? (i := 46) (by decide +kernel)
theorem sx_ip : Cond.initialized "jdk/internal/util/Preconditions" ∈ lw_tbl := List.mem_of_getElem? (i := 48) (by decide +kernel)
theorem sx_in0 : Cond.instantiable RX0 4 ∈ lw_tbl := List.mem_of_getElem? (i := 82) (by decide +kernel)
theorem sx_in1 : Cond.instantiable RX1 5 ∈ lw_tbl := List.mem_of_getElem? (i := 88) (by decide +kernel)
theorem sx_in2 : Cond.instantiable RX2 3 ∈ lw_tbl := List.mem_of_getElem? (i := 62) (by decide +kernel)
theorem sx_in3 : Cond.instantiable RX3 15 ∈ lw_tbl := List.mem_of_getElem? (i := 124) (by decide +kernel)
theorem sx_in4 : Cond.instantiable RX4 8 ∈ lw_tbl := List.mem_of_getElem? (i := 54) (by decide +kernel)
theorem sx_in5 : Cond.instantiable RX5 10 ∈ lw_tbl := List.mem_of_getElem? (i := 601) (by decide +kernel)
set_option maxRecDepth 100000 in
set_option maxHeartbeats 4000000 in
/-- what all methods' contracts ask of the tables and of the cells that were there, at the law's start -/
theorem env_start {s : State} {args : Array Value} (l : Launch) {b L : Nat} {xs : Nat → Int32} (hts : ∀ w ∈ lw_tbl, w.before args s = true) (hX : va_X b L xs s s.heap) (hbl : b < s.heap.size) (hgv : (Jvm.Cond.and given_1 narrow_1).before args s = true) : ∃ G : xG, G.1 = l ∧ xg_n G = s.heap.size ∧ xg_b G = b ∧ xg_L G = L ∧ xg_x G = xs ∧ xE G s s.heap := by
  have hfl := flat_of_before _ hgv
  obtain ⟨c0, iS0, hKn0⟩ := u_known (C := RX0) (T := TX0) (N := 4) (n := 4) hts (fun w h => xW_tbl (inWX0 w h)) (hts _ sx_in0)
  obtain ⟨c1, iS1, hKn1⟩ := u_known (C := RX1) (T := TX1) (N := 5) (n := 5) hts (fun w h => xW_tbl (inWX1 w h)) (hts _ sx_in1)
  obtain ⟨c2, iS2, hKn2⟩ := u_known (C := RX2) (T := TX2) (N := 3) (n := 3) hts (fun w h => xW_tbl (inWX2 w h)) (hts _ sx_in2)
  obtain ⟨c3, iS3, hKn3⟩ := u_known (C := RX3) (T := TX3) (N := 15) (n := 15) hts (fun w h => xW_tbl (inWX3 w h)) (hts _ sx_in3)
  obtain ⟨c4, iS4, hKn4⟩ := u_known (C := RX4) (T := TX4) (N := 8) (n := 8) hts (fun w h => xW_tbl (inWX4 w h)) (hts _ sx_in4)
  obtain ⟨c5, iS5, hKn5⟩ := u_known (C := RX5) (T := TX5) (N := 10) (n := 10) hts (fun w h => xW_tbl (inWX5 w h)) (hts _ sx_in5)
  obtain ⟨dC, dI, hKc⟩ : ∃ (dC : Nat → ClassId) (dI : Nat → Nat → Nat), ∀ (k : Nat) (q : vw_C), vwCl[k]? = some q → u_Kn s q.1 q.2.1 q.2.2 (dC k) (dI k) := by
    refine ⟨fun k => if k = 0 then c0 else if k = 1 then c1 else if k = 2 then c2 else if k = 3 then c3 else if k = 4 then c4 else c5, fun k => if k = 0 then iS0 else if k = 1 then iS1 else if k = 2 then iS2 else if k = 3 then iS3 else if k = 4 then iS4 else iS5, ?_⟩
    intro k q hq
    match k, hq with
    | 0, hq => cases hq; exact hKn0
    | 1, hq => cases hq; exact hKn1
    | 2, hq => cases hq; exact hKn2
    | 3, hq => cases hq; exact hKn3
    | 4, hq => cases hq; exact hKn4
    | 5, hq => cases hq; exact hKn5
    | k + 6, hq => simp [vwCl] at hq
  obtain ⟨aI, kI, cmI, i1, i2, i3⟩ := Cond.arrayClass_spec (hts _ (xW_tbl xw_arr_int))
  obtain ⟨aC, kC, cmC, j1, j2, j3⟩ := Cond.arrayClass_spec (hts _ (xW_tbl xw_arr_char))
  obtain ⟨cmN, aN, kN, n1, -, n3, n4, n5⟩ := Cond.arrayOver_spec (hts _ sx_ao0)
  obtain ⟨cmW, aW, kW, w1, -, w3, w4, w5⟩ := Cond.arrayOver_spec (hts _ sx_ao3)
  have hA : ∀ a : Nat, a < s.heap.size → ¬ (fun q : Nat => s.heap.size ≤ q) a := fun a h1 h2 => absurd h1 (Nat.not_lt.mpr h2)
  obtain ⟨sK, sV, hSt, hTm⟩ := vk_Sof (args := args) (s := s) (N := 18) (tm := xTm) (len := xLen) (byt := xByt) (A := fun q : Nat => s.heap.size ≤ q) sx_len (fun i hi => hfl _ (sx_ex i hi)) (fun i hi => hfl _ (sx_co i hi)) (fun i hi => hfl _ (sx_ar i hi)) (fun i hi => hfl _ (sx_le i hi)) (fun i hi j hj => hfl _ (sx_el i hi j hj)) (fun i j hi hj hij => (sx_ne i hi j hj hij).elim (fun h => Or.inl (hfl _ h)) (fun h => Or.inr (hfl _ h))) hA
  refine ⟨(l, (dC, dI), fun k => if k = 0 then aI else if k = 1 then aC else if k = 2 then aN else aW, s.heap.size, sK, sV, b, L, xs), rfl, rfl, rfl, rfl, rfl, ⟨hKc, ?_⟩, va_AO.of (hts _ sx_ao0), va_AO.of (hts _ sx_ao3), ?_, ?_, hSt, ?_, ?_, hX, ⟨hbl, hA b hbl⟩, Nat.le_refl _⟩
  · intro k q hq
    match k, hq with
    | 0, hq => cases hq; exact ⟨fun n z => ⟨(fun k h => by cases h), kI, i2, cmI, i3⟩, i1⟩
    | 1, hq => cases hq; exact ⟨fun n z => ⟨(fun k h => by cases h), kC, j2, cmC, j3⟩, j1⟩
    | 2, hq => cases hq; exact ⟨fun n z => ⟨(fun k h => by cases h), kN, n3, cmN, n4⟩, kN, cmN, n3, n4, n1, n5⟩
    | 3, hq => cases hq; exact ⟨fun n z => ⟨(fun k h => by cases h), kW, w3, cmW, w4⟩, kW, cmW, w3, w4, w1, w5⟩
    | k + 4, hq => simp at hq
  · intro w hw
    have hm := hts w (sx_nest w hw)
    simp only [xNest, List.mem_cons, List.not_mem_nil, or_false] at hw
    rcases hw with rfl | rfl | rfl | rfl | rfl | rfl <;> exact va_Nw.of rfl hm
  · intro i q hq
    have hi : i < 18 := (List.getElem?_eq_some_iff.mp hq).1
    have hg : xStr.getD i ("", 0, "") = q := by rw [List.getD_eq_getElem?_getD, hq]; rfl
    have h1 := hts _ (sx_sr i hi)
    have h2 := hTm i hi
    unfold xTm at h2
    rw [hg] at h1 h2
    exact vk_R.of h1 h2
  · exact va_Zof (hts _ sx_ls1) (hts _ sx_is) (va_eqt (hfl _ sx_cs)) hA
  · exact va_Zqof (hts _ sx_ls2) (hts _ sx_ip) (hfl _ sx_fm) hA
