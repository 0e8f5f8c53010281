/-! PURE. Part 28: sums, least, passes, which way, which hop -/
theorem ls_eq {v x : Int32} : f_X5_lesser v x = if x < v then x else v := by
  unfold f_X5_lesser
  by_cases c : x < v
  · rw [if_pos c, if_pos ((fa_le x v).mpr (by have := (fa_lt x v).mp c; omega))]
  · rw [if_neg c]
    by_cases d : x ≤ v
    · rw [if_pos d, fa_eq]
      have c' := mt (fa_lt x v).mpr c
      have d' := (fa_le x v).mp d
      omega
    · rw [if_neg d]
theorem gr_eq {v x : Int32} : f_X5_greater v x = if v < x then x else v := by
  unfold f_X5_greater
  by_cases c : v < x
  · rw [if_pos c, if_pos ((fa_le v x).mpr (by have := (fa_lt v x).mp c; omega))]
  · rw [if_neg c]
    by_cases d : v ≤ x
    · rw [if_pos d, fa_eq]
      have c' := mt (fa_lt v x).mpr c
      have d' := (fa_le v x).mp d
      omega
    · rw [if_neg d]
theorem a_k {i k : Nat} (hi : i < 4) (hk : k < 24) {x : Int32} (hx : x = nI k) : (f_X5_at (nI i) x).toNatClampNeg = 7 + 24 * i + k := by rw [hx]; exact at_cl hi hk
theorem allLostL {N : Nat} (hN : N ≤ 4) {r t m tn : Nat → Int32} {W LF KF : Nat → Nat → Int32} (ht : t 0 = nI N) (h : AR N W LF KF r tn) : ∀ (n j f f' : Nat) (acc : Int32), j + n = N → n < f → n < f' → (l_X0_allLost_4 f r t W LF KF (nI j) acc).2 = (l_X5_sumOf_4 f' m tn (8 : Int32) (nI j) acc).2 ∧ q_X0_allLost_4 f r t W LF KF (nI j) acc ∧ q_X5_sumOf_4 f' m tn (8 : Int32) (nI j) acc := by
  intro n
  induction n with
  | zero =>
    intro j f f' acc e h1 h2
    obtain ⟨f, rfl⟩ : ∃ g, f = g + 1 := ⟨f - 1, by omega⟩
    obtain ⟨f', rfl⟩ : ∃ g, f' = g + 1 := ⟨f' - 1, by omega⟩
    have c1 : t 0 ≤ nI j := by rw [ht]; exact nI_le (by omega) (by omega)
    have c2 : tn 0 ≤ nI j := by rw [h.1]; exact nI_le (by omega) (by omega)
    rw [l_X0_allLost_4, l_X5_sumOf_4, q_X0_allLost_4, q_X5_sumOf_4, if_pos c1, if_pos c2]
    exact ⟨rfl, ⟨fun _ => trivial, fun z => absurd c1 z⟩, ⟨fun _ => trivial, fun z => absurd c2 z⟩⟩
  | succ n ih =>
    intro j f f' acc e h1 h2
    obtain ⟨f, rfl⟩ : ∃ g, f = g + 1 := ⟨f - 1, by omega⟩
    obtain ⟨f', rfl⟩ : ∃ g, f' = g + 1 := ⟨f' - 1, by omega⟩
    have c1 : ¬ (t 0 ≤ nI j) := by rw [ht]; exact nI_ge (by omega) (by omega)
    have c2 : ¬ (tn 0 ≤ nI j) := by rw [h.1]; exact nI_ge (by omega) (by omega)
    obtain ⟨H, hH, hk, hw⟩ := AR.kk (i := j) (by omega) h
    have hc : (nI j).toNatClampNeg = j := nI_clamp (by omega)
    have he : tn ((f_X5_at (nI j) (8 : Int32)).toNatClampNeg) = W j 8 := by rw [a8 (by omega)]; exact hk.g 8 (by decide)
    have hv : vp_in (f_X5_at (nI j) (8 : Int32)) 103 := ai (by omega) (k := 8) (by decide) rfl
    have hv4 : vp_in (nI j) 4 := vp_in_nI (by omega) (by omega)
    obtain ⟨g1, g2, g3⟩ := ih (j + 1) f f' (acc + W j 8) (by omega) (by omega) (by omega)
    rw [l_X0_allLost_4, l_X5_sumOf_4, q_X0_allLost_4, q_X5_sumOf_4, if_neg c1, if_neg c2, hc, he, nI_1]
    exact ⟨g1, ⟨fun z => absurd z c1, fun _ => ⟨hv4, g2⟩⟩, ⟨fun z => absurd z c2, fun _ => ⟨hv, g3⟩⟩⟩
theorem allLostR {N : Nat} (hN : N ≤ 4) {r t m tn : Nat → Int32} {W LF KF : Nat → Nat → Int32} (ht : t 0 = nI N) (h : AR N W LF KF r tn) : f_X0_allLost r t W LF KF = f_X5_sumOf m tn (8 : Int32) ∧ p_X0_allLost r t W LF KF ∧ p_X5_sumOf m tn (8 : Int32) := by
  obtain ⟨g1, g2, g3⟩ := allLostL (m := m) hN ht h N 0 xK xK 0 (by omega) (by unfold xK; omega) (by unfold xK; omega)
  rw [nI_0] at g1 g2 g3
  exact ⟨g1, ⟨g2, trivial⟩, ⟨g3, trivial⟩⟩
theorem allSentL {N : Nat} (hN : N ≤ 4) {r t m tn : Nat → Int32} {W LF KF : Nat → Nat → Int32} (ht : t 0 = nI N) (h : AR N W LF KF r tn) : ∀ (n j f f' : Nat) (acc : Int32), j + n = N → n < f → n < f' → (l_X0_allSent_4 f r t W LF KF (nI j) acc).2 = (l_X5_sumOf_4 f' m tn (7 : Int32) (nI j) acc).2 ∧ q_X0_allSent_4 f r t W LF KF (nI j) acc ∧ q_X5_sumOf_4 f' m tn (7 : Int32) (nI j) acc := by
  intro n
  induction n with
  | zero =>
    intro j f f' acc e h1 h2
    obtain ⟨f, rfl⟩ : ∃ g, f = g + 1 := ⟨f - 1, by omega⟩
    obtain ⟨f', rfl⟩ : ∃ g, f' = g + 1 := ⟨f' - 1, by omega⟩
    have c1 : t 0 ≤ nI j := by rw [ht]; exact nI_le (by omega) (by omega)
    have c2 : tn 0 ≤ nI j := by rw [h.1]; exact nI_le (by omega) (by omega)
    rw [l_X0_allSent_4, l_X5_sumOf_4, q_X0_allSent_4, q_X5_sumOf_4, if_pos c1, if_pos c2]
    exact ⟨rfl, ⟨fun _ => trivial, fun z => absurd c1 z⟩, ⟨fun _ => trivial, fun z => absurd c2 z⟩⟩
  | succ n ih =>
    intro j f f' acc e h1 h2
    obtain ⟨f, rfl⟩ : ∃ g, f = g + 1 := ⟨f - 1, by omega⟩
    obtain ⟨f', rfl⟩ : ∃ g, f' = g + 1 := ⟨f' - 1, by omega⟩
    have c1 : ¬ (t 0 ≤ nI j) := by rw [ht]; exact nI_ge (by omega) (by omega)
    have c2 : ¬ (tn 0 ≤ nI j) := by rw [h.1]; exact nI_ge (by omega) (by omega)
    obtain ⟨H, hH, hk, hw⟩ := AR.kk (i := j) (by omega) h
    have hc : (nI j).toNatClampNeg = j := nI_clamp (by omega)
    have he : tn ((f_X5_at (nI j) (7 : Int32)).toNatClampNeg) = W j 7 := by rw [a7 (by omega)]; exact hk.g 7 (by decide)
    have hv : vp_in (f_X5_at (nI j) (7 : Int32)) 103 := ai (by omega) (k := 7) (by decide) rfl
    have hv4 : vp_in (nI j) 4 := vp_in_nI (by omega) (by omega)
    obtain ⟨g1, g2, g3⟩ := ih (j + 1) f f' (acc + W j 7) (by omega) (by omega) (by omega)
    rw [l_X0_allSent_4, l_X5_sumOf_4, q_X0_allSent_4, q_X5_sumOf_4, if_neg c1, if_neg c2, hc, he, nI_1]
    exact ⟨g1, ⟨fun z => absurd z c1, fun _ => ⟨hv4, g2⟩⟩, ⟨fun z => absurd z c2, fun _ => ⟨hv, g3⟩⟩⟩
theorem allSentR {N : Nat} (hN : N ≤ 4) {r t m tn : Nat → Int32} {W LF KF : Nat → Nat → Int32} (ht : t 0 = nI N) (h : AR N W LF KF r tn) : f_X0_allSent r t W LF KF = f_X5_sumOf m tn (7 : Int32) ∧ p_X0_allSent r t W LF KF ∧ p_X5_sumOf m tn (7 : Int32) := by
  obtain ⟨g1, g2, g3⟩ := allSentL (m := m) hN ht h N 0 xK xK 0 (by omega) (by unfold xK; omega) (by unfold xK; omega)
  rw [nI_0] at g1 g2 g3
  exact ⟨g1, ⟨g2, trivial⟩, ⟨g3, trivial⟩⟩
theorem countL {N : Nat} (hN : N ≤ 4) {r t m tn : Nat → Int32} {what : Int32} {W LF KF : Nat → Nat → Int32} (ht : t 0 = nI N) (h : AR N W LF KF r tn) : ∀ (n j f f1 f2 : Nat) (d l : Int32), j + n = N → n < f → n < f1 → n < f2 → (l_X5_count_9 f m tn what (nI j) d l).2.1 = (l_X0_allDone_4 f1 r t W LF KF (nI j) d).2 ∧ (l_X5_count_9 f m tn what (nI j) d l).2.2 = (l_X0_leastLow_6 f2 r t W LF KF (nI j) l).2 ∧ q_X5_count_9 f m tn what (nI j) d l ∧ q_X0_allDone_4 f1 r t W LF KF (nI j) d ∧ q_X0_leastLow_6 f2 r t W LF KF (nI j) l := by
  intro n
  induction n with
  | zero =>
    intro j f f1 f2 d l e h1 h2 h3
    obtain ⟨f, rfl⟩ : ∃ g, f = g + 1 := ⟨f - 1, by omega⟩
    obtain ⟨f1, rfl⟩ : ∃ g, f1 = g + 1 := ⟨f1 - 1, by omega⟩
    obtain ⟨f2, rfl⟩ : ∃ g, f2 = g + 1 := ⟨f2 - 1, by omega⟩
    have c1 : t 0 ≤ nI j := by rw [ht]; exact nI_le (by omega) (by omega)
    have c2 : tn 0 ≤ nI j := by rw [h.1]; exact nI_le (by omega) (by omega)
    rw [l_X5_count_9, l_X0_allDone_4, l_X0_leastLow_6, q_X5_count_9, q_X0_allDone_4, q_X0_leastLow_6, if_pos c1, if_pos c1, if_pos c2]
    exact ⟨rfl, rfl, ⟨fun _ => trivial, fun z => absurd c2 z⟩, ⟨fun _ => trivial, fun z => absurd c1 z⟩, ⟨fun _ => trivial, fun z => absurd c1 z⟩⟩
  | succ n ih =>
    intro j f f1 f2 d l e h1 h2 h3
    obtain ⟨f, rfl⟩ : ∃ g, f = g + 1 := ⟨f - 1, by omega⟩
    obtain ⟨f1, rfl⟩ : ∃ g, f1 = g + 1 := ⟨f1 - 1, by omega⟩
    obtain ⟨f2, rfl⟩ : ∃ g, f2 = g + 1 := ⟨f2 - 1, by omega⟩
    have c1 : ¬ (t 0 ≤ nI j) := by rw [ht]; exact nI_ge (by omega) (by omega)
    have c2 : ¬ (tn 0 ≤ nI j) := by rw [h.1]; exact nI_ge (by omega) (by omega)
    obtain ⟨H, hH, hk, hw⟩ := AR.kk (i := j) (by omega) h
    have hc : (nI j).toNatClampNeg = j := nI_clamp (by omega)
    have he0 : tn ((f_X5_at (nI j) (0 : Int32)).toNatClampNeg) = W j 0 := by rw [a0 (by omega)]; exact hk.g 0 (by decide)
    have he2 : tn ((f_X5_at (nI j) (2 : Int32)).toNatClampNeg) = W j 2 := by rw [a2 (by omega)]; exact hk.g 2 (by decide)
    have hv0 : vp_in (f_X5_at (nI j) (0 : Int32)) 103 := ai (by omega) (k := 0) (by decide) rfl
    have hv2 : vp_in (f_X5_at (nI j) (2 : Int32)) 103 := ai (by omega) (k := 2) (by decide) rfl
    have hv4 : vp_in (nI j) 4 := vp_in_nI (by omega) (by omega)
    have hst : (if W j 2 = (1 : Int32) then (1 : Int32) else 0) = W j 2 := by
      have w1 := hw.2.2.2.2.2.2.2.2.2.2.2.2.1
      have w2 := hw.2.2.2.2.2.2.2.2.2.2.2.2.2
      by_cases q : W j 2 = 1
      · rw [if_pos q, q]
      · rw [if_neg q, fa_eq, z0]
        have q' := mt (fa_eq (W j 2) 1).mpr q
        rw [z1] at q'
        omega
    obtain ⟨g1, g2, g3, g4, g5⟩ := ih (j + 1) f f1 f2 (d + W j 2) (if W j 0 < l then W j 0 else l) (by omega) (by omega) (by omega) (by omega)
    rw [l_X5_count_9, l_X0_allDone_4, l_X0_leastLow_6, q_X5_count_9, q_X0_allDone_4, q_X0_leastLow_6, if_neg c1, if_neg c1, if_neg c2, hc, he0, he2, hst, nI_1, ls_eq]
    exact ⟨g1, g2, ⟨fun z => absurd z c2, fun _ => ⟨hv0, hv2, g3⟩⟩, ⟨fun z => absurd z c1, fun _ => ⟨hv4, g4⟩⟩, ⟨fun z => absurd z c1, fun _ => ⟨hv4, g5⟩⟩⟩
theorem countR {N : Nat} (hN : N ≤ 4) {r t m tn : Nat → Int32} {what : Int32} {W LF KF : Nat → Nat → Int32} (ht : t 0 = nI N) (h : AR N W LF KF r tn) : (l_X5_count_9 xK m tn what 0 0 999).2.1 = f_X0_allDone r t W LF KF ∧ (l_X5_count_9 xK m tn what 0 0 999).2.2 = f_X0_leastLow r t W LF KF ∧ q_X5_count_9 xK m tn what 0 0 999 ∧ p_X0_allDone r t W LF KF ∧ p_X0_leastLow r t W LF KF := by
  obtain ⟨g1, g2, g3, g4, g5⟩ := countL (m := m) (what := what) hN ht h N 0 xK xK xK 0 999 (by omega) (by unfold xK; omega) (by unfold xK; omega) (by unfold xK; omega)
  rw [nI_0] at g1 g2 g3 g4 g5
  exact ⟨g1, g2, g3, ⟨g4, trivial⟩, ⟨g5, trivial⟩⟩
theorem passL {t w lf kf : Nat → Int32} {i H : Nat} (hi : i < 4) (hH : H ≤ 6) (h : WR t i w lf kf H) : ∀ (n j f f' : Nat) (v : Int32), j + n = H → n < f → n < f' → (l_X3_passes_6 f w lf (nI j) v).2 = (l_X5_passes_6 f' t (nI i) (nI j) v).2 ∧ q_X3_passes_6 f w lf (nI j) v ∧ q_X5_passes_6 f' t (nI i) (nI j) v := by
  have e11 : t (7 + 24 * i + 11) = nI H := by rw [h.1 11 (by decide)]; exact h.2.2.1
  have w11 := h.2.2.1
  have v11 : vp_in (f_X5_at (nI i) (11 : Int32)) 103 := ai hi (k := 11) (by decide) rfl
  intro n
  induction n with
  | zero =>
    intro j f f' v e h1 h2
    obtain ⟨f, rfl⟩ : ∃ g, f = g + 1 := ⟨f - 1, by omega⟩
    obtain ⟨f', rfl⟩ : ∃ g, f' = g + 1 := ⟨f' - 1, by omega⟩
    have c1 : w 11 ≤ nI j := by rw [w11]; exact nI_le (by omega) (by omega)
    have c2 : t (7 + 24 * i + 11) ≤ nI j := by rw [e11]; exact nI_le (by omega) (by omega)
    rw [l_X3_passes_6, l_X5_passes_6, q_X3_passes_6, q_X5_passes_6, a11 hi, if_pos c1, if_pos c2]
    exact ⟨rfl, ⟨fun _ => trivial, fun z => absurd c1 z⟩, ⟨v11, fun _ => trivial, fun z => absurd c2 z⟩⟩
  | succ n ih =>
    intro j f f' v e h1 h2
    obtain ⟨f, rfl⟩ : ∃ g, f = g + 1 := ⟨f - 1, by omega⟩
    obtain ⟨f', rfl⟩ : ∃ g, f' = g + 1 := ⟨f' - 1, by omega⟩
    have c1 : ¬ (w 11 ≤ nI j) := by rw [w11]; exact nI_ge (by omega) (by omega)
    have c2 : ¬ (t (7 + 24 * i + 11) ≤ nI j) := by rw [e11]; exact nI_ge (by omega) (by omega)
    have hc : (nI j).toNatClampNeg = j := nI_clamp (by omega)
    have e12 : (12 : Int32) + nI j = nI (12 + j) := nI_add 12 j
    have l12 : (f_X5_at (nI i) (nI (12 + j))).toNatClampNeg = 19 + 24 * i + j := by rw [at_cl hi (by omega)]; omega
    have v12 : vp_in (f_X5_at (nI i) (nI (12 + j))) 103 := at_in hi (by omega)
    have vj : vp_in (nI j) 6 := vp_in_nI (by omega) (by omega)
    obtain ⟨g1, g2, g3⟩ := ih (j + 1) f f' (if lf j < v then lf j else v) (by omega) (by omega) (by omega)
    rw [l_X3_passes_6, l_X5_passes_6, q_X3_passes_6, q_X5_passes_6, a11 hi, if_neg c1, if_neg c2, hc, e12, l12, h.2.2.2.1 j (by omega), ls_eq, nI_1]
    exact ⟨g1, ⟨fun z => absurd z c1, fun _ => ⟨vj, g2⟩⟩, ⟨v11, fun z => absurd z c2, fun _ => ⟨v12, g3⟩⟩⟩
theorem passR {t w lf kf : Nat → Int32} {i H : Nat} (hi : i < 4) (hH : H ≤ 6) (h : WR t i w lf kf H) : f_X3_passes w lf = f_X5_passes t (nI i) ∧ p_X3_passes w lf ∧ p_X5_passes t (nI i) := by
  obtain ⟨g1, g2, g3⟩ := passL hi hH h H 0 xK xK 999 (by omega) (by unfold xK; omega) (by unfold xK; omega)
  rw [nI_0] at g1 g2 g3
  exact ⟨g1, ⟨g2, trivial⟩, ⟨g3, trivial⟩⟩
theorem soughtR {t w lf kf r : Nat → Int32} {i H : Nat} (hi : i < 4) (hH : H ≤ 6) (h : WR t i w lf kf H) (hr : RR t r) : f_X3_sought w lf r = f_X5_greater (t 2) (f_X5_lesser (f_X5_passes t (nI i)) (t 3)) ∧ p_X3_sought w lf r := by
  obtain ⟨g1, g2, g3⟩ := passR hi hH h
  refine ⟨?_, g2, trivial⟩
  unfold f_X3_sought
  rw [gr_eq, show t 2 = r 0 from hr 0 (by decide), show t 3 = r 1 from hr 1 (by decide), g1]
  have : f_X5_lesser (f_X5_passes t (nI i)) (r 1) = if f_X5_passes t (nI i) < r 1 then f_X5_passes t (nI i) else r 1 := by
    unfold f_X5_lesser
    by_cases c : r 1 ≤ f_X5_passes t (nI i)
    · rw [if_pos c, if_neg (fun z => by have := (fa_lt _ _).mp z; have := (fa_le _ _).mp c; omega)]
    · rw [if_neg c, if_pos (i_nle.mp c)]
  rw [this]
theorem wayCase {s r t m tn : Nat → Int32} {W LF KF : Nat → Nat → Int32} {i : Int32} (hn : NR r t W LF KF tn) : (f_X4_isWay s r t W LF KF i = 0 ∧ f_X5_isWay m tn i = 0) ∨ (¬ (f_X4_isWay s r t W LF KF i = 0) ∧ ¬ (f_X5_isWay m tn i = 0) ∧ ∃ N j, N ≤ 4 ∧ j < N ∧ i = nI j ∧ t 0 = nI N ∧ tn 1 = t 1 ∧ AR N W LF KF r tn) := by
  obtain ⟨N, hN, h0, h1, h2⟩ := hn
  unfold f_X4_isWay f_X5_isWay f_X5_in
  rw [h0, h2.1]
  have n10 : ¬ ((1 : Int32) = 0) := by decide
  have hs : (nI N - 1).toInt = (N : Int) - 1 := by rw [i_dec (by rw [nI_toInt (by omega)]; omega) (by rw [nI_toInt (by omega)]; omega), nI_toInt (by omega)]
  by_cases c : i < 0
  · rw [if_pos c, if_pos c]; exact Or.inl ⟨rfl, rfl⟩
  · rw [if_neg c, if_neg c]
    obtain ⟨j, hj, ej⟩ := nI_of c
    subst ej
    by_cases d : N ≤ j
    · rw [if_pos (nI_le d (by omega)), if_pos ((fa_lt _ _).mpr (by rw [hs, nI_toInt hj]; omega))]
      exact Or.inl ⟨rfl, rfl⟩
    · rw [if_neg (nI_ge (by omega) (by omega)), if_neg (fun z => by have := (fa_lt _ _).mp z; rw [hs, nI_toInt hj] at this; omega)]
      exact Or.inr ⟨n10, n10, N, j, hN, by omega, rfl, rfl, h1, h2⟩
theorem hopCase {s r t m tn : Nat → Int32} {W LF KF : Nat → Nat → Int32} {i hh : Int32} (hn : NR r t W LF KF tn) : p_X4_isHop s r t W LF KF i hh ∧ p_X5_isHop m tn i hh ∧ ((f_X4_isHop s r t W LF KF i hh = 0 ∧ f_X5_isHop m tn i hh = 0) ∨ (¬ (f_X4_isHop s r t W LF KF i hh = 0) ∧ ¬ (f_X5_isHop m tn i hh = 0) ∧ ∃ N j H h, N ≤ 4 ∧ j < N ∧ i = nI j ∧ t 0 = nI N ∧ tn 1 = t 1 ∧ AR N W LF KF r tn ∧ H ≤ 6 ∧ WR tn j (W j) (LF j) (KF j) H ∧ WI (W j) r ∧ h < H ∧ hh = nI h)) := by
  unfold p_X4_isHop p_X5_isHop f_X4_isHop f_X5_isHop
  rcases wayCase (s := s) (m := m) (i := i) hn with ⟨c1, c2⟩ | ⟨c1, c2, N, j, hN, hj, ej, h0, h1, h2⟩
  · unfold g_X4_isHop_5 g_X5_isHop_5 h_X4_isHop_5 h_X5_isHop_5
    rw [if_pos c1, if_pos c2]
    exact ⟨⟨⟨fun _ => trivial, fun z => absurd c1 z⟩, trivial⟩, ⟨⟨fun _ => trivial, fun z => absurd c2 z⟩, trivial⟩, Or.inl ⟨rfl, rfl⟩⟩
  · subst ej
    unfold g_X4_isHop_5 g_X5_isHop_5 h_X4_isHop_5 h_X5_isHop_5
    rw [if_neg c1, if_neg c2]
    obtain ⟨H, hH, hw, hi⟩ := h2.2.2 j hj
    have hc : (nI j).toNatClampNeg = j := nI_clamp (by omega)
    have w11 : W j 11 = nI H := hw.2.2.1
    have e11 : tn (7 + 24 * j + 11) = nI H := by rw [hw.1 11 (by decide)]; exact w11
    have v11 : vp_in (f_X5_at (nI j) (11 : Int32)) 103 := ai (by omega) (k := 11) (by decide) rfl
    have v4 : vp_in (nI j) 4 := vp_in_nI (by omega) (by omega)
    rw [hc, w11, a11 (by omega), e11]
    refine ⟨⟨⟨fun _ => trivial, fun _ => ⟨fun _ => trivial, fun _ => ⟨v4, fun _ => trivial, fun _ => trivial⟩⟩⟩, trivial⟩, ⟨⟨fun _ => trivial, fun _ => ⟨v11, fun _ => trivial, fun _ => trivial⟩⟩, trivial⟩, ?_⟩
    have n10 : ¬ ((1 : Int32) = 0) := by decide
    have hs : (nI H - 1).toInt = (H : Int) - 1 := by rw [i_dec (by rw [nI_toInt (by omega)]; omega) (by rw [nI_toInt (by omega)]; omega), nI_toInt (by omega)]
    unfold f_X5_in
    by_cases c : hh < 0
    · rw [if_pos c, if_pos c, if_pos rfl]; exact Or.inl ⟨rfl, rfl⟩
    · rw [if_neg c, if_neg c]
      obtain ⟨h, hlt, eh⟩ := nI_of c
      subst eh
      by_cases d : H ≤ h
      · rw [if_pos (nI_le d (by omega)), if_pos ((fa_lt _ _).mpr (by rw [hs, nI_toInt hlt]; omega)), if_pos rfl]
        exact Or.inl ⟨rfl, rfl⟩
      · have dn : ¬ (nI H - 1 < nI h) := fun z => by have := (fa_lt _ _).mp z; rw [hs, nI_toInt hlt] at this; omega
        rw [if_neg (nI_ge (by omega) (by omega)), if_neg dn, if_neg n10]
        exact Or.inr ⟨n10, n10, N, j, H, h, hN, hj, rfl, h0, h1, h2, hH, hw, hi, by omega, rfl⟩
