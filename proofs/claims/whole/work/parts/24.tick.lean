/-! PURE. Part 24: a tick, and ticks -/
theorem isN {w : Nat → Int32} : (if f_X3_isNarrowed w = 0 then (0 : Int32) else 1) = if w 0 = w 1 then 1 else 0 := by
  unfold f_X3_isNarrowed
  by_cases c : w 0 = w 1
  · rw [if_pos c, if_neg (by decide)]
  · rw [if_neg c, if_pos rfl]
/-- behind the letters: the state and the age -/
theorem endK {t0 t w lf kf r : Nat → Int32} {i H : Nat} (hi : i < 4) (h : KK t0 t i w lf kf H r) (hw : WI w r) :
    KK t0 (upd (upd t ((f_X5_at (nI i) (2 : Int32)).toNatClampNeg) ((if ((if (t ((f_X5_at (nI i) (0 : Int32)).toNatClampNeg)) = (t ((f_X5_at (nI i) (1 : Int32)).toNatClampNeg)) then (1 : Int32) else (0 : Int32))) = 0 then (0 : Int32) else (1 : Int32)))) ((f_X5_at (nI i) (5 : Int32)).toNatClampNeg) (g_X5_ticks_216 (nI i) ((if (t ((f_X5_at (nI i) (0 : Int32)).toNatClampNeg)) = (t ((f_X5_at (nI i) (1 : Int32)).toNatClampNeg)) then (1 : Int32) else (0 : Int32))) (upd t ((f_X5_at (nI i) (2 : Int32)).toNatClampNeg) ((if ((if (t ((f_X5_at (nI i) (0 : Int32)).toNatClampNeg)) = (t ((f_X5_at (nI i) (1 : Int32)).toNatClampNeg)) then (1 : Int32) else (0 : Int32))) = 0 then (0 : Int32) else (1 : Int32)))))) i (g_X3_step_121 (upd w 2 ((if (f_X3_isNarrowed w) = 0 then (0 : Int32) else (1 : Int32)))) ((upd w 2 ((if (f_X3_isNarrowed w) = 0 then (0 : Int32) else (1 : Int32)))) 2)) lf kf H r ∧ WI (g_X3_step_121 (upd w 2 ((if (f_X3_isNarrowed w) = 0 then (0 : Int32) else (1 : Int32)))) ((upd w 2 ((if (f_X3_isNarrowed w) = 0 then (0 : Int32) else (1 : Int32)))) 2)) r := by
  have hw' := hw
  obtain ⟨i0, i1, i2, i3, i4, i5, i6, i7, i8, i9, i10, i11, i12, i13⟩ := hw'
  rw [a0 hi, a1 hi, a2 hi, a5 hi, isN, upd_s, h.g 0 (by decide), h.g 1 (by decide)]
  unfold g_X3_step_121 g_X5_ticks_216
  rw [a5 hi]
  by_cases c : w 0 = w 1
  · rw [if_pos c]
    have n10 : ¬ ((1 : Int32) = 0) := by decide
    rw [if_neg n10, if_neg n10, if_neg n10, upd_self]
    refine ⟨h.upd (k := 2) (by decide) rfl, ?_⟩
    unfold WI
    simp +decide only [upd, ↓reduceIte, true_and, and_true]
    omega
  · rw [if_neg c]
    rw [if_pos rfl, if_pos rfl, if_pos rfl]
    refine ⟨(h.upd (k := 2) (by decide) rfl).upd (k := 5) (by decide) rfl, ?_⟩
    unfold WI
    simp +decide only [upd, ↓reduceIte, true_and, and_true]
    have := z0
    omega
theorem ticksK {m t0 t w lf kf r : Nat → Int32} {i H : Nat} (hi : i < 4) (hH : H ≤ 6) (h : KK t0 t i w lf kf H r) (hw : WI w r) :
    ∃ m' t', f_X5_ticks m t (nI i) = (m', t') ∧ p_X5_ticks m t (nI i) ∧ p_X3_step w lf kf r ∧ KK t0 t' i (f_X3_step w lf kf r) lf kf H r ∧ WI (f_X3_step w lf kf r) r ∧ MF m m' := by
  obtain ⟨m1, t1, s1, s2, s3, s4, s5, s6⟩ := feelsK (m := m) hi hH h hw
  obtain ⟨w1, hw1⟩ : ∃ w1, f_X3_checkLow w lf kf r = w1 := ⟨_, rfl⟩
  rw [hw1] at s4 s5
  have v0 : vp_in (f_X5_at (nI i) 0) 103 := ai hi (k := 0) (by decide) rfl
  have v1 : vp_in (f_X5_at (nI i) 1) 103 := ai hi (k := 1) (by decide) rfl
  have v2 : vp_in (f_X5_at (nI i) 2) 103 := ai hi (k := 2) (by decide) rfl
  have v3 : vp_in (f_X5_at (nI i) 3) 103 := ai hi (k := 3) (by decide) rfl
  have v5 : vp_in (f_X5_at (nI i) 5) 103 := ai hi (k := 5) (by decide) rfl
  obtain ⟨v, hv⟩ : ∃ v, ((if (w1 0) = (w 0) then (if (w1 1) = (w 1) then (0 : Int32) else (1 : Int32)) else (1 : Int32))) = v := ⟨_, rfl⟩
  have hv5 : (g_X5_ticks_49 (nI i) (t ((f_X5_at (nI i) (1 : Int32)).toNatClampNeg)) (t ((f_X5_at (nI i) (0 : Int32)).toNatClampNeg)) (m1, t1).2 ((m1, t1).2 ((f_X5_at (nI i) (0 : Int32)).toNatClampNeg))) = v := by
    show (g_X5_ticks_49 (nI i) (t ((f_X5_at (nI i) (1 : Int32)).toNatClampNeg)) (t ((f_X5_at (nI i) (0 : Int32)).toNatClampNeg)) t1 (t1 ((f_X5_at (nI i) (0 : Int32)).toNatClampNeg))) = v
    unfold g_X5_ticks_49
    rw [a0 hi, a1 hi, h.g 0 (by decide), h.g 1 (by decide), s4.g 0 (by decide), s4.g 1 (by decide)]
    exact hv
  obtain ⟨w2, hw2⟩ : ∃ w2, g_X3_step_56 v w1 = w2 := ⟨_, rfl⟩
  obtain ⟨t2, ht2⟩ : ∃ t2, g_X5_ticks_73 (nI i) v (m1, t1).2 = t2 := ⟨_, rfl⟩
  have s4b : KK t0 t2 i w2 lf kf H r ∧ WI w2 r := by
    rw [← ht2, ← hw2]
    unfold g_X5_ticks_73 g_X3_step_56
    dsimp only
    by_cases c : v = 0
    · rw [if_pos c, if_pos c]; exact ⟨s4, s5⟩
    · rw [if_neg c, if_neg c, a3 hi]
      refine ⟨s4.upd (k := 3) (by decide) rfl, ?_⟩
      obtain ⟨i0, i1, i2, i3, i4, i5, i6, i7, i8, i9, i10, i11, i12, i13⟩ := s5
      unfold WI
      simp +decide only [upd, ↓reduceIte, true_and, and_true]
      omega
  obtain ⟨k2, j2⟩ := s4b
  have e2 : t (7 + 24 * i + 2) = w 2 := h.g 2 (by decide)
  obtain ⟨d, hd⟩ : ∃ d, ((if (w 2) = (1 : Int32) then (1 : Int32) else (0 : Int32))) = d := ⟨_, rfl⟩
  obtain ⟨w3, hw3⟩ : ∃ w3, (g_X3_step_72 lf kf r v ((if (w 2) = (1 : Int32) then (1 : Int32) else (0 : Int32))) w2 (w2 1) (w2 0)) = w3 := ⟨_, rfl⟩
  have main : ∃ m3 t3, (g_X5_ticks_98 (nI i) v ((if (t ((f_X5_at (nI i) (2 : Int32)).toNatClampNeg)) = (1 : Int32) then (1 : Int32) else (0 : Int32))) (m1, t1).1 t2 (t2 ((f_X5_at (nI i) (1 : Int32)).toNatClampNeg)) (t2 ((f_X5_at (nI i) (0 : Int32)).toNatClampNeg))) = (m3, t3) ∧ (h_X5_ticks_98 (nI i) v ((if (t ((f_X5_at (nI i) (2 : Int32)).toNatClampNeg)) = (1 : Int32) then (1 : Int32) else (0 : Int32))) (m1, t1).1 t2 (t2 ((f_X5_at (nI i) (1 : Int32)).toNatClampNeg)) (t2 ((f_X5_at (nI i) (0 : Int32)).toNatClampNeg))) ∧ (h_X3_step_72 lf kf r v ((if (w 2) = (1 : Int32) then (1 : Int32) else (0 : Int32))) w2 (w2 1) (w2 0)) ∧ KK t0 t3 i w3 lf kf H r ∧ WI w3 r ∧ MF m m3 := by
    rw [← hw3, a2 hi, e2, hd]
    have q0 : t2 ((f_X5_at (nI i) (0 : Int32)).toNatClampNeg) = w2 0 := by rw [a0 hi]; exact k2.g 0 (by decide)
    have q1 : t2 ((f_X5_at (nI i) (1 : Int32)).toNatClampNeg) = w2 1 := by rw [a1 hi]; exact k2.g 1 (by decide)
    rw [q0, q1]
    dsimp only
    obtain ⟨tg, g1, g2, g3⟩ := growK hi k2 j2 (mo := m1)
    unfold g_X5_ticks_98 h_X5_ticks_98 g_X3_step_72 h_X3_step_72
    by_cases c : w2 1 ≤ w2 0
    · rw [if_pos c, if_pos c]
      by_cases f : d = 0
      · rw [if_pos f, if_pos f]
        exact ⟨m1, t2, rfl, ⟨fun _ => ⟨fun _ => trivial, fun z => absurd f z⟩, fun z => absurd c z⟩, ⟨fun _ => ⟨fun _ => trivial, fun _ => trivial⟩, fun z => absurd c z⟩, k2, j2, s6⟩
      · rw [if_neg f, if_neg f]
        exact ⟨m1, tg, g1, ⟨fun _ => ⟨fun z => absurd z f, fun _ => ⟨v5, v5, v5, fun _ => ⟨v5, v1, trivial⟩, fun _ => trivial⟩⟩, fun z => absurd c z⟩, ⟨fun _ => ⟨fun _ => trivial, fun _ => trivial⟩, fun z => absurd c z⟩, g2, g3, s6⟩
    · rw [if_neg c, if_neg c]
      have hlt : (w2 0).toInt < (w2 1).toInt := by
        have := mt (fa_le (w2 1) (w2 0)).mpr c
        omega
      obtain ⟨m4, t4, p1, p2, p3, p4, p5, p6⟩ := probesK (m := m1) hi hH k2 j2 hlt
      by_cases f : d = 0
      · rw [if_pos f, p1]
        have hX : (if v = 0 then (if d = 0 then f_X3_search w2 lf kf r else (if d = 0 then w2 else f_X3_growOlder w2 r)) else f_X3_search w2 lf kf r) = f_X3_search w2 lf kf r := by
          by_cases gg : v = 0
          · rw [if_pos gg, if_pos f]
          · rw [if_neg gg]
        rw [hX]
        exact ⟨m4, t4, rfl, ⟨fun z => absurd z c, fun _ => ⟨fun _ => ⟨p2, trivial⟩, fun z => absurd f z⟩⟩, ⟨fun z => absurd z c, fun _ => ⟨fun _ => ⟨fun _ => ⟨p3, trivial⟩, fun z => absurd f z⟩, fun _ => ⟨p3, trivial⟩⟩⟩, p4, p5, MF.trans s6 p6⟩
      · rw [if_neg f]
        by_cases gg : v = 0
        · rw [if_pos gg, if_pos gg, if_neg f, if_neg f, if_neg f]
          exact ⟨m1, tg, g1, ⟨fun z => absurd z c, fun _ => ⟨fun z => absurd z f, fun _ => ⟨fun _ => ⟨fun z => absurd z f, fun _ => ⟨v5, v5, v5, fun _ => ⟨v5, v1, trivial⟩, fun _ => trivial⟩⟩, fun z => absurd gg z⟩⟩⟩, ⟨fun z => absurd z c, fun _ => ⟨fun _ => ⟨fun z => absurd z f, fun _ => ⟨fun _ => trivial, fun _ => trivial⟩⟩, fun z => absurd gg z⟩⟩, g2, g3, s6⟩
        · rw [if_neg gg, if_neg gg, p1]
          exact ⟨m4, t4, rfl, ⟨fun z => absurd z c, fun _ => ⟨fun z => absurd z f, fun _ => ⟨fun z => absurd z gg, fun _ => ⟨p2, trivial⟩⟩⟩⟩, ⟨fun z => absurd z c, fun _ => ⟨fun z => absurd z gg, fun _ => ⟨p3, trivial⟩⟩⟩, p4, p5, MF.trans s6 p6⟩
  obtain ⟨m3, t3, r1, r2, r3, r4, r5, r6⟩ := main
  obtain ⟨e1, e3⟩ := endK hi r4 r5
  rw [f_X5_ticks_e s1 hv5 ht2 r1, p_X5_ticks_e s1 hv5 ht2 r1, f_X3_step_e hw1 hv hw2 hw3, p_X3_step_e hw1 hv hw2]
  refine ⟨_, _, rfl, ?_, ⟨s3, r3, trivial⟩, e1, e3, r6⟩
  refine ⟨v0, v1, v2, s2, v0, ⟨fun _ => ⟨v1, fun _ => trivial, fun _ => trivial⟩, fun _ => trivial⟩, ⟨fun _ => trivial, fun _ => ⟨v3, trivial⟩⟩, v0, v1, r2, v0, v1, v2, ⟨fun _ => trivial, fun _ => ⟨v5, trivial⟩⟩, v5, trivial⟩
