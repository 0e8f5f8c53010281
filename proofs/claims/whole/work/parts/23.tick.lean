/-! PURE. Part 23: one tick of one way -/
/-- a way, its stretch of the row, the rules; nothing else of the row has changed -/
def KK (t0 t : Nat → Int32) (i : Nat) (w lf kf : Nat → Int32) (H : Nat) (r : Nat → Int32) : Prop := WR t i w lf kf H ∧ RR t r ∧ FW t0 t i
theorem KK.upd {t0 t w lf kf r : Nat → Int32} {i H k : Nat} {v v' : Int32} (h : KK t0 t i w lf kf H r) (hk : k < 11) (hv : v = v') : KK t0 (upd t (7 + 24 * i + k) v) i (upd w k v') lf kf H r := by
  subst hv
  exact ⟨WR.upd h.1 hk, RR.upd h.2.1 (by omega), FW.upd h.2.2 hk⟩
theorem KK.g {t0 t w lf kf r : Nat → Int32} {i H : Nat} (h : KK t0 t i w lf kf H r) (k : Nat) (hk : k < 12) : t (7 + 24 * i + k) = w k := h.1.1 k hk
theorem KK.q {t0 t w lf kf r : Nat → Int32} {i H : Nat} (h : KK t0 t i w lf kf H r) (k : Nat) (hk : k < 5) : t (2 + k) = r k := h.2.1 k hk
def WI (w r : Nat → Int32) : Prop := 0 ≤ (r 0).toInt ∧ (r 0).toInt ≤ (w 0).toInt ∧ (w 0).toInt ≤ (w 1).toInt ∧ (w 1).toInt ≤ (r 1).toInt ∧ (r 1).toInt ≤ 999 ∧ 0 ≤ (w 3).toInt ∧ (w 3).toInt ≤ 2 ∧ 0 ≤ (w 4).toInt ∧ (w 4).toInt ≤ 2 ∧ 0 ≤ (w 5).toInt ∧ (w 5).toInt < (r 2).toInt ∧ (r 2).toInt ≤ 99 ∧ 0 ≤ (w 2).toInt ∧ (w 2).toInt ≤ 1
theorem gl_rng {a b T : Int32} (h : a.toInt ≤ b.toInt) : a.toInt ≤ (f_X5_greater a (f_X5_lesser b T)).toInt ∧ (f_X5_greater a (f_X5_lesser b T)).toInt ≤ b.toInt := by
  unfold f_X5_greater f_X5_lesser
  by_cases c : T ≤ b
  · rw [if_pos c]
    have c' := (fa_le T b).mp c
    by_cases d : a ≤ T
    · rw [if_pos d]
      have d' := (fa_le a T).mp d
      omega
    · rw [if_neg d]
      omega
  · rw [if_neg c, if_pos ((fa_le a b).mpr h)]
    omega
theorem gl_eq {a b T : Int32} (h : a.toInt ≤ b.toInt) : f_X5_greater a (f_X5_lesser b T) = if b ≤ T then b else (if T < a then a else T) := by
  unfold f_X5_greater f_X5_lesser
  by_cases c : b ≤ T
  · rw [if_pos c]
    have c' := (fa_le b T).mp c
    by_cases d : T ≤ b
    · have d' := (fa_le T b).mp d
      have e : T = b := (fa_eq T b).mpr (by omega)
      rw [if_pos d, e, if_pos ((fa_le a b).mpr h)]
    · rw [if_neg d, if_pos ((fa_le a b).mpr h)]
  · rw [if_neg c]
    have c' := mt (fa_le b T).mpr c
    rw [if_pos ((fa_le T b).mpr (by omega))]
    by_cases d : T < a
    · have d' := (fa_lt T a).mp d
      rw [if_pos d, if_neg (fun z => by have := (fa_le a T).mp z; omega)]
    · have d' := mt (fa_lt T a).mpr d
      rw [if_neg d, if_pos ((fa_le a T).mpr (by omega))]
theorem c49 {r x : Nat → Int32} {T : Int32} (h : (r 0).toInt ≤ (x 0).toInt) : g_X3_checkLow_49 r T x (x 0) = upd x 0 (f_X5_greater (r 0) (f_X5_lesser (x 0) T)) := by
  unfold g_X3_checkLow_49
  rw [gl_eq h]
  by_cases c : x 0 ≤ T
  · rw [if_pos c, if_pos c, upd_self]
  · rw [if_neg c, if_neg c]
theorem c5 {x : Nat → Int32} {T : Int32} (h : (x 0).toInt ≤ (x 1).toInt) : f_X3_lowerHigh x T = upd x 1 (f_X5_greater (x 0) (f_X5_lesser (x 1) T)) := by
  unfold f_X3_lowerHigh g_X3_lowerHigh_5
  rw [gl_eq h]
  by_cases c : x 1 ≤ T
  · rw [if_pos c, if_pos c, upd_self]
  · rw [if_neg c, if_neg c]
theorem is3 {x : Int32} (h1 : 0 ≤ x.toInt) (h2 : x.toInt ≤ 2) : (3 : Int32) ≤ x + 1 ↔ x + 1 = 3 := by
  rw [fa_le, fa_eq, i_inc (by omega) (by omega), z3]
  omega
theorem sendsK {m t0 t w lf kf r : Nat → Int32} {i H : Nat} {size : Int32} (hi : i < 4) (hH : H ≤ 6) (h : KK t0 t i w lf kf H r) :
    ∃ a m' t' w', f_X5_sends m t (nI i) size = (m', t') ∧ f_X3_post w lf kf r size = (a, w') ∧ m' 3 = a ∧ (m' 4 = 0 ↔ ¬ bel r a size) ∧ (f_X5_isGone m' = 0 ↔ ¬ gon r a size) ∧ p_X5_sends m t (nI i) size ∧ p_X3_post w lf kf r size ∧ KK t0 t' i w' lf kf H r ∧ MF m m' ∧ WF w w' := by
  obtain ⟨a, m', t', w', s1, s2, s3, s4, s5, s6, s7, s8, s9, s10, s11⟩ := sendsR (m := m) (size := size) hi hH h.1 h.2.1
  exact ⟨a, m', t', w', s1, s2, s3, s4, s5, s6, s7, ⟨s8, RR.fw h.2.1 s9, FW.trans h.2.2 s9⟩, s10, s11⟩
theorem feelsK {m t0 t w lf kf r : Nat → Int32} {i H : Nat} (hi : i < 4) (hH : H ≤ 6) (h : KK t0 t i w lf kf H r) (hw : WI w r) :
    ∃ m' t', f_X5_feels m t (nI i) = (m', t') ∧ p_X5_feels m t (nI i) ∧ p_X3_checkLow w lf kf r ∧ KK t0 t' i (f_X3_checkLow w lf kf r) lf kf H r ∧ WI (f_X3_checkLow w lf kf r) r ∧ MF m m' := by
  obtain ⟨a, m', t', w', s1, s2, s3, s4, s5, s6, s7, s8, s9, s10⟩ := sendsK (m := m) (size := w 0) hi hH h
  have e0 : t (7 + 24 * i + 0) = w 0 := h.g 0 (by decide)
  have s1' : f_X5_sends m t (nI i) (t ((f_X5_at (nI i) (0 : Int32)).toNatClampNeg)) = (m', t') := by rw [a0 hi, e0]; exact s1
  have v0 : vp_in (f_X5_at (nI i) 0) 103 := ai hi (k := 0) (by decide) rfl
  have v1 : vp_in (f_X5_at (nI i) 1) 103 := ai hi (k := 1) (by decide) rfl
  have v4 : vp_in (f_X5_at (nI i) 4) 103 := ai hi (k := 4) (by decide) rfl
  have v6 : vp_in (f_X5_at (nI i) 6) 103 := ai hi (k := 6) (by decide) rfl
  obtain ⟨f0, f1, f2, f3, f4, f5, f6⟩ := s10
  have hw' := hw
  obtain ⟨i0, i1, i2, i3, i4, i5, i6, i7, i8, i9, i10, i11, i12, i13⟩ := hw'
  rw [f_X3_checkLow_e s2, p_X3_checkLow_e s2, f_X5_feels_e s1', p_X5_feels_e s1']
  dsimp only
  rw [a0 hi, e0]
  have hpc : p_X3_post w lf kf r (w 0) ∧ (f_X3_isLost w' r a (w 0) = 0 → True) ∧ (¬f_X3_isLost w' r a (w 0) = 0 → True) := ⟨s7, fun _ => trivial, fun _ => trivial⟩
  by_cases g : gon r a (w 0)
  · have k1 : ¬ (f_X3_isLost w' r a (w 0) = 0) := fun z => lost_iff.mp z g
    have k2 : ¬ (f_X5_isGone m' = 0) := fun z => s5.mp z g
    rw [if_neg k1, if_neg k2]
    have e4 : t' (7 + 24 * i + 4) = w' 4 := s8.g 4 (by decide)
    have hA := s8.upd (k := 4) (by decide) (rfl : w' 4 + 1 = w' 4 + 1)
    refine ⟨_, _, rfl, ⟨v0, s6, fun z => absurd z k2, fun _ => ⟨v4, v4, v4, ?_, trivial⟩⟩, hpc, ?_⟩
    · unfold h_X5_feels_41
      exact ⟨fun _ => ⟨v4, fun _ => trivial, fun _ => ⟨v6, v6, v1, v0, trivial⟩⟩, fun _ => trivial⟩
    · unfold g_X5_feels_41 f_X3_miss
      rw [a4 hi, a6 hi, a1 hi, a0 hi, upd_s, upd_s, e4]
      by_cases c : (3 : Int32) ≤ w' 4 + 1
      · have c' := (is3 (by rw [f4]; exact i7) (by rw [f4]; exact i8)).mp c
        rw [if_pos c, if_pos c']
        have hB := hA.upd (k := 4) (by decide) (rfl : (0 : Int32) = 0)
        have b2 := hB.q 0 (by decide)
        unfold g_X3_miss_32
        have x0 : (upd (upd w' 4 (w' 4 + 1)) 4 0) 0 = w 0 := by rw [upd_o (by decide), upd_o (by decide), f0]
        rw [show (upd (upd t' (7 + 24 * i + 4) (w' 4 + 1)) (7 + 24 * i + 4) 0) 2 = r 0 from b2, x0]
        by_cases d : w 0 ≤ r 0
        · rw [if_pos d, if_pos d]
          refine ⟨hB, ?_, s9⟩
          unfold WI
          simp +decide only [upd, ↓reduceIte, true_and, and_true]
          rw [f0, f1, f2, f3, f5]
          omega
        · rw [if_neg d, if_neg d]
          have d' := mt (fa_le (w 0) (r 0)).mpr d
          have hC := hB.upd (k := 6) (by decide) (show _ + (1 : Int32) = _ + 1 from congrArg (· + (1 : Int32)) (hB.g 6 (by decide)))
          have hD := hC.upd (k := 1) (by decide) (show w 0 - 1 = (upd (upd (upd w' 4 (w' 4 + 1)) 4 0) 6 ((upd (upd w' 4 (w' 4 + 1)) 4 0) 6 + 1)) 0 - 1 by rw [upd_o (by decide), x0])
          refine ⟨hD.upd (k := 0) (by decide) (hD.q 0 (by decide)), ?_, s9⟩
          unfold WI
          simp +decide only [upd, ↓reduceIte, true_and, and_true]
          rw [f0, f2, f3, f5, i_dec (by omega) (by omega)]
          omega
      · have c' : ¬ (w' 4 + 1 = 3) := fun z => c ((is3 (by rw [f4]; exact i7) (by rw [f4]; exact i8)).mpr z)
        rw [if_neg c, if_neg c']
        refine ⟨hA, ?_, s9⟩
        have cc := mt (fa_le 3 (w' 4 + 1)).mpr c
        rw [f4, i_inc (by omega) (by omega), z3] at cc
        unfold WI
        simp +decide only [upd, ↓reduceIte, true_and, and_true]
        rw [f0, f1, f2, f3, f4, f5, i_inc (by omega) (by omega)]
        omega
  · have k1 : (f_X3_isLost w' r a (w 0) = 0) := lost_iff.mpr g
    have k2 : (f_X5_isGone m' = 0) := s5.mpr g
    rw [if_pos k1, if_pos k2]
    refine ⟨_, _, rfl, ⟨v0, s6, fun _ => ⟨v4, ⟨fun _ => trivial, fun _ => ⟨v0, v0, v1, v1, trivial⟩⟩, trivial⟩, fun z => absurd k2 z⟩, hpc, ?_⟩
    unfold g_X5_feels_104 g_X3_checkLow_35
    rw [a4 hi, a1 hi, a0 hi, s3]
    have hA := s8.upd (k := 4) (by decide) (rfl : (0 : Int32) = 0)
    have x0 : (upd w' 4 0) 0 = w 0 := by rw [upd_o (by decide), f0]
    have x1 : (upd w' 4 0) 1 = w 1 := by rw [upd_o (by decide), f1]
    by_cases b : bel r a (w 0)
    · have k3 : ¬ (m' 4 = 0) := fun z => s4.mp z b
      have k4 : ¬ (a < 2) := fun z => by
        have := (fa_lt a 2).mp z
        rw [z2] at this
        have := b.1
        omega
      rw [if_neg k3, if_neg k4]
      rw [c49 (by rw [x0]; exact i1)]
      have b2 : (upd t' (7 + 24 * i + 4) 0) 2 = r 0 := hA.q 0 (by decide)
      have hB := hA.upd (k := 0) (v := f_X5_greater ((upd t' (7 + 24 * i + 4) 0) 2) (f_X5_lesser (w 0) (a - 2))) (v' := f_X5_greater (r 0) (f_X5_lesser ((upd w' 4 0) 0) (a - 2))) (by decide) (by rw [b2, x0])
      have gr := gl_rng (T := a - 2) i1
      have y0 : (upd (upd w' 4 0) 0 (f_X5_greater (r 0) (f_X5_lesser ((upd w' 4 0) 0) (a - 2)))) 0 = f_X5_greater (r 0) (f_X5_lesser (w 0) (a - 2)) := by rw [upd_s, x0]
      have y1 : (upd (upd w' 4 0) 0 (f_X5_greater (r 0) (f_X5_lesser ((upd w' 4 0) 0) (a - 2)))) 1 = w 1 := by rw [upd_o (by decide), x1]
      have hle : ((upd (upd w' 4 0) 0 (f_X5_greater (r 0) (f_X5_lesser ((upd w' 4 0) 0) (a - 2)))) 0).toInt ≤ ((upd (upd w' 4 0) 0 (f_X5_greater (r 0) (f_X5_lesser ((upd w' 4 0) 0) (a - 2)))) 1).toInt := by
        rw [y0, y1]; omega
      rw [c5 hle]
      refine ⟨hB.upd (k := 1) (by decide) (by rw [hB.g 0 (by decide), hB.g 1 (by decide)]), ?_, s9⟩
      have gr2 := gl_rng (T := a - 2) hle
      rw [y0, y1] at gr2
      rw [y0, y1]
      unfold WI
      simp +decide only [upd, ↓reduceIte, true_and, and_true]
      rw [f0, f2, f3, f5]
      omega
    · have k3 : (m' 4 = 0) := s4.mpr b
      have k4 : (a < 2) := Classical.byContradiction (fun z => by
        have d' : 2 ≤ a.toInt := by
          have := mt (fa_lt a 2).mpr z
          rw [z2] at this; omega
        by_cases e : f_X1_trusts r (a - 2) (w 0) = 0
        · exact g (Or.inr ⟨d', e⟩)
        · exact b ⟨d', e⟩)
      rw [if_pos k3, if_pos k4]
      refine ⟨hA, ?_, s9⟩
      unfold WI
      simp +decide only [upd, ↓reduceIte, true_and, and_true]
      rw [f0, f1, f2, f3, f5]
      omega
theorem probe_rng {a b : Int32} (h0 : 0 ≤ a.toInt) (h1 : a.toInt < b.toInt) (h2 : b.toInt ≤ 999) : a.toInt < (a + ((b - a) + (1 : Int32)) / (2 : Int32)).toInt ∧ (a + ((b - a) + (1 : Int32)) / (2 : Int32)).toInt ≤ b.toInt := by
  obtain ⟨x, hx, ex⟩ := nI_of (x := a) (fun z => by have := (fa_lt a 0).mp z; rw [z0] at this; omega)
  obtain ⟨y, hy, ey⟩ := nI_of (x := b) (fun z => by have := (fa_lt b 0).mp z; rw [z0] at this; omega)
  subst ex
  subst ey
  rw [nI_toInt hx] at h0 h1
  rw [nI_toInt hy] at h1 h2
  have e2 : (2 : Int32) = nI 2 := rfl
  rw [pk_sub (by omega), nI_1, e2, pk_div (by omega) (by decide) (by decide), nI_add, nI_toInt (by omega), nI_toInt (by omega), nI_toInt (by omega)]
  omega
theorem probesK {m t0 t w lf kf r : Nat → Int32} {i H : Nat} (hi : i < 4) (hH : H ≤ 6) (h : KK t0 t i w lf kf H r) (hw : WI w r) (hlt : (w 0).toInt < (w 1).toInt) :
    ∃ m' t', f_X5_probes m t (nI i) = (m', t') ∧ p_X5_probes m t (nI i) ∧ p_X3_search w lf kf r ∧ KK t0 t' i (f_X3_search w lf kf r) lf kf H r ∧ WI (f_X3_search w lf kf r) r ∧ MF m m' := by
  obtain ⟨v, hv⟩ : ∃ v, f_X3_probeSize w = v := ⟨_, rfl⟩
  have e0 : t (7 + 24 * i + 0) = w 0 := h.g 0 (by decide)
  have e1 : t (7 + 24 * i + 1) = w 1 := h.g 1 (by decide)
  have hv5 : f_X5_probed t (nI i) = v := by
    unfold f_X5_probed
    rw [a0 hi, a1 hi, e0, e1]
    exact hv
  obtain ⟨a, m', t', w', s1, s2, s3, s4, s5, s6, s7, s8, s9, s10⟩ := sendsK (m := m) (size := v) hi hH h
  have v0 : vp_in (f_X5_at (nI i) 0) 103 := ai hi (k := 0) (by decide) rfl
  have v1 : vp_in (f_X5_at (nI i) 1) 103 := ai hi (k := 1) (by decide) rfl
  have v3 : vp_in (f_X5_at (nI i) 3) 103 := ai hi (k := 3) (by decide) rfl
  obtain ⟨f0, f1, f2, f3, f4, f5, f6⟩ := s10
  have hw' := hw
  obtain ⟨i0, i1, i2, i3, i4, i5, i6, i7, i8, i9, i10, i11, i12, i13⟩ := hw'
  have hpr := probe_rng (a := w 0) (b := w 1) (by omega) hlt (by omega)
  have hvr : (w 0).toInt < v.toInt ∧ v.toInt ≤ (w 1).toInt := by rw [← hv]; exact hpr
  rw [f_X3_search_e hv s2, p_X3_search_e hv s2, f_X5_probes_e hv5 s1, p_X5_probes_e hv5 s1]
  dsimp only
  have hpc : p_X3_post w lf kf r v ∧ (f_X3_isLost w' r a v = 0 → True) ∧ (¬f_X3_isLost w' r a v = 0 → True) := ⟨s7, fun _ => trivial, fun _ => trivial⟩
  by_cases g : gon r a v
  · have k1 : ¬ (f_X3_isLost w' r a v = 0) := fun z => lost_iff.mp z g
    have k2 : ¬ (f_X5_isGone m' = 0) := fun z => s5.mp z g
    rw [if_neg k1, if_neg k2]
    have e3 : t' (7 + 24 * i + 3) = w' 3 := s8.g 3 (by decide)
    have hA := s8.upd (k := 3) (by decide) (rfl : w' 3 + 1 = w' 3 + 1)
    refine ⟨_, _, rfl, ⟨⟨v0, v1, trivial⟩, s6, fun z => absurd z k2, fun _ => ⟨v3, v3, v3, ⟨fun _ => ⟨v1, v3, trivial⟩, fun _ => trivial⟩, trivial⟩⟩, hpc, ?_⟩
    unfold g_X5_probes_39 g_X3_search_37
    rw [a3 hi, a1 hi, upd_s, upd_s, e3]
    by_cases c : (3 : Int32) ≤ w' 3 + 1
    · have c' := (is3 (by rw [f3]; exact i5) (by rw [f3]; exact i6)).mp c
      have c2 : ¬ (w' 3 + 1 < 3) := i_nlt.mpr c
      rw [if_pos c', if_neg c2]
      have hB := (hA.upd (k := 1) (by decide) (rfl : v - 1 = v - 1)).upd (k := 3) (by decide) (rfl : (0 : Int32) = 0)
      refine ⟨hB, ?_, s9⟩
      unfold WI
      simp +decide only [upd, ↓reduceIte, true_and, and_true]
      rw [f0, f2, f4, f5, i_dec (by omega) (by omega)]
      omega
    · have c' : ¬ (w' 3 + 1 = 3) := fun z => c ((is3 (by rw [f3]; exact i5) (by rw [f3]; exact i6)).mpr z)
      have c2 : (w' 3 + 1 < 3) := i_nle.mp c
      rw [if_neg c', if_pos c2]
      refine ⟨hA, ?_, s9⟩
      have cc := (fa_lt (w' 3 + 1) 3).mp c2
      rw [f3, i_inc (by omega) (by omega), z3] at cc
      unfold WI
      simp +decide only [upd, ↓reduceIte, true_and, and_true]
      rw [f0, f1, f2, f3, f4, f5, i_inc (by omega) (by omega)]
      omega
  · have k1 : (f_X3_isLost w' r a v = 0) := lost_iff.mpr g
    have k2 : (f_X5_isGone m' = 0) := s5.mpr g
    rw [if_pos k1, if_pos k2]
    refine ⟨_, _, rfl, ⟨⟨v0, v1, trivial⟩, s6, fun _ => ⟨v3, ⟨fun _ => ⟨v0, trivial⟩, fun _ => ⟨v0, v1, v1, trivial⟩⟩, trivial⟩, fun z => absurd k2 z⟩, hpc, ?_⟩
    unfold g_X5_probes_73 g_X3_search_60
    rw [a3 hi, a1 hi, a0 hi, s3]
    have hA := s8.upd (k := 3) (by decide) (rfl : (0 : Int32) = 0)
    have x0 : (upd w' 3 0) 0 = w 0 := by rw [upd_o (by decide), f0]
    have x1 : (upd w' 3 0) 1 = w 1 := by rw [upd_o (by decide), f1]
    by_cases b : bel r a v
    · have k3 : ¬ (m' 4 = 0) := fun z => s4.mp z b
      have k4 : ¬ (a < 2) := fun z => by
        have := (fa_lt a 2).mp z
        rw [z2] at this
        have := b.1
        omega
      rw [if_neg k3, if_neg k4]
      have hle : ((upd w' 3 0) 0).toInt ≤ ((upd w' 3 0) 1).toInt := by rw [x0, x1]; exact i2
      rw [c5 hle]
      refine ⟨hA.upd (k := 1) (by decide) (by rw [hA.g 0 (by decide), hA.g 1 (by decide)]), ?_, s9⟩
      have gr2 := gl_rng (T := a - 2) hle
      rw [x0, x1] at gr2
      rw [x0, x1]
      unfold WI
      simp +decide only [upd, ↓reduceIte, true_and, and_true]
      rw [f0, f2, f4, f5]
      omega
    · have k3 : (m' 4 = 0) := s4.mpr b
      have k4 : (a < 2) := Classical.byContradiction (fun z => by
        have d' : 2 ≤ a.toInt := by
          have := mt (fa_lt a 2).mpr z
          rw [z2] at this; omega
        by_cases e : f_X1_trusts r (a - 2) v = 0
        · exact g (Or.inr ⟨d', e⟩)
        · exact b ⟨d', e⟩)
      rw [if_pos k3, if_pos k4]
      refine ⟨hA.upd (k := 0) (by decide) rfl, ?_, s9⟩
      unfold WI
      simp +decide only [upd, ↓reduceIte, true_and, and_true]
      rw [f1, f2, f4, f5]
      omega
/-- growing older -/
theorem growK {t0 t w lf kf r : Nat → Int32} {i H : Nat} (hi : i < 4) (h : KK t0 t i w lf kf H r) (hw : WI w r) {mo : Nat → Int32} :
    ∃ t', (if ((upd t ((f_X5_at (nI i) (5 : Int32)).toNatClampNeg) ((t ((f_X5_at (nI i) (5 : Int32)).toNatClampNeg)) + (1 : Int32))) ((f_X5_at (nI i) (5 : Int32)).toNatClampNeg)) = ((upd t ((f_X5_at (nI i) (5 : Int32)).toNatClampNeg) ((t ((f_X5_at (nI i) (5 : Int32)).toNatClampNeg)) + (1 : Int32))) 4) then (mo, (upd (upd (upd t ((f_X5_at (nI i) (5 : Int32)).toNatClampNeg) ((t ((f_X5_at (nI i) (5 : Int32)).toNatClampNeg)) + (1 : Int32))) ((f_X5_at (nI i) (5 : Int32)).toNatClampNeg) (0 : Int32)) ((f_X5_at (nI i) (1 : Int32)).toNatClampNeg) ((upd (upd t ((f_X5_at (nI i) (5 : Int32)).toNatClampNeg) ((t ((f_X5_at (nI i) (5 : Int32)).toNatClampNeg)) + (1 : Int32))) ((f_X5_at (nI i) (5 : Int32)).toNatClampNeg) (0 : Int32)) 3))) else (mo, (upd t ((f_X5_at (nI i) (5 : Int32)).toNatClampNeg) ((t ((f_X5_at (nI i) (5 : Int32)).toNatClampNeg)) + (1 : Int32))))) = (mo, t') ∧ KK t0 t' i (f_X3_growOlder w r) lf kf H r ∧ WI (f_X3_growOlder w r) r := by
  rw [a5 hi, a1 hi]
  have hw' := hw
  obtain ⟨i0, i1, i2, i3, i4, i5, i6, i7, i8, i9, i10, i11, i12, i13⟩ := hw'
  have hA := h.upd (k := 5) (by decide) (congrArg (· + (1 : Int32)) (h.g 5 (by decide)))
  have q4 := hA.q 2 (by decide)
  unfold f_X3_growOlder g_X3_growOlder_18
  rw [show (upd t (7 + 24 * i + 5) (t (7 + 24 * i + 5) + 1)) 4 = r 2 from q4, upd_s, upd_s, h.g 5 (by decide)]
  rw [h.g 5 (by decide)] at hA
  by_cases c : w 5 + 1 < r 2
  · have c' := (fa_lt _ _).mp c
    have cn : ¬ (w 5 + 1 = r 2) := fun z => by rw [z] at c'; omega
    rw [if_neg cn, if_pos c]
    refine ⟨_, rfl, hA, ?_⟩
    rw [i_inc (by omega) (by omega)] at c'
    unfold WI
    simp +decide only [upd, ↓reduceIte, true_and, and_true]
    rw [i_inc (by omega) (by omega)]
    omega
  · have c' := mt (fa_lt _ _).mpr c
    rw [i_inc (by omega) (by omega)] at c'
    have cy : w 5 + 1 = r 2 := (fa_eq _ _).mpr (by rw [i_inc (by omega) (by omega)]; omega)
    rw [if_pos cy, if_neg c]
    have hB := hA.upd (k := 5) (by decide) (rfl : (0 : Int32) = 0)
    refine ⟨_, rfl, hB.upd (k := 1) (by decide) (hB.q 1 (by decide)), ?_⟩
    unfold WI
    simp +decide only [upd, ↓reduceIte, true_and, and_true]
    have := z0
    omega
