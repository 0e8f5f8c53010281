/-! PURE. Part 29: what is asked of a way -/
theorem inB : f_X5_in = f_X4_isBetween := rfl
theorem btw {v lo hi : Int32} : (f_X4_isBetween v lo hi = 0 ∧ (v < lo ∨ hi < v)) ∨ (¬ (f_X4_isBetween v lo hi = 0) ∧ lo.toInt ≤ v.toInt ∧ v.toInt ≤ hi.toInt) := by
  unfold f_X4_isBetween
  by_cases c : v < lo
  · rw [if_pos c]; exact Or.inl ⟨rfl, Or.inl c⟩
  · rw [if_neg c]
    by_cases d : hi < v
    · rw [if_pos d]; exact Or.inl ⟨rfl, Or.inr d⟩
    · rw [if_neg d]
      have c' := mt (fa_lt v lo).mpr c
      have d' := mt (fa_lt hi v).mpr d
      exact Or.inr ⟨by decide, by omega, by omega⟩
theorem probedR {t0 t w lf kf r : Nat → Int32} {i H : Nat} (hi : i < 4) (h : KK t0 t i w lf kf H r) : f_X5_probed t (nI i) = f_X3_probeSize w ∧ p_X5_probed t (nI i) := by
  refine ⟨?_, ai hi (k := 0) (by decide) rfl, ai hi (k := 1) (by decide) rfl, trivial⟩
  unfold f_X5_probed f_X3_probeSize
  rw [a0 hi, a1 hi, h.g 0 (by decide), h.g 1 (by decide)]
theorem narrow0 {w : Nat → Int32} : f_X3_isNarrowed w = 0 ↔ ¬ (w 0 = w 1) := by
  unfold f_X3_isNarrowed
  by_cases c : w 0 = w 1
  · rw [if_pos c]; exact ⟨fun z => absurd z (by decide), fun z => absurd c z⟩
  · rw [if_neg c]; exact ⟨fun _ => c, fun _ => rfl⟩
theorem probeR {s r t m tn : Nat → Int32} {W LF KF : Nat → Nat → Int32} {i : Int32} (hn : NR r t W LF KF tn) : p_X4_probe s r t W LF KF i ∧ p_X5_probe m tn i ∧ f_X4_probe s r t W LF KF i = f_X5_probe m tn i := by
  unfold p_X4_probe p_X5_probe f_X4_probe f_X5_probe
  rcases wayCase (s := s) (m := m) (i := i) hn with ⟨c1, c2⟩ | ⟨c1, c2, N, j, hN, hj, ej, h0, h1, h2⟩
  · rw [if_pos c1, if_pos c2]
    exact ⟨⟨fun _ => trivial, fun z => absurd c1 z⟩, ⟨fun _ => trivial, fun z => absurd c2 z⟩, rfl⟩
  · subst ej
    obtain ⟨H, hH, hk, hw⟩ := AR.kk hj h2
    have hc : (nI j).toNatClampNeg = j := nI_clamp (by omega)
    have v4 : vp_in (nI j) 4 := vp_in_nI (by omega) (by omega)
    have v0 : vp_in (f_X5_at (nI j) 0) 103 := ai (by omega) (k := 0) (by decide) rfl
    have v1 : vp_in (f_X5_at (nI j) 1) 103 := ai (by omega) (k := 1) (by decide) rfl
    obtain ⟨q1, q2⟩ := probedR (by omega) hk
    rw [if_neg c1, if_neg c2, hc, a0 (by omega), a1 (by omega), hk.g 0 (by decide), hk.g 1 (by decide)]
    refine ⟨⟨fun z => absurd z c1, fun _ => ⟨v4, ⟨fun _ => ⟨v4, trivial⟩, fun _ => trivial⟩, trivial⟩⟩, ⟨fun z => absurd z c2, fun _ => ⟨v0, v1, ⟨fun _ => trivial, fun _ => ⟨q2, trivial⟩⟩, trivial⟩⟩, ?_⟩
    unfold g_X4_probe_22 g_X5_probe_30
    rw [hc, q1]
    by_cases d : W j 0 = W j 1
    · rw [if_pos d, if_neg (fun z => narrow0.mp z d)]
    · rw [if_neg d, if_pos (narrow0.mpr d)]
theorem paddingR {s r t m tn : Nat → Int32} {W LF KF : Nat → Nat → Int32} {i c : Int32} (hn : NR r t W LF KF tn) : p_X4_padding s r t W LF KF i c ∧ p_X5_padding m tn i c ∧ f_X4_padding s r t W LF KF i c = f_X5_padding m tn i c := by
  unfold p_X4_padding p_X5_padding f_X4_padding f_X5_padding
  rw [inB]
  rcases wayCase (s := s) (m := m) (i := i) hn with ⟨c1, c2⟩ | ⟨c1, c2, N, j, hN, hj, ej, h0, h1, h2⟩
  · rw [if_pos c1, if_pos c2]
    exact ⟨⟨fun _ => trivial, fun z => absurd c1 z⟩, ⟨fun _ => trivial, fun z => absurd c2 z⟩, rfl⟩
  · subst ej
    obtain ⟨H, hH, hk, hw⟩ := AR.kk hj h2
    have hc : (nI j).toNatClampNeg = j := nI_clamp (by omega)
    have v4 : vp_in (nI j) 4 := vp_in_nI (by omega) (by omega)
    have v0 : vp_in (f_X5_at (nI j) 0) 103 := ai (by omega) (k := 0) (by decide) rfl
    have v1 : vp_in (f_X5_at (nI j) 1) 103 := ai (by omega) (k := 1) (by decide) rfl
    obtain ⟨q1, q2⟩ := probedR (by omega) hk
    rw [if_neg c1, if_neg c2, hc, a0 (by omega), a1 (by omega), hk.g 0 (by decide), hk.g 1 (by decide), q1]
    refine ⟨⟨fun z => absurd z c1, fun _ => ⟨fun _ => trivial, fun _ => ⟨v4, fun _ => ⟨v4, trivial⟩, fun _ => trivial⟩⟩⟩, ⟨fun z => absurd z c2, fun _ => ⟨fun _ => trivial, fun _ => ⟨v0, v1, fun _ => trivial, fun _ => ⟨q2, trivial⟩⟩⟩⟩, ?_⟩
    by_cases b : f_X4_isBetween c 0 999 = 0
    · rw [if_pos b, if_pos b]
    · rw [if_neg b, if_neg b]
      by_cases d : W j 0 = W j 1
      · rw [if_pos d, if_neg (fun z => narrow0.mp z d)]
      · rw [if_neg d, if_pos (narrow0.mpr d)]
theorem meetsR {s r t m tn : Nat → Int32} {W LF KF : Nat → Nat → Int32} {i size what : Int32} (hn : NR r t W LF KF tn) : p_X4_meets s r t W LF KF i size what ∧ p_X5_meets m tn i size what ∧ f_X4_meets s r t W LF KF i size what = f_X5_meets m tn i size what := by
  unfold p_X4_meets p_X5_meets f_X4_meets f_X5_meets
  rw [inB]
  rcases wayCase (s := s) (m := m) (i := i) hn with ⟨c1, c2⟩ | ⟨c1, c2, N, j, hN, hj, ej, h0, h1, h2⟩
  · rw [if_pos c1, if_pos c2]
    exact ⟨⟨fun _ => trivial, fun z => absurd c1 z⟩, ⟨fun _ => trivial, fun z => absurd c2 z⟩, rfl⟩
  · subst ej
    obtain ⟨H, hH, hk, hw⟩ := AR.kk hj h2
    have hc : (nI j).toNatClampNeg = j := nI_clamp (by omega)
    have v4 : vp_in (nI j) 4 := vp_in_nI (by omega) (by omega)
    obtain ⟨q1, q2, q3⟩ := metR (size := size) (by omega) hH hk.1
    obtain ⟨d1, d2, d3, d4⟩ := dropR (size := size) (by omega) hH hk.1
    rw [if_neg c1, if_neg c2]
    refine ⟨⟨fun z => absurd z c1, fun _ => ⟨fun _ => trivial, fun _ => ⟨fun _ => trivial, fun _ => ⟨⟨fun _ => ⟨v4, by rw [hc]; exact q3, trivial⟩, fun _ => ⟨v4, by rw [hc]; exact d4, trivial⟩⟩, trivial⟩⟩⟩⟩, ⟨fun z => absurd z c2, fun _ => ⟨fun _ => trivial, fun _ => ⟨fun _ => trivial, fun _ => ⟨⟨fun _ => ⟨q2, trivial⟩, fun _ => ⟨d2, trivial⟩⟩, trivial⟩⟩⟩⟩, ?_⟩
    unfold g_X4_meets_31 g_X5_meets_31
    rw [hc, q1, d1, d3]
theorem drawR {s r t m tn : Nat → Int32} {W LF KF : Nat → Nat → Int32} {i k : Int32} (hn : NR r t W LF KF tn) : p_X4_draw s r t W LF KF i k ∧ f_X4_draw s r t W LF KF i k = f_X5_draw m tn i k := by
  unfold p_X4_draw f_X4_draw f_X5_draw g_X5_draw_5
  rw [inB]
  rcases wayCase (s := s) (m := m) (i := i) hn with ⟨c1, c2⟩ | ⟨c1, c2, N, j, hN, hj, ej, h0, h1, h2⟩
  · rw [if_pos c1, if_pos c2]
    exact ⟨⟨fun _ => trivial, fun z => absurd c1 z⟩, rfl⟩
  · subst ej
    obtain ⟨H, hH, hk, hw⟩ := AR.kk hj h2
    have hc : (nI j).toNatClampNeg = j := nI_clamp (by omega)
    have v4 : vp_in (nI j) 4 := vp_in_nI (by omega) (by omega)
    rw [if_neg c1, if_neg c2, hc, drawnR hk.1 hk.2.1]
    exact ⟨⟨fun z => absurd z c1, fun _ => ⟨fun _ => trivial, fun _ => ⟨v4, trivial⟩⟩⟩, rfl⟩
theorem hopR {s r t m tn : Nat → Int32} {W LF KF : Nat → Nat → Int32} {i hh what : Int32} (hn : NR r t W LF KF tn) : p_X4_hop s r t W LF KF i hh what ∧ p_X5_hop m tn i hh what ∧ f_X4_hop s r t W LF KF i hh what = f_X5_hop m tn i hh what := by
  unfold p_X4_hop p_X5_hop f_X4_hop f_X5_hop g_X5_hop_6 h_X5_hop_6
  rw [inB]
  obtain ⟨p1, p2, hcase⟩ := hopCase (s := s) (m := m) (i := i) (hh := hh) hn
  rcases hcase with ⟨c1, c2⟩ | ⟨c1, c2, N, j, H, h, hN, hj, ej, h0, h1, h2, hH, hw, hwi, hlt, eh⟩
  · rw [if_pos c1, if_pos c2]
    exact ⟨⟨p1, fun _ => trivial, fun z => absurd c1 z⟩, ⟨p2, ⟨fun _ => trivial, fun z => absurd c2 z⟩, trivial⟩, rfl⟩
  · subst ej
    subst eh
    have hc : (nI j).toNatClampNeg = j := nI_clamp (by omega)
    have hch : (nI h).toNatClampNeg = h := nI_clamp (by omega)
    have v4 : vp_in (nI j) 4 := vp_in_nI (by omega) (by omega)
    have v6 : vp_in (nI h) 6 := vp_in_nI (by omega) (by omega)
    have e12 : (12 : Int32) + nI h = nI (12 + h) := nI_add 12 h
    have e18 : (18 : Int32) + nI h = nI (18 + h) := nI_add 18 h
    have l12 : (f_X5_at (nI j) (nI (12 + h))).toNatClampNeg = 19 + 24 * j + h := by rw [at_cl (by omega) (by omega)]; omega
    have l18 : (f_X5_at (nI j) (nI (18 + h))).toNatClampNeg = 25 + 24 * j + h := by rw [at_cl (by omega) (by omega)]; omega
    have v12 : vp_in (f_X5_at (nI j) (nI (12 + h))) 103 := at_in (by omega) (by omega)
    have v18 : vp_in (f_X5_at (nI j) (nI (18 + h))) 103 := at_in (by omega) (by omega)
    rw [if_neg c1, if_neg c2]
    refine ⟨⟨p1, fun z => absurd z c1, fun _ => ⟨fun _ => trivial, fun _ => ⟨⟨fun _ => ⟨v4, v6, trivial⟩, fun _ => ⟨v4, v6, trivial⟩⟩, trivial⟩⟩⟩, ⟨p2, ⟨fun z => absurd z c2, fun _ => ⟨fun _ => trivial, fun _ => ⟨?_, trivial⟩⟩⟩, trivial⟩, ?_⟩
    · by_cases w0 : what = 0
      · rw [if_pos w0, e12]; exact v12
      · rw [if_neg w0, e18]; exact v18
    · by_cases b : f_X4_isBetween what 0 1 = 0
      · rw [if_pos b, if_pos b]
      · rw [if_neg b, if_neg b]
        unfold g_X4_hop_21
        rw [hc, hch]
        by_cases w0 : what = 0
        · rw [if_pos w0, if_pos w0, e12, l12]; exact (hw.2.2.2.1 h hlt).symm
        · rw [if_neg w0, if_neg w0, e18, l18]; exact (hw.2.2.2.2 h hlt).symm
theorem wayR {s r t m tn : Nat → Int32} {W LF KF : Nat → Nat → Int32} {i what : Int32} (hn : NR r t W LF KF tn) : p_X4_way s r t W LF KF i what ∧ p_X5_way m tn i what ∧ f_X4_way s r t W LF KF i what = f_X5_way m tn i what := by
  unfold p_X4_way p_X5_way f_X4_way f_X5_way h_X4_way_5 g_X4_way_5
  rw [inB]
  rcases wayCase (s := s) (m := m) (i := i) hn with ⟨c1, c2⟩ | ⟨c1, c2, N, j, hN, hj, ej, h0, h1, h2⟩
  · rw [if_pos c1, if_pos c2]
    exact ⟨⟨⟨fun _ => trivial, fun z => absurd c1 z⟩, trivial⟩, ⟨fun _ => trivial, fun z => absurd c2 z⟩, rfl⟩
  · subst ej
    obtain ⟨H, hH, hk, hw⟩ := AR.kk hj h2
    have hc : (nI j).toNatClampNeg = j := nI_clamp (by omega)
    have v4 : vp_in (nI j) 4 := vp_in_nI (by omega) (by omega)
    obtain ⟨q1, q2, q3⟩ := passR (by omega) hH hk.1
    rw [if_neg c1, if_neg c2, hc]
    have hp3 : p_X3_tell (W j) (LF j) what := by
      unfold p_X3_tell
      refine ⟨fun _ => trivial, fun _ => ⟨fun _ => trivial, fun _ => ⟨fun _ => trivial, fun _ => ⟨fun _ => trivial, fun _ => ⟨fun _ => trivial, fun _ => ⟨fun _ => trivial, fun _ => ⟨fun _ => trivial, fun _ => ⟨fun _ => trivial, fun _ => ⟨fun _ => trivial, fun _ => ⟨fun _ => trivial, fun _ => ⟨fun _ => ⟨q2, trivial⟩, fun _ => ⟨fun _ => trivial, fun _ => ⟨fun _ => trivial, fun _ => trivial⟩⟩⟩⟩⟩⟩⟩⟩⟩⟩⟩⟩⟩
    have h5 : h_X5_way_23 tn (nI j) what ∨ f_X4_isBetween what 0 12 = 0 := by
      rcases btw (v := what) (lo := 0) (hi := 12) with ⟨b, _⟩ | ⟨b, b1, b2⟩
      · exact Or.inr b
      · refine Or.inl ⟨fun _ => ⟨fun _ => ⟨q3, trivial⟩, fun _ => ⟨fun _ => ⟨ai (by omega) (k := 11) (by decide) rfl, trivial⟩, fun _ => ⟨ai (by omega) (k := 10) (by decide) rfl, trivial⟩⟩⟩, fun z => ⟨?_, trivial⟩⟩
        rw [z0] at b1
        obtain ⟨k, hk1, hk2⟩ := nI_of (x := what) (fun z => by have := (fa_lt what 0).mp z; rw [z0] at this; omega)
        have z' := mt (fa_le 10 what).mpr z
        rw [hk2, nI_toInt hk1, show (10 : Int32).toInt = 10 from rfl] at z'
        exact ai (by omega) (k := k) (by omega) hk2
    refine ⟨⟨⟨fun z => absurd z c1, fun _ => ⟨v4, hp3, trivial⟩⟩, trivial⟩, ⟨fun z => absurd z c2, fun _ => ⟨fun _ => trivial, fun b => ⟨?_, trivial⟩⟩⟩, ?_⟩
    · rcases h5 with h5 | h5
      · exact h5
      · exact absurd h5 b
    · rcases btw (v := what) (lo := 0) (hi := 12) with ⟨b, b1⟩ | ⟨b, b1, b2⟩
      · rw [if_pos b]
        unfold f_X3_tell
        have hb : what.toInt < 0 ∨ 12 < what.toInt := by
          rcases b1 with b1 | b1
          · have := (fa_lt _ _).mp b1; rw [z0] at this; exact Or.inl this
          · have := (fa_lt _ _).mp b1; rw [show (12 : Int32).toInt = 12 from rfl] at this; exact Or.inr this
        rw [if_neg (fun z => by rw [z, show (0 : Int32).toInt = 0 from rfl] at hb; omega)]
        rw [if_neg (fun z => by rw [z, show (1 : Int32).toInt = 1 from rfl] at hb; omega)]
        rw [if_neg (fun z => by rw [z, show (2 : Int32).toInt = 2 from rfl] at hb; omega)]
        rw [if_neg (fun z => by rw [z, show (3 : Int32).toInt = 3 from rfl] at hb; omega)]
        rw [if_neg (fun z => by rw [z, show (4 : Int32).toInt = 4 from rfl] at hb; omega)]
        rw [if_neg (fun z => by rw [z, show (5 : Int32).toInt = 5 from rfl] at hb; omega)]
        rw [if_neg (fun z => by rw [z, show (6 : Int32).toInt = 6 from rfl] at hb; omega)]
        rw [if_neg (fun z => by rw [z, show (7 : Int32).toInt = 7 from rfl] at hb; omega)]
        rw [if_neg (fun z => by rw [z, show (8 : Int32).toInt = 8 from rfl] at hb; omega)]
        rw [if_neg (fun z => by rw [z, show (9 : Int32).toInt = 9 from rfl] at hb; omega)]
        rw [if_neg (fun z => by rw [z, show (10 : Int32).toInt = 10 from rfl] at hb; omega)]
        rw [if_neg (fun z => by rw [z, show (11 : Int32).toInt = 11 from rfl] at hb; omega)]
        rw [if_neg (fun z => by rw [z, show (12 : Int32).toInt = 12 from rfl] at hb; omega)]
      · rw [if_neg b]
        obtain ⟨k, hk1, hk2⟩ := nI_of (x := what) (fun z => by have := (fa_lt what 0).mp z; rw [z0] at this b1; omega)
        rw [hk2, nI_toInt hk1, show (12 : Int32).toInt = 12 from rfl] at b2
        have b3 : k ≤ 12 := by omega
        subst hk2
        clear b1 b2 b h5 hp3 hk1
        unfold g_X5_way_23 f_X3_tell
        have hcase : k = 0 ∨ k = 1 ∨ k = 2 ∨ k = 3 ∨ k = 4 ∨ k = 5 ∨ k = 6 ∨ k = 7 ∨ k = 8 ∨ k = 9 ∨ k = 10 ∨ k = 11 ∨ k = 12 := by omega
        rcases hcase with e | e | e | e | e | e | e | e | e | e | e | e | e <;> subst e
        · rw [if_neg (by decide : ¬ ((10 : Int32) ≤ nI 0)), a_k (by omega) (k := 0) (by decide) rfl, hk.g 0 (by decide)]
          rfl
        · rw [if_neg (by decide : ¬ ((10 : Int32) ≤ nI 1)), a_k (by omega) (k := 1) (by decide) rfl, hk.g 1 (by decide)]
          rfl
        · rw [if_neg (by decide : ¬ ((10 : Int32) ≤ nI 2)), a_k (by omega) (k := 2) (by decide) rfl, hk.g 2 (by decide)]
          rfl
        · rw [if_neg (by decide : ¬ ((10 : Int32) ≤ nI 3)), a_k (by omega) (k := 3) (by decide) rfl, hk.g 3 (by decide)]
          rfl
        · rw [if_neg (by decide : ¬ ((10 : Int32) ≤ nI 4)), a_k (by omega) (k := 4) (by decide) rfl, hk.g 4 (by decide)]
          rfl
        · rw [if_neg (by decide : ¬ ((10 : Int32) ≤ nI 5)), a_k (by omega) (k := 5) (by decide) rfl, hk.g 5 (by decide)]
          rfl
        · rw [if_neg (by decide : ¬ ((10 : Int32) ≤ nI 6)), a_k (by omega) (k := 6) (by decide) rfl, hk.g 6 (by decide)]
          rfl
        · rw [if_neg (by decide : ¬ ((10 : Int32) ≤ nI 7)), a_k (by omega) (k := 7) (by decide) rfl, hk.g 7 (by decide)]
          rfl
        · rw [if_neg (by decide : ¬ ((10 : Int32) ≤ nI 8)), a_k (by omega) (k := 8) (by decide) rfl, hk.g 8 (by decide)]
          rfl
        · rw [if_neg (by decide : ¬ ((10 : Int32) ≤ nI 9)), a_k (by omega) (k := 9) (by decide) rfl, hk.g 9 (by decide)]
          rfl
        · rw [if_pos (by decide : ((10 : Int32) ≤ nI 10)), if_pos (by decide : nI 10 = (10 : Int32)), ← q1]
          rfl
        · rw [if_pos (by decide : ((10 : Int32) ≤ nI 11)), if_neg (by decide : ¬ (nI 11 = (10 : Int32))), if_pos (by decide : nI 11 = (11 : Int32)), a11 (by omega), hk.g 11 (by decide)]
          rfl
        · rw [if_pos (by decide : ((10 : Int32) ≤ nI 12)), if_neg (by decide : ¬ (nI 12 = (10 : Int32))), if_neg (by decide : ¬ (nI 12 = (11 : Int32))), a10 (by omega), hk.g 10 (by decide)]
          rfl
theorem countM {s r t m tn x : Nat → Int32} {W LF KF : Nat → Nat → Int32} {what : Int32} (hn : NR r t W LF KF tn) (h10 : s 1 = m 0) (h11 : x 0 = m 1) : p_X4_count s r t W LF KF x what ∧ p_X5_count m tn what ∧ f_X4_count s r t W LF KF x what = f_X5_count m tn what := by
  obtain ⟨N, hN, h0, h1, h2⟩ := hn
  obtain ⟨s1, s2, s3⟩ := allLostR (m := m) hN h0 h2
  obtain ⟨u1, u2, u3⟩ := allSentR (m := m) hN h0 h2
  obtain ⟨k1, k2, k3, k4, k5⟩ := countR (m := m) (what := what) hN h0 h2
  refine ⟨?_, ⟨k3, ?_⟩, ?_⟩
  · unfold p_X4_count
    exact ⟨fun _ => trivial, fun _ => ⟨fun _ => trivial, fun _ => ⟨fun _ => trivial, fun _ => ⟨fun _ => trivial, fun _ => ⟨fun _ => trivial, fun _ => ⟨fun _ => trivial, fun _ => ⟨fun _ => ⟨k5, trivial⟩, fun _ => ⟨fun _ => ⟨k4, trivial⟩, fun _ => ⟨fun _ => ⟨u2, trivial⟩, fun _ => ⟨fun _ => ⟨s2, trivial⟩, fun _ => ⟨fun _ => trivial, fun _ => ⟨fun _ => trivial, fun _ => trivial⟩⟩⟩⟩⟩⟩⟩⟩⟩⟩⟩⟩
  · exact ⟨fun z => ⟨by rw [z]; exact vp_in_nI (n := 0) (N := 103) (by decide) (by decide), trivial⟩, fun _ => ⟨fun z => ⟨by rw [z]; exact vp_in_nI (n := 1) (N := 103) (by decide) (by decide), trivial⟩, fun _ => ⟨fun z => ⟨by rw [z]; exact vp_in_nI (n := 2) (N := 103) (by decide) (by decide), trivial⟩, fun _ => ⟨fun z => ⟨by rw [z]; exact vp_in_nI (n := 3) (N := 103) (by decide) (by decide), trivial⟩, fun _ => ⟨fun z => ⟨by rw [z]; exact vp_in_nI (n := 4) (N := 103) (by decide) (by decide), trivial⟩, fun _ => ⟨fun z => ⟨by rw [z]; exact vp_in_nI (n := 5) (N := 103) (by decide) (by decide), trivial⟩, fun _ => ⟨fun z => trivial, fun _ => ⟨fun z => trivial, fun _ => ⟨fun z => ⟨u3, trivial⟩, fun _ => ⟨fun z => ⟨s3, trivial⟩, fun _ => ⟨fun z => trivial, fun _ => ⟨fun z => trivial, fun _ => trivial⟩⟩⟩⟩⟩⟩⟩⟩⟩⟩⟩⟩
  · unfold f_X4_count f_X5_count
    rw [k1, k2, u1, s1, h10, h11]
    have e1 : t 0 = tn 0 := by rw [h0, h2.1]
    by_cases w0 : what = 0
    · rw [if_pos w0, if_pos w0, w0]
      exact e1
    · rw [if_neg w0, if_neg w0]
      by_cases w1 : what = 1
      · rw [if_pos w1, if_pos w1, w1]
        exact h1.symm
      · rw [if_neg w1, if_neg w1]
        by_cases w2 : what = 2
        · rw [if_pos w2, if_pos w2, w2]
          exact (h2.2.1 0 (by decide)).symm
        · rw [if_neg w2, if_neg w2]
          by_cases w3 : what = 3
          · rw [if_pos w3, if_pos w3, w3]
            exact (h2.2.1 1 (by decide)).symm
          · rw [if_neg w3, if_neg w3]
            by_cases w4 : what = 4
            · rw [if_pos w4, if_pos w4, w4]
              exact (h2.2.1 2 (by decide)).symm
            · rw [if_neg w4, if_neg w4]
              by_cases w5 : what = 5
              · rw [if_pos w5, if_pos w5, w5]
                exact (h2.2.1 3 (by decide)).symm
              · rw [if_neg w5, if_neg w5]
