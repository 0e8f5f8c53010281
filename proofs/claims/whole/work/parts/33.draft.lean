/-! PURE. Part 33: the draft of class and model, what an item does to it -/
def WD (tr : Nat → Int32) (i : Nat) (w lf kf : Nat → Int32) : Prop := ∃ H, H ≤ 6 ∧ w 24 = nI i ∧ w 11 = nI H ∧ tr (7 + 24 * i + 11) = nI H ∧ w 10 = tr (7 + 24 * i + 10) ∧ (∀ h, h < H → tr (19 + 24 * i + h) = lf h) ∧ (∀ h, h < H → tr (25 + 24 * i + h) = kf h) ∧ ∀ k, k < 10 → tr (7 + 24 * i + k) = 0
def RB (r : Nat → Int32) : Prop := 20 ≤ (r 0).toInt ∧ (r 0).toInt ≤ 200 ∧ 200 ≤ (r 1).toInt ∧ (r 1).toInt ≤ 999 ∧ 1 ≤ (r 2).toInt ∧ (r 2).toInt ≤ 99
def DR (N : Nat) (r t : Nat → Int32) (W LF KF : Nat → Nat → Int32) (tr : Nat → Int32) : Prop := N ≤ 4 ∧ t 0 = nI N ∧ t 1 = 0 ∧ tr 0 = nI N ∧ tr 1 = 0 ∧ RR tr r ∧ RB r ∧ (∀ i, i < N → WD tr i (W i) (LF i) (KF i)) ∧ (∀ i, N ≤ i → i < 4 → ∀ k, k < 12 → tr (7 + 24 * i + k) = 0)
theorem WD.fw {tr tr' w lf kf : Nat → Int32} {i j : Nat} (h : WD tr j w lf kf) (ne : j ≠ i) (e : ∀ q, (q < 7 + 24 * i ∨ 31 + 24 * i ≤ q) → tr' q = tr q) : WD tr' j w lf kf := by
  obtain ⟨H, h1, h2, h3, h4, h5, h6, h7, h8⟩ := h
  exact ⟨H, h1, h2, h3, by rw [e _ (by omega)]; exact h4, by rw [e _ (by omega)]; exact h5, fun k hk => by rw [e _ (by omega)]; exact h6 k hk, fun k hk => by rw [e _ (by omega)]; exact h7 k hk, fun k hk => by rw [e _ (by omega)]; exact h8 k hk⟩
theorem DR.one {N : Nat} {r t tr tr' w lf kf : Nat → Int32} {W LF KF : Nat → Nat → Int32} {i : Nat} (h : DR N r t W LF KF tr) (hi : i < N) (e : ∀ q, (q < 7 + 24 * i ∨ 31 + 24 * i ≤ q) → tr' q = tr q) (hw : WD tr' i w lf kf) : DR N r t (va_up W i w) (va_up LF i lf) (va_up KF i kf) tr' := by
  obtain ⟨h1, h2, h3, h4, h5, h6, h7, h8, h9⟩ := h
  refine ⟨h1, h2, h3, by rw [e _ (by omega)]; exact h4, by rw [e _ (by omega)]; exact h5, fun k hk => by rw [e _ (by omega)]; exact h6 k hk, h7, fun j hj => ?_, fun j hj1 hj2 k hk => by rw [e _ (by omega)]; exact h9 j hj1 hj2 k hk⟩
  by_cases q : j = i
  · subst q; rw [va_s, va_s, va_s]; exact hw
  · rw [va_o q, va_o q, va_o q]; exact WD.fw (h8 j hj) q e
theorem va_self {F : Nat → Nat → Int32} {i : Nat} : va_up F i (F i) = F := by
  funext j
  by_cases h : j = i
  · subst h; exact va_s
  · exact va_o h
theorem i_pred {N : Nat} (h : 0 < N) : nI N - (1 : Int32) = nI (N - 1) := by
  rw [show (1 : Int32) = nI 1 from rfl, pk_sub h]
theorem addWayR {N : Nat} {r t tr m : Nat → Int32} {W LF KF : Nat → Nat → Int32} (h : DR N r t W LF KF tr) : p_X0_addWay r t W LF KF ∧ ((∃ t' W' tr', f_X0_addWay r t W LF KF = (1, t', W') ∧ f_X5_addsWay m tr = (1, tr') ∧ N < 4 ∧ DR (N + 1) r t' W' LF KF tr') ∨ (f_X0_addWay r t W LF KF = (0, t, W) ∧ f_X5_addsWay m tr = (0, tr))) := by
  obtain ⟨h1, h2, h3, h4, h5, h6, h7, h8, h9⟩ := h
  unfold p_X0_addWay f_X0_addWay f_X5_addsWay
  rw [h2, h4]
  by_cases a : N < 4
  · have a1 : nI N < (4 : Int32) := nI_lt (b := 4) a (by decide)
    have a2 : ¬ ((4 : Int32) ≤ nI N) := nI_ge (b := 4) a (by decide)
    have hc : (nI N).toNatClampNeg = N := nI_clamp (by omega)
    rw [if_pos a1, if_neg a2, if_neg n10, hc, nI_1]
    refine ⟨⟨fun _ => ⟨vp_in_nI a (by decide), trivial⟩, fun z => absurd a1 z⟩, Or.inl ⟨_, _, _, rfl, rfl, a, by omega, upd_s, by rw [upd_o (by decide)]; exact h3, upd_s, by rw [upd_o (by decide)]; exact h5, fun k hk => by rw [upd_o (by omega)]; exact h6 k hk, h7, fun j hj => ?_, fun j hj1 hj2 k hk => by rw [upd_o (by omega)]; exact h9 j (by omega) hj2 k hk⟩⟩
    by_cases q : j = N
    · subst q
      rw [va_s]
      refine ⟨0, by decide, ?_, ?_, ?_, ?_, fun k hk => absurd hk (by omega), fun k hk => absurd hk (by omega), fun k hk => ?_⟩
      · unfold f_X3_clear; rw [upd_o (by decide), upd_o (by decide), upd_s]
      · unfold f_X3_clear; rw [upd_o (by decide), upd_s]; rfl
      · rw [upd_o (by omega)]; exact h9 j (Nat.le_refl _) a 11 (by decide)
      · unfold f_X3_clear; rw [upd_s, upd_o (by omega)]; exact (h9 j (Nat.le_refl _) a 10 (by decide)).symm
      · rw [upd_o (by omega)]; exact h9 j (Nat.le_refl _) a k (by omega)
    · rw [va_o q]
      obtain ⟨H, g1, g2, g3, g4, g5, g6, g7, g8⟩ := h8 j (by omega)
      exact ⟨H, g1, g2, g3, by rw [upd_o (by omega)]; exact g4, by rw [upd_o (by omega)]; exact g5, fun k hk => by rw [upd_o (by omega)]; exact g6 k hk, fun k hk => by rw [upd_o (by omega)]; exact g7 k hk, fun k hk => by rw [upd_o (by omega)]; exact g8 k hk⟩
  · have a1 : ¬ (nI N < (4 : Int32)) := nI_nlt (b := 4) (by omega) (by omega)
    have a2 : (4 : Int32) ≤ nI N := nI_le (a := 4) (by omega) (by omega)
    rw [if_neg a1, if_pos a2, if_pos rfl, i_add0, ← h4, upd_self]
    exact ⟨⟨fun z => absurd z (h4 ▸ a1), fun _ => trivial⟩, Or.inr ⟨rfl, rfl⟩⟩
theorem addHop0 {r t tr m : Nat → Int32} {W LF KF : Nat → Nat → Int32} {l k : Int32} (h : DR 0 r t W LF KF tr) : p_X5_addsHop m tr l k ∧ f_X5_addsHop m tr l k = (0, tr) := by
  have e : tr 0 - (1 : Int32) < 0 := by rw [h.2.2.2.1]; decide
  unfold p_X5_addsHop f_X5_addsHop
  rw [if_pos e]
  exact ⟨⟨fun _ => trivial, fun z => absurd e z⟩, rfl⟩
theorem f_X0_readHop_42_e {t : Nat → Int32} {W LF KF : Nat → Nat → Int32} {k l : Int32} {i : Nat} (hk : ¬ (k = -4)) (hi : (t 0 - (1 : Int32)).toNatClampNeg = i) : g_X0_readHop_42 t W LF KF k l = (if (f_X3_addHop (W i) (LF i) (KF i) l k).1 = 0 then (0 : Int32) else 1, va_up W i (f_X3_addHop (W i) (LF i) (KF i) l k).2.1, va_up LF i (f_X3_addHop (W i) (LF i) (KF i) l k).2.2.1, va_up KF i (f_X3_addHop (W i) (LF i) (KF i) l k).2.2.2) := by
  unfold g_X0_readHop_42
  rw [if_neg hk, hi]
  by_cases a : (f_X3_addHop (W i) (LF i) (KF i) l k).1 = 0
  · rw [if_pos a, if_pos a]
  · rw [if_neg a, if_neg a]
theorem addHopR {N : Nat} {r t tr m : Nat → Int32} {W LF KF : Nat → Nat → Int32} {l k : Int32} (h : DR N r t W LF KF tr) (hN : 0 < N) (hk : ¬ (k = -4)) : h_X0_readHop_42 t W LF KF k l ∧ p_X5_addsHop m tr l k ∧ ((∃ W' LF' KF' tr', g_X0_readHop_42 t W LF KF k l = (1, W', LF', KF') ∧ f_X5_addsHop m tr l k = (1, tr') ∧ DR N r t W' LF' KF' tr') ∨ (∃ W' LF' KF', g_X0_readHop_42 t W LF KF k l = (0, W', LF', KF') ∧ f_X5_addsHop m tr l k = (0, tr))) := by
  have h' := h
  obtain ⟨h1, h2, h3, h4, h5, h6, h7, h8, h9⟩ := h
  have hi : N - 1 < 4 := by omega
  have et : t 0 - (1 : Int32) = nI (N - 1) := by rw [h2]; exact i_pred hN
  have er : tr 0 - (1 : Int32) = nI (N - 1) := by rw [h4]; exact i_pred hN
  have hc : (nI (N - 1)).toNatClampNeg = N - 1 := nI_clamp (by omega)
  have v4 : vp_in (nI (N - 1)) 4 := vp_in_nI hi (by decide)
  have v11 : vp_in (f_X5_at (nI (N - 1)) (11 : Int32)) 103 := ai hi (k := 11) (by decide) rfl
  obtain ⟨H, g1, g2, g3, g4, g5, g6, g7, g8⟩ := h8 (N - 1) (by omega)
  have cH : (nI H).toNatClampNeg = H := nI_clamp (by omega)
  rw [f_X0_readHop_42_e (i := N - 1) hk (by rw [et]; exact hc)]
  unfold h_X0_readHop_42 p_X5_addsHop f_X5_addsHop
  rw [er, et, hc, a11 hi, g4, if_neg (nI_pos (by omega))]
  unfold p_X3_addHop f_X3_addHop
  rw [g3, cH]
  by_cases a : H < 6
  · have a1 : nI H < (6 : Int32) := nI_lt (b := 6) a (by decide)
    have a2 : ¬ (nI H = (6 : Int32)) := fun z => by have := (nI_eq (b := 6) (by omega) (by decide)).mp z; omega
    have e12 : (12 : Int32) + nI H = nI (12 + H) := nI_add 12 H
    have e18 : (18 : Int32) + nI H = nI (18 + H) := nI_add 18 H
    have v12 : vp_in (f_X5_at (nI (N - 1)) (nI (12 + H))) 103 := at_in hi (by omega)
    have v18 : vp_in (f_X5_at (nI (N - 1)) (nI (18 + H))) 103 := at_in hi (by omega)
    have vH : vp_in (nI H) 6 := vp_in_nI a (by decide)
    rw [if_pos a1, if_neg a2, e12, e18, at_cl hi (by omega), at_cl hi (by omega), upd_o (by omega), upd_o (by omega), g4, nI_1]
    refine ⟨⟨fun z => absurd z hk, fun _ => ⟨v4, ⟨fun _ => ⟨vH, vH, trivial⟩, fun z => absurd a1 z⟩, fun _ => trivial, fun _ => trivial⟩⟩, ⟨fun z => absurd z (nI_pos (by omega)), fun _ => ⟨v11, fun z => absurd z a2, fun _ => ⟨v11, v12, v18, v11, v11, trivial⟩⟩⟩, Or.inl ⟨va_up W (N - 1) (upd (W (N - 1)) 11 (nI (H + 1))), va_up LF (N - 1) (upd (LF (N - 1)) H l), va_up KF (N - 1) (upd (KF (N - 1)) H k), _, ?_, rfl, ?_⟩⟩
    · show ((if (1 : Int32) = 0 then (0 : Int32) else 1), _, _, _) = _
      rw [if_neg n10]
    · refine DR.one h' (i := N - 1) (by omega) (fun q hq => by rw [upd_o (by omega), upd_o (by omega), upd_o (by omega)]) ⟨H + 1, by omega, ?_, ?_, ?_, ?_, fun j hj => ?_, fun j hj => ?_, fun j hj => ?_⟩
      · show (upd (W (N - 1)) 11 (nI (H + 1))) 24 = _
        rw [upd_o (by decide)]; exact g2
      · show (upd (W (N - 1)) 11 (nI (H + 1))) 11 = _
        rw [upd_s]
      · rw [upd_s]
      · show (upd (W (N - 1)) 11 (nI (H + 1))) 10 = _
        rw [upd_o (by decide), upd_o (by omega), upd_o (by omega), upd_o (by omega)]; exact g5
      · show _ = (upd (LF (N - 1)) H l) j
        rw [upd_o (by omega), upd_o (by omega)]
        by_cases q : j = H
        · subst q
          rw [show 19 + 24 * (N - 1) + j = 7 + 24 * (N - 1) + (12 + j) by omega, upd_s, upd_s]
        · rw [upd_o (by omega), upd_o q]; exact g6 j (by omega)
      · show _ = (upd (KF (N - 1)) H k) j
        rw [upd_o (by omega)]
        by_cases q : j = H
        · subst q
          rw [show 25 + 24 * (N - 1) + j = 7 + 24 * (N - 1) + (18 + j) by omega, upd_s, upd_s]
        · rw [upd_o (by omega), upd_o (by omega), upd_o q]; exact g7 j (by omega)
      · rw [upd_o (by omega), upd_o (by omega), upd_o (by omega)]; exact g8 j hj
  · have e6 : H = 6 := by omega
    subst e6
    have a1 : ¬ (nI 6 < (6 : Int32)) := by decide
    have a2 : nI 6 = (6 : Int32) := rfl
    rw [if_neg a1, if_pos a2]
    exact ⟨⟨fun z => absurd z hk, fun _ => ⟨v4, ⟨fun z => absurd z a1, fun _ => trivial⟩, fun _ => trivial, fun _ => trivial⟩⟩, ⟨fun z => absurd z (nI_pos (by omega)), fun _ => ⟨v11, fun _ => trivial, fun z => absurd a2 z⟩⟩, Or.inr ⟨_, _, _, rfl, rfl⟩⟩
theorem lossR {N : Nat} {r t tr : Nat → Int32} {W LF KF : Nat → Nat → Int32} {q : Int32} (h : DR N r t W LF KF tr) (hN : 0 < N) : DR N r t (va_up W (N - 1) (upd (W (N - 1)) 10 q)) LF KF (upd tr (7 + 24 * (N - 1) + 10) q) := by
  have h' := h
  obtain ⟨H, g1, g2, g3, g4, g5, g6, g7, g8⟩ := h.2.2.2.2.2.2.2.1 (N - 1) (by omega)
  have := DR.one (tr' := upd tr (7 + 24 * (N - 1) + 10) q) (w := upd (W (N - 1)) 10 q) (lf := LF (N - 1)) (kf := KF (N - 1)) h' (i := N - 1) (by omega) (fun j hj => by rw [upd_o (by omega)]) ⟨H, g1, by rw [upd_o (by decide)]; exact g2, by rw [upd_o (by decide)]; exact g3, by rw [upd_o (by omega)]; exact g4, by rw [upd_s, upd_s], fun j hj => by rw [upd_o (by omega)]; exact g6 j hj, fun j hj => by rw [upd_o (by omega)]; exact g7 j hj, fun j hj => by rw [upd_o (by omega)]; exact g8 j hj⟩
  rw [va_self, va_self] at this
  exact this
theorem ruleR {N : Nat} {r t tr : Nat → Int32} {W LF KF : Nat → Nat → Int32} {k : Nat} {v : Int32} (h : DR N r t W LF KF tr) (hk : k < 5) (hb : RB (upd r k v)) : DR N (upd r k v) t W LF KF (upd tr (2 + k) v) := by
  obtain ⟨h1, h2, h3, h4, h5, h6, h7, h8, h9⟩ := h
  refine ⟨h1, h2, h3, by rw [upd_o (by omega)]; exact h4, by rw [upd_o (by omega)]; exact h5, fun j hj => ?_, hb, fun j hj => ?_, fun j hj1 hj2 q hq => by rw [upd_o (by omega)]; exact h9 j hj1 hj2 q hq⟩
  · by_cases q : j = k
    · subst q; rw [upd_s, upd_s]
    · rw [upd_o (by omega), upd_o q]; exact h6 j hj
  · obtain ⟨H, g1, g2, g3, g4, g5, g6, g7, g8⟩ := h8 j hj
    exact ⟨H, g1, g2, g3, by rw [upd_o (by omega)]; exact g4, by rw [upd_o (by omega)]; exact g5, fun q hq => by rw [upd_o (by omega)]; exact g6 q hq, fun q hq => by rw [upd_o (by omega)]; exact g7 q hq, fun q hq => by rw [upd_o (by omega)]; exact g8 q hq⟩
theorem beginL {m tr : Nat → Int32} : ∀ (n v fuel : Nat) (x : Nat → Int32), v + n = 103 → n < fuel → (∀ q, (l_X5_begins_2 fuel m tr (nI v) x).2 q = if v ≤ q ∧ q < 103 then 0 else x q) ∧ q_X5_begins_2 fuel m tr (nI v) x := by
  intro n
  induction n with
  | zero =>
    intro v fuel x e hf
    obtain ⟨f, rfl⟩ : ∃ f, fuel = f + 1 := ⟨fuel - 1, by omega⟩
    have c : (103 : Int32) ≤ nI v := nI_le (a := 103) (b := v) (by omega) (by omega)
    rw [l_X5_begins_2, q_X5_begins_2, if_pos c]
    exact ⟨fun q => by rw [if_neg (by omega)], fun _ => trivial, fun z => absurd c z⟩
  | succ n ih =>
    intro v fuel x e hf
    obtain ⟨f, rfl⟩ : ∃ f, fuel = f + 1 := ⟨fuel - 1, by omega⟩
    have c : ¬ ((103 : Int32) ≤ nI v) := nI_ge (a := v) (b := 103) (by omega) (by omega)
    have h2 : (nI v).toNatClampNeg = v := nI_clamp (by omega)
    have v2 : vp_in (nI v) 103 := vp_in_nI (by omega) (by omega)
    rw [l_X5_begins_2, q_X5_begins_2, if_neg c, h2, nI_1]
    obtain ⟨g1, g2⟩ := ih (v + 1) f (upd x v 0) (by omega) (by omega)
    refine ⟨fun q => ?_, fun z => absurd z c, fun _ => ⟨v2, g2⟩⟩
    rw [g1 q]
    by_cases d : v + 1 ≤ q ∧ q < 103
    · rw [if_pos d, if_pos (by omega)]
    · rw [if_neg d]
      by_cases d2 : q = v
      · subst d2
        rw [upd_s, if_pos (by omega)]
      · rw [upd_o d2, if_neg (by omega)]
theorem beginsM {m tr : Nat → Int32} : p_X5_begins m tr ∧ (f_X5_begins m tr) 2 = 60 ∧ (f_X5_begins m tr) 3 = 900 ∧ (f_X5_begins m tr) 4 = 20 ∧ (f_X5_begins m tr) 5 = 1 ∧ ∀ q, q < 103 → (q < 2 ∨ 6 ≤ q) → (f_X5_begins m tr) q = 0 := by
  obtain ⟨g1, g2⟩ := beginL (m := m) (tr := tr) 103 0 xK tr (by decide) (by unfold xK; omega)
  rw [nI_0] at g1 g2
  unfold f_X5_begins
  refine ⟨⟨g2, trivial⟩, ?_, ?_, ?_, ?_, fun q h1 h2 => ?_⟩
  · rw [upd_o (by decide), upd_o (by decide), upd_o (by decide), upd_s]
  · rw [upd_o (by decide), upd_o (by decide), upd_s]
  · rw [upd_o (by decide), upd_s]
  · rw [upd_s]
  · rw [upd_o (by omega), upd_o (by omega), upd_o (by omega), upd_o (by omega), g1, if_pos (by omega)]
theorem DR0 {m tr r t : Nat → Int32} {W LF KF : Nat → Nat → Int32} : p_X5_begins m tr ∧ DR 0 (f_X1_clear r) (upd (upd t 0 (0 : Int32)) 1 (0 : Int32)) W LF KF (f_X5_begins m tr) := by
  obtain ⟨g0, g2, g3, g4, g5, g6⟩ := beginsM (m := m) (tr := tr)
  have k0 : (f_X1_clear r) 0 = 60 := by unfold f_X1_clear; simp +decide only [upd, ↓reduceIte]
  have k1 : (f_X1_clear r) 1 = 900 := by unfold f_X1_clear; simp +decide only [upd, ↓reduceIte]
  have k2 : (f_X1_clear r) 2 = 20 := by unfold f_X1_clear; simp +decide only [upd, ↓reduceIte]
  have k3 : (f_X1_clear r) 3 = 1 := by unfold f_X1_clear; simp +decide only [upd, ↓reduceIte]
  have k4 : (f_X1_clear r) 4 = 0 := by unfold f_X1_clear; simp +decide only [upd, ↓reduceIte]
  refine ⟨g0, by decide, ?_, upd_s, ?_, ?_, fun k hk => ?_, ?_, fun j hj => absurd hj (by omega), fun j _ hj k hk => g6 _ (by omega) (by omega)⟩
  · rw [upd_o (by decide), upd_s]; rfl
  · rw [g6 0 (by decide) (by decide)]; rfl
  · exact g6 1 (by decide) (by decide)
  · have : k = 0 ∨ k = 1 ∨ k = 2 ∨ k = 3 ∨ k = 4 := by omega
    rcases this with e | e | e | e | e <;> subst e
    · rw [k0]; exact g2
    · rw [k1]; exact g3
    · rw [k2]; exact g4
    · rw [k3]; exact g5
    · rw [k4]; exact g6 6 (by decide) (by decide)
  · unfold RB
    rw [k0, k1, k2]
    decide
