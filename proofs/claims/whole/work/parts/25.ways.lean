/-! PURE. Part 25: ticks of a way, the ways of a net -/
theorem ex_row {w lf kf r : Nat → Int32} {i H : Nat} (hH : H ≤ 6) (h24 : w 24 = nI i) (h11 : w 11 = nI H) : ∃ t, KK t t i w lf kf H r := by
  refine ⟨fun q => if q < 7 then r (q - 2) else if q < 19 + 24 * i then w (q - (7 + 24 * i)) else if q < 25 + 24 * i then lf (q - (19 + 24 * i)) else kf (q - (25 + 24 * i)), ⟨fun k hk => ?_, h24, h11, fun k hk => ?_, fun k hk => ?_⟩, fun k hk => ?_, FW.refl⟩
  · show (if _ then _ else _) = _
    rw [if_neg (by omega), if_pos (by omega)]
    exact congrArg w (by omega)
  · show (if _ then _ else _) = _
    rw [if_neg (by omega), if_neg (by omega), if_pos (by omega)]
    exact congrArg lf (by omega)
  · show (if _ then _ else _) = _
    rw [if_neg (by omega), if_neg (by omega), if_neg (by omega)]
    exact congrArg kf (by omega)
  · show (if _ then _ else _) = _
    rw [if_pos (by omega)]
    exact congrArg r (by omega)
theorem stepC {w lf kf r : Nat → Int32} {i H : Nat} (hi : i < 4) (hH : H ≤ 6) (h24 : w 24 = nI i) (h11 : w 11 = nI H) (hw : WI w r) : p_X3_step w lf kf r ∧ WI (f_X3_step w lf kf r) r ∧ (f_X3_step w lf kf r) 24 = nI i ∧ (f_X3_step w lf kf r) 11 = nI H := by
  obtain ⟨t, ht⟩ := ex_row (lf := lf) (kf := kf) (r := r) hH h24 h11
  obtain ⟨m', t', _, _, s3, s4, s5, _⟩ := ticksK (m := t) hi hH ht hw
  exact ⟨s3, s5, s4.1.2.1, s4.1.2.2.1⟩
def itS (lf kf r : Nat → Int32) : Nat → (Nat → Int32) → (Nat → Int32)
  | 0, w => w
  | n + 1, w => itS lf kf r n (f_X3_step w lf kf r)
theorem itS_snoc {lf kf r : Nat → Int32} : ∀ (n : Nat) (w : Nat → Int32), itS lf kf r (n + 1) w = f_X3_step (itS lf kf r n w) lf kf r := by
  intro n
  induction n with
  | zero => intro w; rfl
  | succ n ih => intro w; exact ih (f_X3_step w lf kf r)
theorem goOnL {lf kf r w0 : Nat → Int32} {i H N : Nat} (hi : i < 4) (hH : H ≤ 6) (hN : N < 2 ^ 30) : ∀ (n v fuel : Nat) (x : Nat → Int32), v + n = N → n < fuel → x 24 = nI i → x 11 = nI H → WI x r → (l_X3_goOn_2 fuel w0 lf kf r (nI N) (nI v) x).2 = itS lf kf r n x ∧ q_X3_goOn_2 fuel w0 lf kf r (nI N) (nI v) x ∧ WI (itS lf kf r n x) r ∧ (itS lf kf r n x) 24 = nI i ∧ (itS lf kf r n x) 11 = nI H := by
  intro n
  induction n with
  | zero =>
    intro v fuel x e hf h24 h11 hw
    obtain ⟨f, rfl⟩ : ∃ f, fuel = f + 1 := ⟨fuel - 1, by omega⟩
    have c : nI N ≤ nI v := nI_le (by omega) (by omega)
    rw [l_X3_goOn_2, q_X3_goOn_2, if_pos c]
    exact ⟨rfl, ⟨fun _ => trivial, fun z => absurd c z⟩, hw, h24, h11⟩
  | succ n ih =>
    intro v fuel x e hf h24 h11 hw
    obtain ⟨f, rfl⟩ : ∃ f, fuel = f + 1 := ⟨fuel - 1, by omega⟩
    have c : ¬ (nI N ≤ nI v) := nI_ge (by omega) (by omega)
    obtain ⟨p1, p2, p3, p4⟩ := stepC (lf := lf) (kf := kf) hi hH h24 h11 hw
    obtain ⟨g1, g2, g3, g4, g5⟩ := ih (v + 1) f (f_X3_step x lf kf r) (by omega) (by omega) p3 p4 p2
    rw [l_X3_goOn_2, q_X3_goOn_2, if_neg c, nI_1]
    exact ⟨g1, ⟨fun z => absurd z c, fun _ => ⟨p1, g2⟩⟩, g3, g4, g5⟩
theorem goOnC {lf kf r w : Nat → Int32} {i H n : Nat} (hi : i < 4) (hH : H ≤ 6) (hn : n ≤ 99) (h24 : w 24 = nI i) (h11 : w 11 = nI H) (hw : WI w r) : f_X3_goOn w lf kf r (nI n) = itS lf kf r n w ∧ p_X3_goOn w lf kf r (nI n) ∧ WI (itS lf kf r n w) r ∧ (itS lf kf r n w) 24 = nI i ∧ (itS lf kf r n w) 11 = nI H := by
  obtain ⟨g1, g2, g3⟩ := goOnL (lf := lf) (kf := kf) (w0 := w) hi hH (N := n) (by omega) n 0 xK w (by omega) (by unfold xK; omega) h24 h11 hw
  rw [nI_0] at g1 g2
  exact ⟨g1, ⟨g2, trivial⟩, g3⟩
/-- the ways in the row -/
def AR (N : Nat) (F LF KF : Nat → Nat → Int32) (r tn : Nat → Int32) : Prop := tn 0 = nI N ∧ RR tn r ∧ ∀ i, i < N → ∃ H, H ≤ 6 ∧ WR tn i (F i) (LF i) (KF i) H ∧ WI (F i) r
theorem WR.fw {t t' : Nat → Int32} {i j : Nat} {w lf kf : Nat → Int32} {H : Nat} (hH : H ≤ 6) (h : WR t j w lf kf H) (g : FW t t' i) (ne : j ≠ i) : WR t' j w lf kf H := by
  obtain ⟨h1, h2, h3, h4, h5⟩ := h
  refine ⟨fun k hk => ?_, h2, h3, fun k hk => ?_, fun k hk => ?_⟩
  · rw [g _ (by omega)]; exact h1 k hk
  · rw [g _ (by omega)]; exact h4 k hk
  · rw [g _ (by omega)]; exact h5 k hk
theorem AR.one {N : Nat} {F LF KF : Nat → Nat → Int32} {r tn tn' w' : Nat → Int32} {i : Nat} (hi : i < N) (h : AR N F LF KF r tn) (hw : ∃ H, H ≤ 6 ∧ KK tn tn' i w' (LF i) (KF i) H r ∧ WI w' r) : AR N (va_up F i w') LF KF r tn' := by
  obtain ⟨H, hH, hk, hwi⟩ := hw
  refine ⟨by rw [hk.2.2 0 (by omega)]; exact h.1, hk.2.1, fun j hj => ?_⟩
  by_cases e : j = i
  · subst e
    have : va_up F j w' j = w' := by simp [va_up]
    rw [this]
    exact ⟨H, hH, hk.1, hwi⟩
  · have : va_up F i w' j = F j := by simp [va_up, e]
    rw [this]
    obtain ⟨H', hH', h1, h2⟩ := h.2.2 j hj
    exact ⟨H', hH', WR.fw hH' h1 hk.2.2 e, h2⟩
theorem AR.kk {N : Nat} {F LF KF : Nat → Nat → Int32} {r tn : Nat → Int32} {i : Nat} (hi : i < N) (h : AR N F LF KF r tn) : ∃ H, H ≤ 6 ∧ KK tn tn i (F i) (LF i) (KF i) H r ∧ WI (F i) r := by
  obtain ⟨H, hH, h1, h2⟩ := h.2.2 i hi
  exact ⟨H, hH, ⟨h1, h.2.1, FW.refl⟩, h2⟩
theorem AR.tick {N : Nat} (hN : N ≤ 4) {F LF KF : Nat → Nat → Int32} {r tn m : Nat → Int32} {i : Nat} (hi : i < N) (h : AR N F LF KF r tn) : ∃ m' tn', f_X5_ticks m tn (nI i) = (m', tn') ∧ p_X5_ticks m tn (nI i) ∧ AR N (va_up F i (f_X3_step (F i) (LF i) (KF i) r)) LF KF r tn' ∧ MF m m' ∧ tn' 1 = tn 1 := by
  obtain ⟨H, hH, hk, hw⟩ := AR.kk hi h
  obtain ⟨m', t', s1, s2, s3, s4, s5, s6⟩ := ticksK (m := m) (by omega) hH hk hw
  exact ⟨m', t', s1, s2, AR.one hi h ⟨H, hH, s4, s5⟩, s6, s4.2.2 1 (by omega)⟩
def stG (LF KF : Nat → Nat → Int32) (r : Nat → Int32) (j : Nat) (F : Nat → Nat → Int32) : Nat → Nat → Int32 := fun k => if j ≤ k then f_X3_step (F k) (LF k) (KF k) r else F k
theorem AR.congr {N : Nat} {F F' LF KF : Nat → Nat → Int32} {r tn : Nat → Int32} (h : AR N F LF KF r tn) (e : ∀ i, i < N → F' i = F i) : AR N F' LF KF r tn := ⟨h.1, h.2.1, fun i hi => by rw [e i hi]; exact h.2.2 i hi⟩
theorem tickIn {N : Nat} (hN : N ≤ 4) {LF KF : Nat → Nat → Int32} {r m0 tn0 tp0 xp : Nat → Int32} {nn v3 v2 : Int32} : ∀ (n j fuel : Nat) (F : Nat → Nat → Int32) (m tn : Nat → Int32), j + n = N → n < fuel → AR N F LF KF r tn → ∃ m' tn', l_X5_tick_50 fuel m0 tn0 tp0 nn v3 v2 m tn xp (nI j) = (v3, v2, m', tn', xp, nI N) ∧ q_X5_tick_50 fuel m0 tn0 tp0 nn v3 v2 m tn xp (nI j) ∧ AR N (stG LF KF r j F) LF KF r tn' ∧ MF m m' ∧ tn' 1 = tn 1 := by
  intro n
  induction n with
  | zero =>
    intro j fuel F m tn e hf h
    obtain ⟨f, rfl⟩ : ∃ f, fuel = f + 1 := ⟨fuel - 1, by omega⟩
    have ej : j = N := by omega
    subst ej
    have c : tn 0 ≤ nI j := by rw [h.1]; exact nI_le (Nat.le_refl _) (by omega)
    rw [l_X5_tick_50, q_X5_tick_50, if_pos c]
    exact ⟨m, tn, rfl, ⟨fun _ => trivial, fun z => absurd c z⟩, AR.congr h (fun i hi => by unfold stG; rw [if_neg (by omega)]), MF.refl, rfl⟩
  | succ n ih =>
    intro j fuel F m tn e hf h
    obtain ⟨f, rfl⟩ : ∃ f, fuel = f + 1 := ⟨fuel - 1, by omega⟩
    have c : ¬ (tn 0 ≤ nI j) := by rw [h.1]; exact nI_ge (by omega) (by omega)
    obtain ⟨m1, t1, s1, s2, s3, s4, s5⟩ := AR.tick (m := m) hN (i := j) (by omega) h
    obtain ⟨m2, t2, g1, g2, g3, g4, g5⟩ := ih (j + 1) f _ m1 t1 (by omega) (by omega) s3
    rw [l_X5_tick_50, q_X5_tick_50, if_neg c, s1, nI_1]
    refine ⟨m2, t2, g1, ⟨fun z => absurd z c, fun _ => ⟨s2, g2⟩⟩, AR.congr g3 (fun i hi => ?_), MF.trans s4 g4, g5.trans s5⟩
    unfold stG va_up
    by_cases c1 : j + 1 ≤ i
    · rw [if_pos (by omega), if_pos c1, if_neg (by omega)]
    · by_cases c2 : i = j
      · subst c2
        rw [if_pos (Nat.le_refl _), if_neg c1, if_pos rfl]
      · rw [if_neg (by omega), if_neg c1, if_neg c2]
theorem tickOut {N M : Nat} (hN : N ≤ 4) (hM : M < 2 ^ 30) {LF KF : Nat → Nat → Int32} {r m0 tn0 tp0 : Nat → Int32} {v2 : Int32} {xp : Nat → Int32} : ∀ (n k fuel : Nat) (F : Nat → Nat → Int32) (m tn : Nat → Int32), k + n = M → n < fuel → AR N F LF KF r tn → ∃ m' tn', l_X5_tick_42 fuel m0 tn0 tp0 (nI M) v2 m xp (nI k) tn = (v2, m', xp, nI M, tn') ∧ q_X5_tick_42 fuel m0 tn0 tp0 (nI M) v2 m xp (nI k) tn ∧ AR N (fun i => itS (LF i) (KF i) r n (F i)) LF KF r tn' ∧ MF m m' ∧ tn' 1 = tn 1 := by
  intro n
  induction n with
  | zero =>
    intro k fuel F m tn e hf h
    obtain ⟨f, rfl⟩ : ∃ f, fuel = f + 1 := ⟨fuel - 1, by omega⟩
    have ej : k = M := by omega
    subst ej
    have c : nI k ≤ nI k := nI_le (Nat.le_refl _) (by omega)
    rw [l_X5_tick_42, q_X5_tick_42, if_pos c]
    exact ⟨m, tn, rfl, ⟨fun _ => trivial, fun z => absurd c z⟩, h, MF.refl, rfl⟩
  | succ n ih =>
    intro k fuel F m tn e hf h
    obtain ⟨f, rfl⟩ : ∃ f, fuel = f + 1 := ⟨fuel - 1, by omega⟩
    have c : ¬ (nI M ≤ nI k) := nI_ge (by omega) (by omega)
    obtain ⟨m1, t1, s1, s2, s3, s4, s5⟩ := tickIn hN (m0 := m0) (tn0 := tn0) (tp0 := tp0) (xp := xp) (nn := nI M) (v3 := nI k) (v2 := v2) N 0 xK F m tn (by omega) (by unfold xK; omega) h
    rw [nI_0] at s1 s2
    obtain ⟨m2, t2, g1, g2, g3, g4, g5⟩ := ih (k + 1) f _ m1 t1 (by omega) (by omega) s3
    rw [l_X5_tick_42, q_X5_tick_42, if_neg c, s1]
    dsimp only
    rw [nI_1]
    exact ⟨m2, t2, g1, ⟨fun z => absurd z c, fun _ => ⟨s2, g2⟩⟩, AR.congr g3 (fun i hi => by unfold stG; rw [if_pos (by omega)]; rfl), MF.trans s4 g4, g5.trans s5⟩
