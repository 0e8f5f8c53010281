/-! PURE. Part 37: the text read, laid; letters written and wiped -/
theorem beginW {r0 t0 x0 lf xr xt xx : Nat → Int32} {W0 LF0 KF0 XL XK : Nat → Nat → Int32} {N : Nat} (hN : N ≤ 4) (ht : xt 0 = nI N) : ∀ (n v fuel : Nat) (XW : Nat → Nat → Int32), v + n = N → n < fuel → ∃ W', q_X0_read_74 fuel r0 t0 W0 LF0 KF0 x0 lf xr xt XW XL XK xx (nI v) ∧ l_X0_read_74 fuel r0 t0 W0 LF0 KF0 x0 lf xr xt XW XL XK xx (nI v) = (xr, xt, W', XL, XK, xx, nI N) ∧ (∀ i, v ≤ i → i < N → W' i = f_X3_begin (XW i) xr) ∧ (∀ i, i < v → W' i = XW i) := by
  intro n
  induction n with
  | zero =>
    intro v fuel XW e hf
    obtain ⟨f, rfl⟩ : ∃ f, fuel = f + 1 := ⟨fuel - 1, by omega⟩
    have ej : v = N := by omega
    subst ej
    have c : xt 0 ≤ nI v := by rw [ht]; exact nI_le (Nat.le_refl _) (by omega)
    rw [l_X0_read_74, q_X0_read_74, if_pos c]
    exact ⟨XW, ⟨fun _ => trivial, fun z => absurd c z⟩, rfl, fun i h1 h2 => absurd h2 (by omega), fun i _ => rfl⟩
  | succ n ih =>
    intro v fuel XW e hf
    obtain ⟨f, rfl⟩ : ∃ f, fuel = f + 1 := ⟨fuel - 1, by omega⟩
    have c : ¬ (xt 0 ≤ nI v) := by rw [ht]; exact nI_ge (by omega) (by omega)
    have hc : (nI v).toNatClampNeg = v := nI_clamp (by omega)
    have hv : vp_in (nI v) 4 := vp_in_nI (by omega) (by omega)
    obtain ⟨W', g1, g2, g3, g4⟩ := ih (v + 1) f (va_up XW v (f_X3_begin (XW v) xr)) (by omega) (by omega)
    rw [l_X0_read_74, q_X0_read_74, if_neg c, hc, nI_1]
    refine ⟨W', ⟨fun z => absurd z c, fun _ => ⟨hv, g1⟩⟩, g2, fun i h1 h2 => ?_, fun i hi => ?_⟩
    · by_cases d : i = v
      · subst d
        rw [g4 i (by omega), va_s]
      · rw [g3 i (by omega) h2, va_o d]
    · rw [g4 i (by omega), va_o (by omega)]
/-- a draft that is read through: its ways begun -/
def FIN (r t : Nat → Int32) (W LF KF : Nat → Nat → Int32) (tr : Nat → Int32) : Prop := ∃ N W0, DR N r t W0 LF KF tr ∧ ∀ i, i < N → W i = f_X3_begin (W0 i) r
theorem readL {c : Nat → Nat} {n : Nat} {x m lf tx r0 t0 x0 m0 tr0 : Nat → Int32} {W0 LF0 KF0 : Nat → Nat → Int32} (h : TX c n lf) (h' : TX c n tx) (hx : x 0 = nI n) (hm : m 1 = nI n) : ∀ (d p v f f' N : Nat) (r t tr : Nat → Int32) (W LF KF : Nat → Nat → Int32), n - p ≤ d → p ≤ n → v ≤ p → d < f → d < f' → DR N r t W LF KF tr →
    q_X0_read_24 f r0 t0 W0 LF0 KF0 x0 lf r t (upd x 1 (nI p)) (nI v) W LF KF ∧ q_X5_reads_9 f' m0 tr0 tx (upd m 2 (nI p)) tr ∧ ∃ a r' t' W' LF' KF' q q' tr', l_X0_read_24 f r0 t0 W0 LF0 KF0 x0 lf r t (upd x 1 (nI p)) (nI v) W LF KF = (a, r', t', W', LF', KF', upd x 1 (nI q)) ∧ l_X5_reads_9 f' m0 tr0 tx (upd m 2 (nI p)) tr = (a, upd m 2 (nI q'), tr') ∧ (¬ (a = -4) ∨ (a = -4 ∧ FIN r' t' W' LF' KF' tr')) := by
  have h240 := h.1
  intro d
  induction d with
  | zero =>
    intro p v f f' N r t tr W LF KF hd1 hp hv hf hf' hD
    obtain ⟨f, rfl⟩ : ∃ g, f = g + 1 := ⟨f - 1, by omega⟩
    obtain ⟨f', rfl⟩ : ∃ g, f' = g + 1 := ⟨f' - 1, by omega⟩
    have ep : p = n := by omega
    have x0' : (upd x 1 (nI p)) 0 = nI n := by rw [upd_o (by decide)]; exact hx
    have x1' : (upd x 1 (nI p)) 1 = nI p := upd_s
    have m1' : (upd m 2 (nI p)) 1 = nI n := by rw [upd_o (by decide)]; exact hm
    have m2' : (upd m 2 (nI p)) 2 = nI p := upd_s
    have c1 : nI n ≤ nI p := nI_le (by omega) (by omega)
    obtain ⟨W', g1, g2, g3, g4⟩ := beginW (r0 := r0) (t0 := t0) (x0 := x0) (lf := lf) (W0 := W0) (LF0 := LF0) (KF0 := KF0) (xr := r) (xt := t) (xx := upd x 1 (nI p)) (XL := LF) (XK := KF) hD.1 hD.2.1 N 0 xK W (by omega) (by have := hD.1; unfold xK; omega)
    rw [nI_0] at g1 g2
    rw [l_X0_read_24, q_X0_read_24, l_X5_reads_9, q_X5_reads_9, x0', x1', m1', m2', g2, if_pos c1, if_pos c1]
    refine ⟨⟨fun _ => ⟨g1, trivial⟩, fun _ => ⟨fun _ => ⟨g1, trivial⟩, fun z => absurd c1 z⟩⟩, ⟨fun _ => trivial, fun z => absurd c1 z⟩, -4, r, t, W', LF, KF, p, p, tr, ?_, rfl, Or.inr ⟨rfl, N, W, hD, fun i hi => g3 i (Nat.zero_le _) hi⟩⟩
    by_cases z : (240 : Int32) ≤ nI v
    · rw [if_pos z]
    · rw [if_neg z]
  | succ d ih =>
    intro p v f f' N r t tr W LF KF hd1 hp hv hf hf' hD
    by_cases hpn : n - p ≤ d
    · exact ih p v f f' N r t tr W LF KF hpn hp hv (by omega) (by omega) hD
    obtain ⟨f, rfl⟩ : ∃ g, f = g + 1 := ⟨f - 1, by omega⟩
    obtain ⟨f', rfl⟩ : ∃ g, f' = g + 1 := ⟨f' - 1, by omega⟩
    have hpn' : p < n := by omega
    have x0' : (upd x 1 (nI p)) 0 = nI n := by rw [upd_o (by decide)]; exact hx
    have x1' : (upd x 1 (nI p)) 1 = nI p := upd_s
    have m1' : (upd m 2 (nI p)) 1 = nI n := by rw [upd_o (by decide)]; exact hm
    have m2' : (upd m 2 (nI p)) 2 = nI p := upd_s
    have c1 : ¬ (nI n ≤ nI p) := nI_ge hpn' (by omega)
    have c2 : ¬ ((240 : Int32) ≤ nI v) := nI_ge (b := 240) (by omega) (by decide)
    obtain ⟨y0, y1, a, r', t', W', LF', KF', q, a', q', tr', y2, y3, y4, y5, y6⟩ := itemR h h' hx hm hD hp
    obtain ⟨s1, s2⟩ := takeC (si := 17) h hx (by decide) y4
    have hsg : mt c n q (wd 17) ↔ sg c n q 59 := sg_mt
    rw [l_X0_read_24, q_X0_read_24, l_X5_reads_9, q_X5_reads_9, x0', x1', m1', m2', y2, y3, if_neg c1, if_neg c1, if_neg c2]
    simp only
    rcases y6 with ⟨z1, z2⟩ | ⟨z1, z2, z3, z4, z5, N', z6⟩
    · rw [if_pos z1]
      by_cases b : a = 0
      · rw [if_pos b]
        exact ⟨⟨fun z => absurd z c2, fun _ => ⟨fun z => absurd z c1, fun _ => ⟨y0, fun _ => trivial, fun z => absurd b z⟩⟩⟩, ⟨fun z => absurd z c1, fun _ => ⟨y1, fun _ => trivial, fun z => absurd z1 z⟩⟩, _, _, _, _, _, _, _, _, _, rfl, rfl, Or.inl (nI_ne4 p (by omega))⟩
      · rw [if_neg b]
        rcases s2 with ⟨k1, k2⟩ | ⟨k1, k2⟩
        · exact absurd (hsg.mp k1) (by rcases z2 with z2 | z2; exact absurd z2 b; exact z2)
        · rw [k2, if_pos rfl]
          exact ⟨⟨fun z => absurd z c2, fun _ => ⟨fun z => absurd z c1, fun _ => ⟨y0, fun z => absurd z b, fun _ => ⟨s1, fun _ => trivial, fun z => absurd rfl z⟩⟩⟩⟩, ⟨fun z => absurd z c1, fun _ => ⟨y1, fun _ => trivial, fun z => absurd z1 z⟩⟩, _, _, _, _, _, _, _, _, _, rfl, rfl, Or.inl (nI_ne4 p (by omega))⟩
    · rw [if_neg z1, if_neg z2]
      rcases s2 with ⟨k1, k2⟩ | ⟨k1, k2⟩
      · have k2' : f_X2_take (upd x 1 (nI q)) lf 17 = (1, upd x 1 (nI (q + 1))) := k2
        rw [k2', if_neg n10, nI_1]
        subst z4
        obtain ⟨i1, i2, i3⟩ := ih (q + 1) (v + 1) f f' N' r' t' tr' W' LF' KF' (by omega) y5 (by omega) (by omega) (by omega) z6
        exact ⟨⟨fun z => absurd z c2, fun _ => ⟨fun z => absurd z c1, fun _ => ⟨y0, fun z => absurd z z2, fun _ => ⟨s1, fun z => absurd z n10, fun _ => i1⟩⟩⟩⟩, ⟨fun z => absurd z c1, fun _ => ⟨y1, fun z => absurd z z1, fun _ => i2⟩⟩, i3⟩
      · exact absurd (hsg.mpr z3) k1
theorem readR {c : Nat → Nat} {n : Nat} {x m lf tx dr dt tr : Nat → Int32} {DW DL DK : Nat → Nat → Int32} (h : TX c n lf) (h' : TX c n tx) (hx : x 0 = nI n) (hm : m 1 = nI n) : p_X0_read dr dt DW DL DK x lf ∧ p_X5_reads m tr tx ∧ ∃ a r' t' W' LF' KF' q q' tr', f_X0_read dr dt DW DL DK x lf = (a, r', t', W', LF', KF', upd x 1 (nI q)) ∧ f_X5_reads m tr tx = (a, upd m 2 (nI q'), tr') ∧ (¬ (a = -4) ∨ (a = -4 ∧ FIN r' t' W' LF' KF' tr')) := by
  have h240 := h.1
  obtain ⟨u, hD⟩ := DR0 (m := m) (tr := tr) (r := dr) (t := dt) (W := DW) (LF := DL) (KF := DK)
  obtain ⟨i1, i2, i3⟩ := readL (r0 := dr) (t0 := dt) (x0 := x) (m0 := m) (tr0 := tr) (W0 := DW) (LF0 := DL) (KF0 := DK) h h' hx hm n 0 0 xK xK 0 _ _ _ _ _ _ (by omega) (by omega) (by omega) (by unfold xK; omega) (by unfold xK; omega) hD
  rw [nI_0] at i1 i2 i3
  exact ⟨i1, ⟨u, i2⟩, i3⟩
theorem takesL {m tn tr0 : Nat → Int32} {N : Nat} (hN : N ≤ 4) : ∀ (n v fuel : Nat) (x : Nat → Int32), v + n = N → n < fuel → x 0 = nI N → q_X5_takes_2 fuel m tn tr0 (nI v) x ∧ (∀ q, (∀ i, v ≤ i → i < N → q ≠ 7 + 24 * i ∧ q ≠ 8 + 24 * i ∧ q ≠ 9 + 24 * i) → (l_X5_takes_2 fuel m tn tr0 (nI v) x).2 q = x q) ∧ (∀ i, v ≤ i → i < N → (l_X5_takes_2 fuel m tn tr0 (nI v) x).2 (7 + 24 * i) = x 2 ∧ (l_X5_takes_2 fuel m tn tr0 (nI v) x).2 (8 + 24 * i) = x 3 ∧ (l_X5_takes_2 fuel m tn tr0 (nI v) x).2 (9 + 24 * i) = if x 2 = x 3 then 1 else 0) := by
  intro n
  induction n with
  | zero =>
    intro v fuel x e hf h0
    obtain ⟨f, rfl⟩ : ∃ f, fuel = f + 1 := ⟨fuel - 1, by omega⟩
    have c : x 0 ≤ nI v := by rw [h0]; exact nI_le (by omega) (by omega)
    rw [l_X5_takes_2, q_X5_takes_2, if_pos c]
    exact ⟨⟨fun _ => trivial, fun z => absurd c z⟩, fun q _ => rfl, fun i h1 h2 => absurd h2 (by omega)⟩
  | succ n ih =>
    intro v fuel x e hf h0
    obtain ⟨f, rfl⟩ : ∃ f, fuel = f + 1 := ⟨fuel - 1, by omega⟩
    have c : ¬ (x 0 ≤ nI v) := by rw [h0]; exact nI_ge (by omega) (by omega)
    have hv4 : v < 4 := by omega
    have v0 : vp_in (f_X5_at (nI v) (0 : Int32)) 103 := ai hv4 (k := 0) (by decide) rfl
    have v1 : vp_in (f_X5_at (nI v) (1 : Int32)) 103 := ai hv4 (k := 1) (by decide) rfl
    have v2 : vp_in (f_X5_at (nI v) (2 : Int32)) 103 := ai hv4 (k := 2) (by decide) rfl
    rw [l_X5_takes_2, q_X5_takes_2, if_neg c, a0 hv4, a1 hv4, a2 hv4, nI_1]
    have e3 : (upd x (7 + 24 * v + 0) (x 2)) 3 = x 3 := upd_o (by omega)
    rw [e3]
    have e4 : (upd (upd x (7 + 24 * v + 0) (x 2)) (7 + 24 * v + 1) (x 3)) 2 = x 2 := by rw [upd_o (by omega), upd_o (by omega)]
    have e5 : (upd (upd x (7 + 24 * v + 0) (x 2)) (7 + 24 * v + 1) (x 3)) 3 = x 3 := by rw [upd_o (by omega), upd_o (by omega)]
    rw [e4, e5]
    obtain ⟨g1, g2, g3⟩ := ih (v + 1) f (upd (upd (upd x (7 + 24 * v + 0) (x 2)) (7 + 24 * v + 1) (x 3)) (7 + 24 * v + 2) (if x 2 = x 3 then 1 else 0)) (by omega) (by omega) (by rw [upd_o (by omega), upd_o (by omega), upd_o (by omega)]; exact h0)
    refine ⟨⟨fun z => absurd z c, fun _ => ⟨v0, v1, v2, g1⟩⟩, fun q hq => ?_, fun i h1 h2 => ?_⟩
    · rw [g2 q (fun i h1 h2 => hq i (by omega) h2)]
      have := hq v (Nat.le_refl _) (by omega)
      rw [upd_o (by omega), upd_o (by omega), upd_o (by omega)]
    · by_cases d : i = v
      · subst d
        rw [g2 _ (fun j h3 h4 => by omega), g2 _ (fun j h3 h4 => by omega), g2 _ (fun j h3 h4 => by omega)]
        refine ⟨?_, ?_, ?_⟩
        · rw [upd_o (by omega), upd_o (by omega)]; exact upd_s
        · rw [upd_o (by omega), show 8 + 24 * i = 7 + 24 * i + 1 by omega]; exact upd_s
        · rw [show 9 + 24 * i = 7 + 24 * i + 2 by omega]; exact upd_s
      · obtain ⟨k1, k2, k3⟩ := g3 i (by omega) h2
        rw [k1, k2, k3, upd_o (by omega), upd_o (by omega), upd_o (by omega), upd_o (by omega), upd_o (by omega), upd_o (by omega)]
        exact ⟨rfl, rfl, rfl⟩
theorem takesR {m tn r t tr : Nat → Int32} {W LF KF : Nat → Nat → Int32} (h : FIN r t W LF KF tr) : p_X5_takes m tn tr ∧ ∃ tn' tr', f_X5_takes m tn tr = (upd m 0 (0 : Int32), tn', tr') ∧ NR r t W LF KF tn' ∧ tn' 0 = t 0 ∧ tr 0 = t 0 := by
  obtain ⟨N, W0, hD, hW⟩ := h
  obtain ⟨h1, h2, h3, h4, h5, h6, h7, h8, h9⟩ := hD
  obtain ⟨g1, g2, g3⟩ := takesL (m := m) (tn := tn) (tr0 := tr) h1 N 0 xK tr (by omega) (by unfold xK; omega) h4
  rw [nI_0] at g1 g2 g3
  unfold p_X5_takes f_X5_takes
  generalize (l_X5_takes_2 xK m tn tr 0 tr).2 = T at *
  obtain ⟨b1, b2⟩ := cp_A (ff := T) (gf := tn) (a := 0) (b := 0) (x := 0) (y := 0) nI_0.symm nI_0.symm (by decide) (by decide)
  have b3 : ∀ q, q < 103 → (f_X5_copiesA T tn 0 0) q = T q := fun q hq => by
    rw [b1, if_pos (by omega)]
    exact congrArg T (by omega)
  have out : ∀ q, q < 7 → T q = tr q := fun q hq => g2 q (fun i _ _ => by omega)
  refine ⟨⟨g1, b2, trivial⟩, _, _, rfl, NR.row ?_ b3, by rw [b3 0 (by decide), out 0 (by decide), h4, h2], by rw [h4, h2]⟩
  refine ⟨N, h1, h2, by rw [out 1 (by decide), h5, h3], by rw [out 0 (by decide)]; exact h4, fun k hk => by rw [out _ (by omega)]; exact h6 k hk, fun i hi => ?_⟩
  obtain ⟨H, w1, w2, w3, w4, w5, w6, w7, w8⟩ := h8 i hi
  obtain ⟨k1, k2, k3⟩ := g3 i (Nat.zero_le _) hi
  have e2 : tr 2 = r 0 := h6 0 (by decide)
  have e3 : tr 3 = r 1 := h6 1 (by decide)
  have oth : ∀ k, 3 ≤ k → k < 24 → T (7 + 24 * i + k) = tr (7 + 24 * i + k) := fun k hk1 hk2 => g2 _ (fun j _ _ => by omega)
  rw [hW i hi]
  have q0 : (f_X3_begin (W0 i) r) 0 = r 0 := by unfold f_X3_begin; simp +decide only [upd, ↓reduceIte]
  have q1 : (f_X3_begin (W0 i) r) 1 = r 1 := by unfold f_X3_begin; simp +decide only [upd, ↓reduceIte]
  have q2 : (f_X3_begin (W0 i) r) 2 = if r 0 = r 1 then 1 else 0 := by
    unfold f_X3_begin
    rw [isN]
    simp +decide only [upd, ↓reduceIte]
  have q3 : ∀ k, 3 ≤ k → k < 10 → (f_X3_begin (W0 i) r) k = 0 := fun k hk1 hk2 => by
    have : k = 3 ∨ k = 4 ∨ k = 5 ∨ k = 6 ∨ k = 7 ∨ k = 8 ∨ k = 9 := by omega
    unfold f_X3_begin
    rcases this with e | e | e | e | e | e | e <;> subst e <;> simp +decide only [upd, ↓reduceIte]
  have q10 : (f_X3_begin (W0 i) r) 10 = W0 i 10 := by unfold f_X3_begin; simp +decide only [upd, ↓reduceIte]
  have q11 : (f_X3_begin (W0 i) r) 11 = W0 i 11 := by unfold f_X3_begin; simp +decide only [upd, ↓reduceIte]
  have q24 : (f_X3_begin (W0 i) r) 24 = W0 i 24 := by unfold f_X3_begin; simp +decide only [upd, ↓reduceIte]
  refine ⟨H, w1, ⟨fun k hk => ?_, by rw [q24]; exact w2, by rw [q11]; exact w3, fun hh hk => ?_, fun hh hk => ?_⟩, ?_⟩
  · by_cases c0 : k = 0
    · subst c0; rw [q0, ← e2]; exact k1
    · by_cases c1 : k = 1
      · subst c1; rw [q1, ← e3, show 7 + 24 * i + 1 = 8 + 24 * i by omega]; exact k2
      · by_cases c2 : k = 2
        · subst c2; rw [q2, ← e2, ← e3, show 7 + 24 * i + 2 = 9 + 24 * i by omega]; exact k3
        · rw [oth k (by omega) (by omega)]
          by_cases c3 : k < 10
          · rw [q3 k (by omega) c3]; exact w8 k c3
          · by_cases c4 : k = 10
            · subst c4; rw [q10]; exact w5.symm
            · have : k = 11 := by omega
              subst this
              rw [q11, w3]; exact w4
  · have := oth (12 + hh) (by omega) (by omega)
    rw [show 19 + 24 * i + hh = 7 + 24 * i + (12 + hh) by omega, this, show 7 + 24 * i + (12 + hh) = 19 + 24 * i + hh by omega]
    exact w6 hh hk
  · have := oth (18 + hh) (by omega) (by omega)
    rw [show 25 + 24 * i + hh = 7 + 24 * i + (18 + hh) by omega, this, show 7 + 24 * i + (18 + hh) = 25 + 24 * i + hh by omega]
    exact w7 hh hk
  · obtain ⟨z1, z2, z3, z4, z5, z6⟩ := h7
    unfold WI
    rw [q0, q1, q2, q3 3 (by decide) (by decide), q3 4 (by decide) (by decide), q3 5 (by decide) (by decide), z0]
    have hs : 0 ≤ (if r 0 = r 1 then (1 : Int32) else 0).toInt ∧ (if r 0 = r 1 then (1 : Int32) else 0).toInt ≤ 1 := by
      by_cases d : r 0 = r 1
      · rw [if_pos d]; decide
      · rw [if_neg d]; decide
    exact ⟨by omega, by omega, by omega, by omega, by omega, by omega, by omega, by omega, by omega, by omega, by omega, by omega, hs.1, hs.2⟩
