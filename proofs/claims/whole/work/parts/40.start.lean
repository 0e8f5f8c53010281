/-! PURE. Part 40: the start -/
def cF (j : Nat) : Nat := (wd 0).getD j 0
theorem cF_b : ∀ j, j < 87 → 32 ≤ cF j ∧ cF j ≤ 126 := by decide +kernel
theorem vp_narC {q : Nat} (h : q < 65536) : vp_nar .char (nI q) = nI q := by
  unfold vp_nar
  rw [(pk_charN h).1]
theorem textL {s x lf r t dr dt : Nat → Int32} {W LF KF DW DL DK : Nat → Nat → Int32} : ∀ (k v fuel : Nat) (g1 g2 : Nat → Int32), v + k = 87 → k < fuel → g1 0 = nI v → (∀ j, j < v → g2 j = nI (cF j)) → q_X4_init_95 fuel s x lf r t W LF KF dr dt DW DL DK (nI v) g1 g2 ∧ ∃ x' lf', l_X4_init_95 fuel s x lf r t W LF KF dr dt DW DL DK (nI v) g1 g2 = (nI 87, x', lf') ∧ x' 0 = nI 87 ∧ ∀ j, j < 87 → lf' j = nI (cF j) := by
  obtain ⟨s1, s2⟩ := wd_len 0 (by decide)
  have s3 : (wd 0).length = 87 := by decide +kernel
  rw [s3] at s1 s2
  intro k
  induction k with
  | zero =>
    intro v fuel g1 g2 e hf h0 hj
    obtain ⟨f, rfl⟩ : ∃ f, fuel = f + 1 := ⟨fuel - 1, by omega⟩
    have ev : v = 87 := by omega
    subst ev
    have c : sLen 0 ≤ nI 87 := by rw [s1]; exact nI_le (Nat.le_refl _) (by decide)
    rw [l_X4_init_95, q_X4_init_95, if_pos c]
    exact ⟨⟨by decide, fun _ => trivial, fun z => absurd c z⟩, g1, g2, rfl, h0, hj⟩
  | succ k ih =>
    intro v fuel g1 g2 e hf h0 hj
    obtain ⟨f, rfl⟩ : ∃ f, fuel = f + 1 := ⟨fuel - 1, by omega⟩
    have c : ¬ (sLen 0 ≤ nI v) := by rw [s1]; exact nI_ge (by omega) (by decide)
    have ch : sCh 0 (nI v) = nI (cF v) := wd_ch 0 (by decide) v (by rw [s3]; omega)
    have cb := cF_b v (by omega)
    have e2 : ¬ ((240 : Int32) ≤ nI v) := nI_ge (b := 240) (by omega) (by decide)
    have hc : (nI v).toNatClampNeg = v := nI_clamp (by omega)
    have hv : vp_in (nI v) 240 := vp_in_nI (by omega) (by decide)
    have hv2 : vp_in (nI v) (xLen.getD 0 0) := by rw [s2]; exact vp_in_nI (by omega) (by decide)
    have ea : f_X2_append g1 g2 (nI (cF v)) = (upd g1 0 (nI (v + 1)), upd g2 v (nI (cF v))) := by
      unfold f_X2_append g_X2_append_7
      rw [h0, if_neg e2, hc, vp_narC (by omega), nI_1]
    have pa : p_X2_append g1 g2 (nI (cF v)) := by
      unfold p_X2_append h_X2_append_7
      rw [h0]
      exact ⟨⟨fun _ => trivial, fun _ => ⟨hv, trivial⟩⟩, trivial⟩
    obtain ⟨i1, i2⟩ := ih (v + 1) f (upd g1 0 (nI (v + 1))) (upd g2 v (nI (cF v))) (by omega) (by omega) upd_s (fun j hjj => by
      by_cases q : j = v
      · subst q; exact upd_s
      · rw [upd_o q]; exact hj j (by omega))
    rw [l_X4_init_95, q_X4_init_95, if_neg c, ch, ea, nI_1]
    exact ⟨⟨by decide, fun z => absurd z c, fun _ => ⟨⟨by decide, hv2⟩, pa, i1⟩⟩, i2⟩
theorem sOne {c : Nat → Nat} {n p q v f : Nat} {x lf r0 t0 x0 r t r' t' : Nat → Int32} {W0 LF0 KF0 W LF KF W' LF' KF' : Nat → Nat → Int32} {a : Int32} (h : TX c n lf) (hx : x 0 = nI n) (hp : p < n) (hv : v ≤ p) (hf : f_X0_readItem r t W LF KF (upd x 1 (nI p)) lf = (a, r', t', W', LF', KF', upd x 1 (nI q))) (ha : ¬ (a = 0)) (hs : sg c n q 59) : l_X0_read_24 (f + 1) r0 t0 W0 LF0 KF0 x0 lf r t (upd x 1 (nI p)) (nI v) W LF KF = l_X0_read_24 f r0 t0 W0 LF0 KF0 x0 lf r' t' (upd x 1 (nI (q + 1))) (nI (v + 1)) W' LF' KF' := by
  have h240 := h.1
  have x0' : (upd x 1 (nI p)) 0 = nI n := by rw [upd_o (by decide)]; exact hx
  have x1' : (upd x 1 (nI p)) 1 = nI p := upd_s
  have c1 : ¬ (nI n ≤ nI p) := nI_ge hp (by omega)
  have c2 : ¬ ((240 : Int32) ≤ nI v) := nI_ge (b := 240) (by omega) (by decide)
  have k2 : f_X2_take (upd x 1 (nI q)) lf 17 = (1, upd x 1 (nI (q + 1))) := takeC1 h hx (si := 17) (by decide) (by have := hs.1; omega) (sg_mt.mpr hs)
  rw [l_X0_read_24, x0', x1', hf, if_neg c1, if_neg c2]
  simp only
  rw [if_neg ha, k2, if_neg n10, nI_1]
theorem sWay {c : Nat → Nat} {n p v f N : Nat} {x lf r0 t0 x0 r t m tr : Nat → Int32} {W0 LF0 KF0 W LF KF : Nat → Nat → Int32} (h : TX c n lf) (hx : x 0 = nI n) (hv : v ≤ p) (hD : DR N r t W LF KF tr) (hN : N < 4) (hm : mt c n p (wd 1)) (hs : sg c n (p + 3) 59) : ∃ t' W' tr', l_X0_read_24 (f + 1) r0 t0 W0 LF0 KF0 x0 lf r t (upd x 1 (nI p)) (nI v) W LF KF = l_X0_read_24 f r0 t0 W0 LF0 KF0 x0 lf r t' (upd x 1 (nI (p + 4))) (nI (v + 1)) W' LF KF ∧ (f_X5_addsWay m tr).2 = tr' ∧ DR (N + 1) r t' W' LF KF tr' ∧ tr' (7 + 24 * (N + 1 - 1) + 11) = nI 0 := by
  have hp : p < n := by have := hs.1; omega
  have e0 := takeC1 h hx (si := 1) (by decide) (by omega) hm
  rcases (addWayR (m := m) hD).2 with ⟨t', W', tr', k1, k2, k3, k4⟩ | ⟨k1, k2⟩
  · refine ⟨t', W', tr', sOne (q := p + 3) h hx hp hv ((cI_way e0).trans ?_) n10 hs, by rw [k2], k4, ?_⟩
    · rw [k1]; rfl
    · have e := k2
      unfold f_X5_addsWay at e
      have e' := congrArg Prod.snd e
      simp only at e'
      rw [← e', upd_o (by omega), show N + 1 - 1 = N by omega]
      exact hD.2.2.2.2.2.2.2.2 N (Nat.le_refl _) hN 11 (by decide)
  · exfalso
    unfold f_X0_addWay at k1
    have c4 : nI N < (4 : Int32) := nI_lt (b := 4) hN (by decide)
    rw [hD.2.1, if_pos c4] at k1
    exact n10 (congrArg Prod.fst k1)
theorem addHopS {N H : Nat} {r t tr m : Nat → Int32} {W LF KF : Nat → Nat → Int32} {l k : Int32} (h : DR N r t W LF KF tr) (hN : 0 < N) (hk : ¬ (k = -4)) (h0 : tr (7 + 24 * (N - 1) + 11) = nI H) (hH : H < 6) : p_X5_addsHop m tr l k ∧ ∃ W' LF' KF' tr', g_X0_readHop_42 t W LF KF k l = (1, W', LF', KF') ∧ f_X5_addsHop m tr l k = (1, tr') ∧ DR N r t W' LF' KF' tr' ∧ tr' (7 + 24 * (N - 1) + 11) = nI (H + 1) := by
  have hN4 := h.1
  have hi : N - 1 < 4 := by omega
  have er : tr 0 - (1 : Int32) = nI (N - 1) := by rw [h.2.2.2.1]; exact i_pred hN
  have a2 : ¬ (nI H = (6 : Int32)) := fun z => by have := (nI_eq (b := 6) (by omega) (by decide)).mp z; omega
  have e12 : (12 : Int32) + nI H = nI (12 + H) := nI_add 12 H
  have e18 : (18 : Int32) + nI H = nI (18 + H) := nI_add 18 H
  have key : (f_X5_addsHop m tr l k).1 = 1 ∧ (f_X5_addsHop m tr l k).2 (7 + 24 * (N - 1) + 11) = nI (H + 1) := by
    unfold f_X5_addsHop
    rw [er, a11 hi, h0, if_neg (nI_pos (by omega)), if_neg a2, e12, e18, at_cl hi (by omega), at_cl hi (by omega), upd_o (by omega), upd_o (by omega), h0, nI_1]
    exact ⟨rfl, upd_s⟩
  obtain ⟨_, y1, y2⟩ := addHopR (m := m) (l := l) h hN hk
  refine ⟨y1, ?_⟩
  rcases y2 with ⟨W', L', K', tr', z1, z2, z3⟩ | ⟨W', L', K', z1, z2⟩
  · refine ⟨W', L', K', tr', z1, z2, z3, ?_⟩
    have := key.2
    rw [z2] at this
    exact this
  · exfalso
    have := key.1
    rw [z2] at this
    exact n10 this.symm
theorem sHop {c : Nat → Nat} {n p v f N H D q l0 : Nat} {x lf r0 t0 x0 r t m tr : Nat → Int32} {W0 LF0 KF0 W LF KF : Nat → Nat → Int32} {k : Int32} (h : TX c n lf) (hx : x 0 = nI n) (hv : v ≤ p) (hD : DR N r t W LF KF tr) (hN : 0 < N) (h0 : tr (7 + 24 * (N - 1) + 11) = nI H) (hH : H < 6) (hm0 : ¬ mt c n p (wd 1)) (hm : mt c n p (wd 2)) (hdg : dg c n 4 (p + 4) 0 = (D, l0)) (hl : 20 ≤ l0 ∧ l0 ≤ 999 ∧ p + 4 < D ∧ D < n) (hm3 : mt c n D (wd 3)) (hk : f_X2_takeKind (upd x 1 (nI (D + 1))) lf = (k, upd x 1 (nI q))) (hk4 : ¬ (k = -4)) (hs : sg c n q 59) : p_X5_addsHop m tr (nI l0) k ∧ ∃ W' LF' KF' tr', l_X0_read_24 (f + 1) r0 t0 W0 LF0 KF0 x0 lf r t (upd x 1 (nI p)) (nI v) W LF KF = l_X0_read_24 f r0 t0 W0 LF0 KF0 x0 lf r t (upd x 1 (nI (q + 1))) (nI (v + 1)) W' LF' KF' ∧ (f_X5_addsHop m tr (nI l0) k).2 = tr' ∧ DR N r t W' LF' KF' tr' ∧ tr' (7 + 24 * (N - 1) + 11) = nI (H + 1) := by
  have hp : p < n := by omega
  have hN4 := hD.1
  have e0 := takeC0 h hx (si := 1) (by decide) (by omega) hm0
  have e1 : f_X2_take (upd x 1 (nI p)) lf 2 = (1, upd x 1 (nI (p + 4))) := takeC1 h hx (si := 2) (by decide) (by omega) hm
  have e2 : f_X2_takeNumber (upd x 1 (nI (p + 4))) lf (20 : Int32) (999 : Int32) = (nv (p + 4) (dg c n 4 (p + 4) 0) 20 999, upd x 1 (nI (dg c n 4 (p + 4) 0).1)) := (takeNumberC (lo := 20) (hi := 999) h hx (by omega) (by decide) (by decide)).2
  have env : nv (p + 4) (D, l0) 20 999 = nI l0 := by
    unfold nv
    rw [if_neg (show ¬ (D ≤ p + 4) by omega)]
    exact if_neg (show ¬ (l0 < 20 ∨ 999 < l0) by omega)
  rw [hdg, env] at e2
  have e3 : f_X2_take (upd x 1 (nI D)) lf 3 = (1, upd x 1 (nI (D + 1))) := takeC1 h hx (si := 3) (by decide) (by omega) hm3
  have t0 : ¬ (t 0 = 0) := by rw [hD.2.1]; exact nI_ne0 (by omega) (by omega)
  have n4 : ¬ (nI l0 = (-4 : Int32)) := nI_ne4 _ (by omega)
  obtain ⟨u, W', LF', KF', tr', z1, z2, z3, z4⟩ := addHopS (m := m) (l := nI l0) hD hN hk4 h0 hH
  have e4 := f_X0_readHop_e (r := r) (t := t) (W := W) (LF := LF) (KF := KF) (R0 := (nI l0, upd x 1 (nI D))) (R1 := (1, upd x 1 (nI (D + 1)))) (R2 := (k, upd x 1 (nI q))) e2 e3 hk
  simp only [z1] at e4
  rw [if_neg t0, if_neg n4, if_neg n10] at e4
  refine ⟨u, W', LF', KF', tr', sOne (q := q) h hx hp hv ((cI_hop e0 e1).trans ?_) n10 hs, by rw [z2], z3, z4⟩
  rw [e4]
theorem sLoss {c : Nat → Nat} {n p v f N D l0 : Nat} {x lf r0 t0 x0 r t tr : Nat → Int32} {W0 LF0 KF0 W LF KF : Nat → Nat → Int32} (h : TX c n lf) (hx : x 0 = nI n) (hv : v ≤ p) (hD : DR N r t W LF KF tr) (hN : 0 < N) (hm0 : ¬ mt c n p (wd 1)) (hm2 : ¬ mt c n p (wd 2)) (hm : mt c n p (wd 8)) (hdg : dg c n 4 (p + 5) 0 = (D, l0)) (hl : l0 ≤ 99 ∧ p + 5 < D ∧ D < n) (hs : sg c n D 59) : ∃ W', l_X0_read_24 (f + 1) r0 t0 W0 LF0 KF0 x0 lf r t (upd x 1 (nI p)) (nI v) W LF KF = l_X0_read_24 f r0 t0 W0 LF0 KF0 x0 lf r t (upd x 1 (nI (D + 1))) (nI (v + 1)) W' LF KF ∧ DR N r t W' LF KF (upd tr (7 + 24 * (N - 1) + 10) (nI l0)) := by
  have hp : p < n := by omega
  have hN4 := hD.1
  have e0 := takeC0 h hx (si := 1) (by decide) (by omega) hm0
  have e1 := takeC0 h hx (si := 2) (by decide) (by omega) hm2
  have e2 : f_X2_take (upd x 1 (nI p)) lf 8 = (1, upd x 1 (nI (p + 5))) := takeC1 h hx (si := 8) (by decide) (by omega) hm
  have e3 : f_X2_takeNumber (upd x 1 (nI (p + 5))) lf (0 : Int32) (99 : Int32) = (nv (p + 5) (dg c n 4 (p + 5) 0) 0 99, upd x 1 (nI (dg c n 4 (p + 5) 0).1)) := (takeNumberC (lo := 0) (hi := 99) h hx (by omega) (by decide) (by decide)).2
  have env : nv (p + 5) (D, l0) 0 99 = nI l0 := by
    unfold nv
    rw [if_neg (show ¬ (D ≤ p + 5) by omega)]
    exact if_neg (show ¬ (l0 < 0 ∨ 99 < l0) by omega)
  rw [hdg, env] at e3
  have t0 : ¬ (t 0 = 0) := by rw [hD.2.1]; exact nI_ne0 (by omega) (by omega)
  have n4 : ¬ (nI l0 = (-4 : Int32)) := nI_ne4 _ (by omega)
  have et : t 0 - (1 : Int32) = nI (N - 1) := by rw [hD.2.1]; exact i_pred hN
  have hc : (nI (N - 1)).toNatClampNeg = N - 1 := nI_clamp (by omega)
  have e4 : f_X0_readLoss r t W LF KF (upd x 1 (nI (p + 5))) lf = (1, va_up W (N - 1) (upd (W (N - 1)) 10 (nI l0)), upd x 1 (nI D)) := by
    unfold f_X0_readLoss
    rw [e3, if_neg t0, et, hc]
    exact if_neg n4
  refine ⟨_, sOne (q := D) h hx hp hv ((cI_loss e0 e1 e2).trans ?_) n10 hs, lossR hD hN⟩
  rw [e4]
theorem sEnd {c : Nat → Nat} {n v f N : Nat} {x lf r0 t0 x0 r t tr : Nat → Int32} {W0 LF0 KF0 W LF KF : Nat → Nat → Int32} (h : TX c n lf) (hx : x 0 = nI n) (hD : DR N r t W LF KF tr) : ∃ W', l_X0_read_24 (f + 1) r0 t0 W0 LF0 KF0 x0 lf r t (upd x 1 (nI n)) (nI v) W LF KF = (-4, r, t, W', LF, KF, upd x 1 (nI n)) ∧ FIN r t W' LF KF tr := by
  have h240 := h.1
  have x0' : (upd x 1 (nI n)) 0 = nI n := by rw [upd_o (by decide)]; exact hx
  have x1' : (upd x 1 (nI n)) 1 = nI n := upd_s
  have c1 : nI n ≤ nI n := nI_le (Nat.le_refl _) (by omega)
  obtain ⟨W', g1, g2, g3, g4⟩ := beginW (r0 := r0) (t0 := t0) (x0 := x0) (lf := lf) (W0 := W0) (LF0 := LF0) (KF0 := KF0) (xr := r) (xt := t) (xx := upd x 1 (nI n)) (XL := LF) (XK := KF) hD.1 hD.2.1 N 0 xK W (by omega) (by have := hD.1; unfold xK; omega)
  rw [nI_0] at g2
  refine ⟨W', ?_, N, W, hD, fun i hi => g3 i (Nat.zero_le _) hi⟩
  rw [l_X0_read_24, x0', x1', g2, if_pos c1]
  by_cases z : (240 : Int32) ≤ nI v
  · rw [if_pos z]
  · rw [if_neg z]
theorem f_X4_init_e {s x lf r t dr dt : Nat → Int32} {W LF KF DW DL DK : Nat → Nat → Int32} {T : Int32 × (Nat → Int32) × (Nat → Int32)} {R : Int32 × (Nat → Int32) × (Nat → Int32) × (Nat → Nat → Int32) × (Nat → Nat → Int32) × (Nat → Nat → Int32) × (Nat → Int32)} (e0 : l_X4_init_95 xK s x lf r t W LF KF dr dt DW DL DK (0 : Int32) x lf = T) (e1 : f_X0_read dr dt DW DL DK T.2.1 T.2.2 = R) : f_X4_init s x lf r t W LF KF dr dt DW DL DK = (upd R.2.2.2.2.2.2 0 (0 : Int32), T.2.2, (f_X0_copy r t W LF KF R.2.1 R.2.2.1 R.2.2.2.1 R.2.2.2.2.1 R.2.2.2.2.2.1).1, (f_X0_copy r t W LF KF R.2.1 R.2.2.1 R.2.2.2.1 R.2.2.2.2.1 R.2.2.2.2.2.1).2.1, (f_X0_copy r t W LF KF R.2.1 R.2.2.1 R.2.2.2.1 R.2.2.2.2.1 R.2.2.2.2.2.1).2.2.1, (f_X0_copy r t W LF KF R.2.1 R.2.2.1 R.2.2.2.1 R.2.2.2.2.1 R.2.2.2.2.2.1).2.2.2.1, (f_X0_copy r t W LF KF R.2.1 R.2.2.1 R.2.2.2.1 R.2.2.2.2.1 R.2.2.2.2.2.1).2.2.2.2, R.2.1, R.2.2.1, R.2.2.2.1, R.2.2.2.2.1, R.2.2.2.2.2.1) := by
  subst e0
  subst e1
  rfl
theorem p_X4_init_e {s x lf r t dr dt : Nat → Int32} {W LF KF DW DL DK : Nat → Nat → Int32} {T : Int32 × (Nat → Int32) × (Nat → Int32)} {R : Int32 × (Nat → Int32) × (Nat → Int32) × (Nat → Nat → Int32) × (Nat → Nat → Int32) × (Nat → Nat → Int32) × (Nat → Int32)} (e0 : l_X4_init_95 xK s x lf r t W LF KF dr dt DW DL DK (0 : Int32) x lf = T) (e1 : f_X0_read dr dt DW DL DK T.2.1 T.2.2 = R) (u0 : q_X4_init_95 xK s x lf r t W LF KF dr dt DW DL DK (0 : Int32) x lf) (u1 : p_X0_read dr dt DW DL DK T.2.1 T.2.2) (u2 : p_X0_copy r t W LF KF R.2.1 R.2.2.1 R.2.2.2.1 R.2.2.2.2.1 R.2.2.2.2.2.1) : p_X4_init s x lf r t W LF KF dr dt DW DL DK := by
  subst e0
  subst e1
  exact ⟨u0, u1, u2, trivial⟩
theorem startX {x lf dr dt m tr tn : Nat → Int32} {DW DL DK : Nat → Nat → Int32} (h : TX cF 87 lf) (hx : x 0 = nI 87) : p_X5_init m tn tr ∧ ∃ r' t' W' LF' KF' tn' tr', f_X0_read dr dt DW DL DK x lf = (-4, r', t', W', LF', KF', upd x 1 (nI 87)) ∧ f_X5_init m tn tr = (upd m 0 (0 : Int32), tn', tr') ∧ NR r' t' W' LF' KF' tn' := by
  obtain ⟨u, hD0⟩ := DR0 (m := m) (tr := tr) (r := dr) (t := dt) (W := DW) (LF := DL) (KF := DK)
  obtain ⟨t1, W1, tr1, E1, F1, hD1, H1⟩ := sWay (r0 := dr) (t0 := dt) (x0 := x) (W0 := DW) (LF0 := DL) (KF0 := DK) (f := 2999) (v := 0) (p := 0) (m := m) h hx (by decide) hD0 (by decide) (by unfold mt; decide +kernel) (by unfold sg; decide +kernel)
  have k2 : f_X2_takeKind (upd x 1 (nI 12)) lf = (0, upd x 1 (nI 16)) := kindR_c0 (takeC1 h hx (si := 4) (p := 12) (by decide) (by decide) (by unfold mt; decide +kernel))
  obtain ⟨u2, W2, L2, K2, tr2, E2, F2, hD2, H2⟩ := sHop (r0 := dr) (t0 := dt) (x0 := x) (W0 := DW) (LF0 := DL) (KF0 := DK) (f := 2998) (v := 1) (p := 4) (m := m) (H := 0) (D := 11) (q := 16) (l0 := 700) h hx (by decide) hD1 (by decide) H1 (by decide) (by unfold mt; decide +kernel) (by unfold mt; decide +kernel) (by decide +kernel) (by decide) (by unfold mt; decide +kernel) k2 (by decide) (by unfold sg; decide +kernel)
  have k3 : f_X2_takeKind (upd x 1 (nI 25)) lf = (3, upd x 1 (nI 31)) := kindR_c3 (takeC0 h hx (si := 4) (p := 25) (by decide) (by decide) (by unfold mt; decide +kernel)) (takeC0 h hx (si := 5) (p := 25) (by decide) (by decide) (by unfold mt; decide +kernel)) (takeC0 h hx (si := 6) (p := 25) (by decide) (by decide) (by unfold mt; decide +kernel)) (takeC1 h hx (si := 7) (p := 25) (by decide) (by decide) (by unfold mt; decide +kernel))
  obtain ⟨u3, W3, L3, K3, tr3, E3, F3, hD3, H3⟩ := sHop (r0 := dr) (t0 := dt) (x0 := x) (W0 := DW) (LF0 := DL) (KF0 := DK) (f := 2997) (v := 2) (p := 17) (m := m) (H := 1) (D := 24) (q := 31) (l0 := 333) h hx (by decide) hD2 (by decide) H2 (by decide) (by unfold mt; decide +kernel) (by unfold mt; decide +kernel) (by decide +kernel) (by decide) (by unfold mt; decide +kernel) k3 (by decide) (by unfold sg; decide +kernel)
  obtain ⟨t4, W4, tr4, E4, F4, hD4, H4⟩ := sWay (r0 := dr) (t0 := dt) (x0 := x) (W0 := DW) (LF0 := DL) (KF0 := DK) (f := 2996) (v := 3) (p := 32) (m := m) h hx (by decide) hD3 (by decide) (by unfold mt; decide +kernel) (by unfold sg; decide +kernel)
  have k5 : f_X2_takeKind (upd x 1 (nI 44)) lf = (1, upd x 1 (nI 49)) := kindR_c1 (takeC0 h hx (si := 4) (p := 44) (by decide) (by decide) (by unfold mt; decide +kernel)) (takeC1 h hx (si := 5) (p := 44) (by decide) (by decide) (by unfold mt; decide +kernel))
  obtain ⟨u5, W5, L5, K5, tr5, E5, F5, hD5, H5⟩ := sHop (r0 := dr) (t0 := dt) (x0 := x) (W0 := DW) (LF0 := DL) (KF0 := DK) (f := 2995) (v := 4) (p := 36) (m := m) (H := 0) (D := 43) (q := 49) (l0 := 500) h hx (by decide) hD4 (by decide) H4 (by decide) (by unfold mt; decide +kernel) (by unfold mt; decide +kernel) (by decide +kernel) (by decide) (by unfold mt; decide +kernel) k5 (by decide) (by unfold sg; decide +kernel)
  have k6 : f_X2_takeKind (upd x 1 (nI 58)) lf = (0, upd x 1 (nI 62)) := kindR_c0 (takeC1 h hx (si := 4) (p := 58) (by decide) (by decide) (by unfold mt; decide +kernel))
  obtain ⟨u6, W6, L6, K6, tr6, E6, F6, hD6, H6⟩ := sHop (r0 := dr) (t0 := dt) (x0 := x) (W0 := DW) (LF0 := DL) (KF0 := DK) (f := 2994) (v := 5) (p := 50) (m := m) (H := 1) (D := 57) (q := 62) (l0 := 900) h hx (by decide) hD5 (by decide) H5 (by decide) (by unfold mt; decide +kernel) (by unfold mt; decide +kernel) (by decide +kernel) (by decide) (by unfold mt; decide +kernel) k6 (by decide) (by unfold sg; decide +kernel)
  obtain ⟨W7, E7, hD7⟩ := sLoss (r0 := dr) (t0 := dt) (x0 := x) (W0 := DW) (LF0 := DL) (KF0 := DK) (f := 2993) (v := 6) (p := 63) (D := 70) (l0 := 10) h hx (by decide) hD6 (by decide) (by unfold mt; decide +kernel) (by unfold mt; decide +kernel) (by unfold mt; decide +kernel) (by decide +kernel) (by decide) (by unfold sg; decide +kernel)
  obtain ⟨t8, W8, tr8, E8, F8, hD8, H8⟩ := sWay (r0 := dr) (t0 := dt) (x0 := x) (W0 := DW) (LF0 := DL) (KF0 := DK) (f := 2992) (v := 7) (p := 71) (m := m) h hx (by decide) hD7 (by decide) (by unfold mt; decide +kernel) (by unfold sg; decide +kernel)
  have k9 : f_X2_takeKind (upd x 1 (nI 83)) lf = (2, upd x 1 (nI 86)) := kindR_c2 (takeC0 h hx (si := 4) (p := 83) (by decide) (by decide) (by unfold mt; decide +kernel)) (takeC0 h hx (si := 5) (p := 83) (by decide) (by decide) (by unfold mt; decide +kernel)) (takeC1 h hx (si := 6) (p := 83) (by decide) (by decide) (by unfold mt; decide +kernel))
  obtain ⟨u9, W9, L9, K9, tr9, E9, F9, hD9, H9⟩ := sHop (r0 := dr) (t0 := dt) (x0 := x) (W0 := DW) (LF0 := DL) (KF0 := DK) (f := 2991) (v := 8) (p := 75) (m := m) (H := 0) (D := 82) (q := 86) (l0 := 640) h hx (by decide) hD8 (by decide) H8 (by decide) (by unfold mt; decide +kernel) (by unfold mt; decide +kernel) (by decide +kernel) (by decide) (by unfold mt; decide +kernel) k9 (by decide) (by unfold sg; decide +kernel)
  obtain ⟨W', EE, hF⟩ := sEnd (r0 := dr) (t0 := dt) (x0 := x) (W0 := DW) (LF0 := DL) (KF0 := DK) (f := 2990) (v := 9) h hx hD9
  obtain ⟨v1, tn', tr', v2, v3, v4, v5⟩ := takesR (m := m) (tn := tn) hF
  have ER : f_X0_read dr dt DW DL DK x lf = _ := (((((((((E1.trans E2).trans E3).trans E4).trans E5).trans E6).trans E7).trans E8).trans E9).trans EE)
  have e10 : (f_X5_at (1 : Int32) (10 : Int32)).toNatClampNeg = 7 + 24 * (2 - 1) + 10 := by decide +kernel
  have v10 : vp_in (f_X5_at (1 : Int32) (10 : Int32)) 103 := ai (i := 1) (k := 10) (by decide) (by decide) rfl
  subst F1 F2 F3 F4 F5 F6 F8 F9
  refine ⟨⟨u, u2, u3, u5, u6, v10, ?_, ?_, trivial⟩, _, _, _, _, _, tn', tr', ER, ?_, v3⟩
  · rw [e10]; exact u9
  · rw [e10]; exact v1
  · unfold f_X5_init
    rw [e10]
    exact (congrArg (fun z => (z.1, z.2.1, z.2.2)) v2)
theorem start_p5 : p_X5_init (fun _ => 0) (fun _ => 0) (fun _ => 0) := (startX (x := upd (fun _ => 0) 0 (nI 87)) (lf := fun j => nI (cF j)) (dr := fun _ => 0) (dt := fun _ => 0) (DW := fun _ _ => 0) (DL := fun _ _ => 0) (DK := fun _ _ => 0) ⟨by decide, fun j hj => ⟨rfl, cF_b j hj⟩⟩ upd_s).1
theorem start_I : p_X4_init (fun _ => 0) (fun _ => 0) (fun _ => 0) (fun _ => 0) (fun _ => 0) (fun _ _ => 0) (fun _ _ => 0) (fun _ _ => 0) (fun _ => 0) (fun _ => 0) (fun _ _ => 0) (fun _ _ => 0) (fun _ _ => 0) ∧ gInv (fun _ => 0) (f_X4_init (fun _ => 0) (fun _ => 0) (fun _ => 0) (fun _ => 0) (fun _ => 0) (fun _ _ => 0) (fun _ _ => 0) (fun _ _ => 0) (fun _ => 0) (fun _ => 0) (fun _ _ => 0) (fun _ _ => 0) (fun _ _ => 0)).1 (f_X4_init (fun _ => 0) (fun _ => 0) (fun _ => 0) (fun _ => 0) (fun _ => 0) (fun _ _ => 0) (fun _ _ => 0) (fun _ _ => 0) (fun _ => 0) (fun _ => 0) (fun _ _ => 0) (fun _ _ => 0) (fun _ _ => 0)).2.1 (f_X4_init (fun _ => 0) (fun _ => 0) (fun _ => 0) (fun _ => 0) (fun _ => 0) (fun _ _ => 0) (fun _ _ => 0) (fun _ _ => 0) (fun _ => 0) (fun _ => 0) (fun _ _ => 0) (fun _ _ => 0) (fun _ _ => 0)).2.2.1 (f_X4_init (fun _ => 0) (fun _ => 0) (fun _ => 0) (fun _ => 0) (fun _ => 0) (fun _ _ => 0) (fun _ _ => 0) (fun _ _ => 0) (fun _ => 0) (fun _ => 0) (fun _ _ => 0) (fun _ _ => 0) (fun _ _ => 0)).2.2.2.1 (f_X4_init (fun _ => 0) (fun _ => 0) (fun _ => 0) (fun _ => 0) (fun _ => 0) (fun _ _ => 0) (fun _ _ => 0) (fun _ _ => 0) (fun _ => 0) (fun _ => 0) (fun _ _ => 0) (fun _ _ => 0) (fun _ _ => 0)).2.2.2.2.1 (f_X4_init (fun _ => 0) (fun _ => 0) (fun _ => 0) (fun _ => 0) (fun _ => 0) (fun _ _ => 0) (fun _ _ => 0) (fun _ _ => 0) (fun _ => 0) (fun _ => 0) (fun _ _ => 0) (fun _ _ => 0) (fun _ _ => 0)).2.2.2.2.2.1 (f_X4_init (fun _ => 0) (fun _ => 0) (fun _ => 0) (fun _ => 0) (fun _ => 0) (fun _ _ => 0) (fun _ _ => 0) (fun _ _ => 0) (fun _ => 0) (fun _ => 0) (fun _ _ => 0) (fun _ _ => 0) (fun _ _ => 0)).2.2.2.2.2.2.1 (f_X4_init (fun _ => 0) (fun _ => 0) (fun _ => 0) (fun _ => 0) (fun _ => 0) (fun _ _ => 0) (fun _ _ => 0) (fun _ _ => 0) (fun _ => 0) (fun _ => 0) (fun _ _ => 0) (fun _ _ => 0) (fun _ _ => 0)).2.2.2.2.2.2.2.1 (f_X4_init (fun _ => 0) (fun _ => 0) (fun _ => 0) (fun _ => 0) (fun _ => 0) (fun _ _ => 0) (fun _ _ => 0) (fun _ _ => 0) (fun _ => 0) (fun _ => 0) (fun _ _ => 0) (fun _ _ => 0) (fun _ _ => 0)).2.2.2.2.2.2.2.2.1 (f_X4_init (fun _ => 0) (fun _ => 0) (fun _ => 0) (fun _ => 0) (fun _ => 0) (fun _ _ => 0) (fun _ _ => 0) (fun _ _ => 0) (fun _ => 0) (fun _ => 0) (fun _ _ => 0) (fun _ _ => 0) (fun _ _ => 0)).2.2.2.2.2.2.2.2.2.1 (f_X4_init (fun _ => 0) (fun _ => 0) (fun _ => 0) (fun _ => 0) (fun _ => 0) (fun _ _ => 0) (fun _ _ => 0) (fun _ _ => 0) (fun _ => 0) (fun _ => 0) (fun _ _ => 0) (fun _ _ => 0) (fun _ _ => 0)).2.2.2.2.2.2.2.2.2.2.1 (f_X4_init (fun _ => 0) (fun _ => 0) (fun _ => 0) (fun _ => 0) (fun _ => 0) (fun _ _ => 0) (fun _ _ => 0) (fun _ _ => 0) (fun _ => 0) (fun _ => 0) (fun _ _ => 0) (fun _ _ => 0) (fun _ _ => 0)).2.2.2.2.2.2.2.2.2.2.2 (fun _ _ => 0) (fun _ _ => 0) (fun _ _ _ => 0) (fun _ _ _ => 0) (fun _ _ _ => 0) (fun _ => 0) (fun _ => 0) (fun _ => 0) (fun _ => 0) (f_X5_init (fun _ => 0) (fun _ => 0) (fun _ => 0)).1 (f_X5_init (fun _ => 0) (fun _ => 0) (fun _ => 0)).2.1 (f_X5_init (fun _ => 0) (fun _ => 0) (fun _ => 0)).2.2 (fun _ => 0) (fun _ => 0) (fun _ => 0) := by
  obtain ⟨q1, x1, lf1, e0, hx, hl⟩ := textL (s := (fun _ => 0)) (x := (fun _ => 0)) (lf := (fun _ => 0)) (r := (fun _ => 0)) (t := (fun _ => 0)) (dr := (fun _ => 0)) (dt := (fun _ => 0)) (W := (fun _ _ => 0)) (LF := (fun _ _ => 0)) (KF := (fun _ _ => 0)) (DW := (fun _ _ => 0)) (DL := (fun _ _ => 0)) (DK := (fun _ _ => 0)) 87 0 xK (fun _ => 0) (fun _ => 0) (by decide) (by unfold xK; decide) rfl (fun j hj => absurd hj (by omega))
  rw [nI_0] at q1 e0
  have hT : TX cF 87 lf1 := ⟨by decide, fun j hj => ⟨hl j hj, cF_b j hj⟩⟩
  obtain ⟨_, r', t', W', LF', KF', tn', tr', e1, e2, hn⟩ := startX (dr := (fun _ => 0)) (dt := (fun _ => 0)) (m := (fun _ => 0)) (tr := (fun _ => 0)) (tn := (fun _ => 0)) (DW := (fun _ _ => 0)) (DL := (fun _ _ => 0)) (DK := (fun _ _ => 0)) hT hx
  have pr := (readR (dr := (fun _ => 0)) (dt := (fun _ => 0)) (tr := (fun _ => 0)) (DW := (fun _ _ => 0)) (DL := (fun _ _ => 0)) (DK := (fun _ _ => 0)) (m := upd (fun _ => 0) 1 (nI 87)) hT hT hx upd_s).1
  obtain ⟨c1, c2⟩ := NR.copy (r := (fun _ => 0)) (t := (fun _ => 0)) (W := (fun _ _ => 0)) (LF := (fun _ _ => 0)) (KF := (fun _ _ => 0)) hn
  refine ⟨p_X4_init_e e0 e1 q1 pr c1, ?_⟩
  rw [f_X4_init_e e0 e1, e2]
  have m1 : (upd (fun _ => 0) 0 (0 : Int32)) 1 = nI 0 := rfl
  have x00 : (upd (upd x1 1 (nI 87)) 0 (0 : Int32)) 0 = nI 0 := rfl
  exact ⟨c2, ⟨0, 0, by decide, by decide, rfl, rfl, rfl, fun c hc => absurd hc (by omega)⟩, ⟨0, cF, x00, m1, ⟨by decide, fun j hj => absurd hj (by omega)⟩, ⟨by decide, fun j hj => absurd hj (by omega)⟩⟩⟩
