/-! PURE. Part 35: what stands behind an item's word, class and model -/
theorem f_X0_readHop_e {r t X lf : Nat → Int32} {W LF KF : Nat → Nat → Int32} {R0 R1 R2 : Int32 × (Nat → Int32)} (e0 : f_X2_takeNumber X lf (20 : Int32) (999 : Int32) = R0) (e1 : f_X2_take R0.2 lf 3 = R1) (e2 : f_X2_takeKind R1.2 lf = R2) : f_X0_readHop r t W LF KF X lf = (if (t 0) = 0 then ((0 : Int32), W, LF, KF, R0.2) else (if R0.1 = (-4 : Int32) then ((0 : Int32), W, LF, KF, R0.2) else (if R1.1 = 0 then ((0 : Int32), W, LF, KF, R1.2) else ((g_X0_readHop_42 t W LF KF R2.1 R0.1).1, (g_X0_readHop_42 t W LF KF R2.1 R0.1).2.1, (g_X0_readHop_42 t W LF KF R2.1 R0.1).2.2.1, (g_X0_readHop_42 t W LF KF R2.1 R0.1).2.2.2, R2.2)))) := by
  subst e0
  subst e1
  subst e2
  rfl
theorem p_X0_readHop_e {r t X lf : Nat → Int32} {W LF KF : Nat → Nat → Int32} {R0 R1 R2 : Int32 × (Nat → Int32)} (e0 : f_X2_takeNumber X lf (20 : Int32) (999 : Int32) = R0) (e1 : f_X2_take R0.2 lf 3 = R1) (e2 : f_X2_takeKind R1.2 lf = R2) (u0 : p_X2_takeNumber X lf (20 : Int32) (999 : Int32)) (u1 : p_X2_take R0.2 lf 3) (u2 : p_X2_takeKind R1.2 lf) (u3 : ¬ (t 0 = 0) → h_X0_readHop_42 t W LF KF R2.1 R0.1) : p_X0_readHop r t W LF KF X lf := by
  subst e0
  subst e1
  subst e2
  exact ⟨u0, fun _ => trivial, fun z => ⟨fun _ => trivial, fun _ => ⟨u1, fun _ => trivial, fun _ => ⟨u2, u3 z, trivial⟩⟩⟩⟩
theorem f_X5_takesHop_e {m tr tx : Nat → Int32} {R0 R1 : Int32 × (Nat → Int32)} {R2 : Int64 × (Nat → Int32)} (e0 : f_X5_takesNumber m tx (20 : Int32) (999 : Int32) = R0) (e1 : f_X5_takesSign R0.2 tx (32 : Int32) = R1) (e2 : f_X5_takesWord R1.2 tx = R2) : f_X5_takesHop m tr tx = (if R0.1 = (-4 : Int32) then ((0 : Int32), R0.2, tr) else (if R1.1 = 0 then ((0 : Int32), R1.2, tr) else ((g_X5_takesHop_88 tr (g_X5_takesHop_37 R2.1 (lg_cmp R2.1 (660876 : Int64))) R0.1 R2.2).1, R2.2, (g_X5_takesHop_88 tr (g_X5_takesHop_37 R2.1 (lg_cmp R2.1 (660876 : Int64))) R0.1 R2.2).2))) := by
  subst e0
  subst e1
  subst e2
  rfl
theorem p_X5_takesHop_e {m tr tx : Nat → Int32} {R0 R1 : Int32 × (Nat → Int32)} {R2 : Int64 × (Nat → Int32)} (e0 : f_X5_takesNumber m tx (20 : Int32) (999 : Int32) = R0) (e1 : f_X5_takesSign R0.2 tx (32 : Int32) = R1) (e2 : f_X5_takesWord R1.2 tx = R2) (u0 : p_X5_takesNumber m tx (20 : Int32) (999 : Int32)) (u1 : p_X5_takesSign R0.2 tx (32 : Int32)) (u2 : p_X5_takesWord R1.2 tx) (u3 : h_X5_takesHop_88 tr (g_X5_takesHop_37 R2.1 (lg_cmp R2.1 (660876 : Int64))) R0.1 R2.2) : p_X5_takesHop m tr tx := by
  subst e0
  subst e1
  subst e2
  exact ⟨u0, fun _ => trivial, fun _ => ⟨u1, fun _ => trivial, fun _ => ⟨u2, u3, trivial⟩⟩⟩
theorem h42_4 {t : Nat → Int32} {W LF KF : Nat → Nat → Int32} {l : Int32} : h_X0_readHop_42 t W LF KF (-4) l := ⟨fun _ => trivial, fun z => absurd rfl z⟩
theorem g42_4 {t : Nat → Int32} {W LF KF : Nat → Nat → Int32} {l : Int32} : g_X0_readHop_42 t W LF KF (-4) l = (0, W, LF, KF) := if_pos rfl
theorem h88_4 {tr o : Nat → Int32} {l : Int32} : h_X5_takesHop_88 tr (-4) l o := ⟨fun _ => trivial, fun z => absurd rfl z⟩
theorem g88_4 {tr o : Nat → Int32} {l : Int32} : g_X5_takesHop_88 tr (-4) l o = (0, tr) := if_pos rfl
theorem h88_n {tr o : Nat → Int32} {k l : Int32} (u : p_X5_addsHop o tr l k) : h_X5_takesHop_88 tr k l o := ⟨fun _ => trivial, fun _ => ⟨u, fun _ => trivial, fun _ => trivial⟩⟩
theorem g88_n {tr tr' o : Nat → Int32} {k l b : Int32} (hk : ¬ (k = -4)) (e : f_X5_addsHop o tr l k = (b, tr')) (hb : b = 0 ∨ b = 1) : g_X5_takesHop_88 tr k l o = (b, tr') := by
  unfold g_X5_takesHop_88
  rw [if_neg hk, e]
  rcases hb with z | z <;> subst z
  · exact if_pos rfl
  · exact if_neg n10
theorem readHopR {c : Nat → Nat} {n N : Nat} {lf tx x m r t tr : Nat → Int32} {W LF KF : Nat → Nat → Int32} (h : TX c n lf) (h' : TX c n tx) (hx : x 0 = nI n) (hm : m 1 = nI n) (hd : DR N r t W LF KF tr) {p : Nat} (hs : sg c n p 32) :
    p_X0_readHop r t W LF KF (upd x 1 (nI (p + 1))) lf ∧ p_X5_takesHop (upd m 2 (nI p)) tr tx ∧ ∃ a W' LF' KF' q b q0 tr', f_X0_readHop r t W LF KF (upd x 1 (nI (p + 1))) lf = (a, W', LF', KF', upd x 1 (nI q)) ∧ f_X5_takesHop (upd m 2 (nI p)) tr tx = (b, upd m 2 (nI q0), tr') ∧ q ≤ n ∧ q0 ≤ n ∧ p < q ∧ ((b = 0 ∧ (a = 0 ∨ ¬ sg c n q 59)) ∨ (¬ (b = 0) ∧ ¬ (a = 0) ∧ q = q0 ∧ DR N r t W' LF' KF' tr')) := by
  have hp : p + 1 ≤ n := hs.1
  obtain ⟨u0, e0⟩ := takeNumberC (lo := 20) (hi := 999) h hx hp (by decide) (by decide)
  obtain ⟨v0, k0⟩ := takesNumberM (lo := 20) (hi := 999) h' hm (p := p) (by omega) (by decide) (by decide)
  have f0 : f_X5_takesNumber (upd m 2 (nI p)) tx (nI 20) (nI 999) = (nv (p + 1) (dg c n 4 (p + 1) 0) 20 999, upd m 2 (nI (dg c n 4 (p + 1) 0).1)) := by
    rcases k0 with ⟨_, z⟩ | ⟨z, _⟩
    · exact z
    · exact absurd hs z
  obtain ⟨b1, b2, b3, b4⟩ := dg_b (c := c) (n := n) 4 (p + 1) 0 hp
  have hv := nv_of (p := p + 1) (lo := 20) (hi := 999) (d := dg c n 4 (p + 1) 0) (by decide)
  generalize nv (p + 1) (dg c n 4 (p + 1) 0) 20 999 = v at *
  generalize (dg c n 4 (p + 1) 0).1 = D at *
  obtain ⟨u1, k1⟩ := takeC (si := 3) h hx (by decide) b2
  obtain ⟨v1, l1⟩ := takesSignM (s := 32) h' hm b2 (by decide)
  have hsg : mt c n D (wd 3) ↔ sg c n D 32 := sg_mt
  -- where the word begins
  have hw : ∃ s D1, D1 ≤ n ∧ D ≤ D1 ∧ f_X2_take (upd x 1 (nI D)) lf 3 = (s, upd x 1 (nI D1)) ∧ f_X5_takesSign (upd m 2 (nI D)) tx (32 : Int32) = (s, upd m 2 (nI D1)) := by
    rcases l1 with ⟨a1, a2⟩ | ⟨a1, a2⟩
    · rcases k1 with ⟨c1, c2⟩ | ⟨c1, c2⟩
      · exact ⟨1, D + 1, a1.1, by omega, c2, a2⟩
      · exact absurd (hsg.mpr a1) c1
    · rcases k1 with ⟨c1, c2⟩ | ⟨c1, c2⟩
      · exact absurd (hsg.mp c1) a1
      · exact ⟨0, D, b2, Nat.le_refl _, c2, a2⟩
  obtain ⟨s, D1, d1, d2, e1, f1⟩ := hw
  obtain ⟨u2, v2, kc, q, V, q0, km, e2, f2, g2, y1, y2, y3, y4⟩ := kindR h h' hx hm d1
  have pf := f_X0_readHop_e (r := r) (t := t) (W := W) (LF := LF) (KF := KF) (R0 := (v, upd x 1 (nI D))) (R1 := (s, upd x 1 (nI D1))) (R2 := (kc, upd x 1 (nI q))) e0 e1 e2
  have mf := f_X5_takesHop_e (tr := tr) (R0 := (v, upd m 2 (nI D))) (R1 := (s, upd m 2 (nI D1))) (R2 := (V, upd m 2 (nI q0))) f0 f1 f2
  have pp := p_X0_readHop_e (r := r) (t := t) (W := W) (LF := LF) (KF := KF) (R0 := (v, upd x 1 (nI D))) (R1 := (s, upd x 1 (nI D1))) (R2 := (kc, upd x 1 (nI q))) e0 e1 e2 u0 u1 u2
  have mp := p_X5_takesHop_e (tr := tr) (R0 := (v, upd m 2 (nI D))) (R1 := (s, upd m 2 (nI D1))) (R2 := (V, upd m 2 (nI q0))) f0 f1 f2 v0 v1 v2
  simp only at pf mf pp mp
  rw [g2] at mf mp
  rw [pf, mf]
  have ht := hd.2.1
  by_cases hN : N = 0
  · subst hN
    have t0 : t 0 = 0 := ht
    obtain ⟨z1, z2⟩ := addHop0 (m := upd m 2 (nI q0)) (l := v) (k := km) hd
    rw [if_pos t0]
    refine ⟨pp (fun z => absurd t0 z), mp (h88_n z1), ?_⟩
    by_cases a : v = -4
    · rw [if_pos a]
      exact ⟨_, _, _, _, D, _, D, _, rfl, rfl, b2, b2, by omega, Or.inl ⟨rfl, Or.inl rfl⟩⟩
    · rw [if_neg a]
      by_cases b : s = 0
      · rw [if_pos b]
        exact ⟨_, _, _, _, D, _, D1, _, rfl, rfl, b2, d1, by omega, Or.inl ⟨rfl, Or.inl rfl⟩⟩
      · rw [if_neg b]
        by_cases k4 : km = -4
        · rw [k4, g88_4]
          exact ⟨_, _, _, _, D, _, q0, _, rfl, rfl, b2, y2, by omega, Or.inl ⟨rfl, Or.inl rfl⟩⟩
        · rw [g88_n k4 z2 (Or.inl rfl)]
          exact ⟨_, _, _, _, D, _, q0, _, rfl, rfl, b2, y2, by omega, Or.inl ⟨rfl, Or.inl rfl⟩⟩
  · have t0 : ¬ (t 0 = 0) := by rw [ht]; exact nI_ne0 (by omega) (by have := hd.1; omega)
    have hN' : 0 < N := by omega
    have hc42 : h_X0_readHop_42 t W LF KF kc v := by
      by_cases k4 : kc = -4
      · rw [k4]; exact h42_4
      · exact (addHopR (m := upd m 2 (nI q0)) (l := v) hd hN' k4).1
    have hm88 : h_X5_takesHop_88 tr km v (upd m 2 (nI q0)) := by
      by_cases k4 : km = -4
      · rw [k4]; exact h88_4
      · exact h88_n (addHopR (m := upd m 2 (nI q0)) (l := v) hd hN' k4).2.1
    rw [if_neg t0]
    refine ⟨pp (fun _ => hc42), mp hm88, ?_⟩
    by_cases a : v = -4
    · rw [if_pos a, if_pos a]
      exact ⟨_, _, _, _, D, _, D, _, rfl, rfl, b2, b2, by omega, Or.inl ⟨rfl, Or.inl rfl⟩⟩
    · rw [if_neg a, if_neg a]
      by_cases b : s = 0
      · rw [if_pos b, if_pos b]
        exact ⟨_, _, _, _, D1, _, D1, _, rfl, rfl, d1, d1, by omega, Or.inl ⟨rfl, Or.inl rfl⟩⟩
      · rw [if_neg b, if_neg b]
        rcases y4 with ⟨k4, k5⟩ | ⟨k4, k5, k6⟩
        · rw [k4, g88_4]
          refine ⟨_, _, _, _, q, _, q0, _, rfl, rfl, y1, y2, by omega, Or.inl ⟨rfl, ?_⟩⟩
          rcases k5 with k5 | k5
          · rw [k5, g42_4]; exact Or.inl rfl
          · exact Or.inr k5
        · rw [k5]
          rcases (addHopR (m := upd m 2 (nI q0)) (l := v) hd hN' k4).2.2 with ⟨W', L', K', tr', z1, z2, z3⟩ | ⟨W', L', K', z1, z2⟩
          · rw [z1, g88_n k4 z2 (Or.inr rfl)]
            exact ⟨_, _, _, _, q, _, q0, _, rfl, rfl, y1, y2, by omega, Or.inr ⟨n10, n10, k6, z3⟩⟩
          · rw [z1, g88_n k4 z2 (Or.inl rfl)]
            exact ⟨_, _, _, _, q, _, q0, _, rfl, rfl, y1, y2, by omega, Or.inl ⟨rfl, Or.inl rfl⟩⟩
theorem putsM {m tr tx : Nat → Int32} {place lo hi : Int32} {pl : Nat} {R0 : Int32 × (Nat → Int32)} (e0 : f_X5_takesNumber m tx lo hi = R0) (u0 : p_X5_takesNumber m tx lo hi) (hpl : place = nI pl) (h103 : pl < 103) : p_X5_puts m tr tx place lo hi ∧ f_X5_puts m tr tx place lo hi = (if R0.1 = (-4 : Int32) then (0 : Int32) else 1, R0.2, upd tr pl (if R0.1 = -4 then tr pl else R0.1)) := by
  subst e0
  have hc : place.toNatClampNeg = pl := by rw [hpl]; exact nI_clamp (by omega)
  have hv : vp_in place 103 := by rw [hpl]; exact vp_in_nI h103 (by decide)
  refine ⟨⟨u0, ⟨fun _ => ⟨hv, trivial⟩, fun _ => trivial⟩, hv, trivial⟩, ?_⟩
  unfold f_X5_puts g_X5_puts_17
  rw [hc]
/-- a number behind a blank, class and model alike -/
theorem numR {c : Nat → Nat} {n : Nat} {lf tx x m : Nat → Int32} (h : TX c n lf) (h' : TX c n tx) (hx : x 0 = nI n) (hm : m 1 = nI n) {p lo hi : Nat} (hs : sg c n p 32) (hl : lo < 10000) (hh : hi < 10000) :
    ∃ v D, f_X2_takeNumber (upd x 1 (nI (p + 1))) lf (nI lo) (nI hi) = (v, upd x 1 (nI D)) ∧ f_X5_takesNumber (upd m 2 (nI p)) tx (nI lo) (nI hi) = (v, upd m 2 (nI D)) ∧ p_X2_takeNumber (upd x 1 (nI (p + 1))) lf (nI lo) (nI hi) ∧ p_X5_takesNumber (upd m 2 (nI p)) tx (nI lo) (nI hi) ∧ D ≤ n ∧ p < D ∧ (v = -4 ∨ ∃ w, lo ≤ w ∧ w ≤ hi ∧ v = nI w ∧ ¬ (v = -4)) := by
  have hp : p + 1 ≤ n := hs.1
  obtain ⟨u0, e0⟩ := takeNumberC (lo := lo) (hi := hi) h hx hp (by omega) (by omega)
  obtain ⟨v0, k0⟩ := takesNumberM (lo := lo) (hi := hi) h' hm (p := p) (by omega) (by omega) (by omega)
  obtain ⟨b1, b2, b3, b4⟩ := dg_b (c := c) (n := n) 4 (p + 1) 0 hp
  have hv := nv_of (p := p + 1) (lo := lo) (hi := hi) (d := dg c n 4 (p + 1) 0) hh
  rcases k0 with ⟨_, z⟩ | ⟨z, _⟩
  · refine ⟨_, _, e0, z, u0, v0, b2, by omega, ?_⟩
    rcases hv with hv | ⟨w, w1, w2, w3, w4, w5⟩
    · exact Or.inl hv
    · exact Or.inr ⟨w, w1, w2, w4, w5⟩
  · exact absurd hs z
theorem readLossR {c : Nat → Nat} {n N : Nat} {lf tx x m r t tr : Nat → Int32} {W LF KF : Nat → Nat → Int32} (h : TX c n lf) (h' : TX c n tx) (hx : x 0 = nI n) (hm : m 1 = nI n) (hd : DR N r t W LF KF tr) {p : Nat} (hs : sg c n p 32) :
    p_X0_readLoss r t W LF KF (upd x 1 (nI (p + 1))) lf ∧ p_X5_takesLoss (upd m 2 (nI p)) tr tx ∧ ∃ a W' q b q0 tr', f_X0_readLoss r t W LF KF (upd x 1 (nI (p + 1))) lf = (a, W', upd x 1 (nI q)) ∧ f_X5_takesLoss (upd m 2 (nI p)) tr tx = (b, upd m 2 (nI q0), tr') ∧ q ≤ n ∧ q0 ≤ n ∧ p < q ∧ ((b = 0 ∧ (a = 0 ∨ ¬ sg c n q 59)) ∨ (¬ (b = 0) ∧ ¬ (a = 0) ∧ q = q0 ∧ DR N r t W' LF KF tr')) := by
  have hp : p + 1 ≤ n := hs.1
  obtain ⟨v, D, e0, f0, u0, v0, b2, b1, hv⟩ := numR (lo := 0) (hi := 99) h h' hx hm hs (by decide) (by decide)
  have e0' : f_X2_takeNumber (upd x 1 (nI (p + 1))) lf (0 : Int32) (99 : Int32) = (v, upd x 1 (nI D)) := e0
  have ht := hd.2.1
  have htr := hd.2.2.2.1
  have hN4 := hd.1
  unfold p_X0_readLoss f_X0_readLoss p_X5_takesLoss f_X5_takesLoss g_X5_takesLoss_6 h_X5_takesLoss_6
  rw [e0', ht, htr]
  by_cases hN : N = 0
  · subst hN
    have t0 : nI 0 = (0 : Int32) := rfl
    have t1 : nI 0 ≤ (0 : Int32) := by decide
    rw [if_pos t0, if_pos t1]
    exact ⟨⟨u0, fun _ => trivial, fun z => absurd t0 z⟩, ⟨⟨fun _ => trivial, fun z => absurd t1 z⟩, trivial⟩, _, _, D, _, p, _, rfl, rfl, b2, by omega, b1, Or.inl ⟨rfl, Or.inl rfl⟩⟩
  · have t0 : ¬ (nI N = (0 : Int32)) := nI_ne0 (by omega) (by omega)
    have t1 : ¬ (nI N ≤ (0 : Int32)) := nI_nle (by omega) (by omega)
    have hc : (nI (N - 1)).toNatClampNeg = N - 1 := nI_clamp (by omega)
    have v4 : vp_in (nI (N - 1)) 4 := vp_in_nI (by omega) (by decide)
    rw [if_neg t0, if_neg t1, i_pred (by omega), hc]
    obtain ⟨pu, fu⟩ := putsM (tr := tr) (place := f_X5_at (nI (N - 1)) (10 : Int32)) (pl := 7 + 24 * (N - 1) + 10) (R0 := (v, upd m 2 (nI D))) f0 v0 (at_nI (k := 10) (by omega) (by decide)) (by omega)
    have fu' : f_X5_puts (upd m 2 (nI p)) tr tx (f_X5_at (nI (N - 1)) (10 : Int32)) (0 : Int32) (99 : Int32) = (if v = (-4 : Int32) then (0 : Int32) else 1, upd m 2 (nI D), upd tr (7 + 24 * (N - 1) + 10) (if v = -4 then tr (7 + 24 * (N - 1) + 10) else v)) := fu
    rw [fu']
    refine ⟨⟨u0, fun _ => trivial, fun _ => ⟨fun _ => trivial, fun _ => ⟨v4, trivial⟩⟩⟩, ⟨⟨fun _ => trivial, fun _ => ⟨pu, fun _ => trivial, fun _ => trivial⟩⟩, trivial⟩, ?_⟩
    by_cases a : v = -4
    · simp only [a, ↓reduceIte]
      exact ⟨_, _, D, _, D, _, rfl, rfl, b2, b2, b1, Or.inl ⟨rfl, Or.inl rfl⟩⟩
    · simp only [a, n10, ↓reduceIte]
      exact ⟨_, _, D, _, D, _, rfl, rfl, b2, b2, b1, Or.inr ⟨n10, n10, rfl, lossR hd (by omega)⟩⟩
theorem i_le3 {w : Nat} (h : w < 10000) : (nI w).toInt = (w : Int) := nI_toInt (by omega)
theorem RB0 {r : Nat → Int32} {w : Nat} (h : RB r) (h1 : 20 ≤ w) (h2 : w ≤ 200) : RB (upd r 0 (nI w)) := by
  unfold RB
  rw [upd_s, upd_o (by decide), upd_o (by decide), i_le3 (by omega)]
  obtain ⟨a1, a2, a3, a4, a5, a6⟩ := h
  exact ⟨by omega, by omega, a3, a4, a5, a6⟩
theorem RB1 {r : Nat → Int32} {w : Nat} (h : RB r) (h1 : 200 ≤ w) (h2 : w ≤ 999) : RB (upd r 1 (nI w)) := by
  unfold RB
  rw [upd_s, upd_o (by decide), upd_o (by decide), i_le3 (by omega)]
  obtain ⟨a1, a2, a3, a4, a5, a6⟩ := h
  exact ⟨a1, a2, by omega, by omega, a5, a6⟩
theorem RB2 {r : Nat → Int32} {w : Nat} (h : RB r) (h1 : 1 ≤ w) (h2 : w ≤ 99) : RB (upd r 2 (nI w)) := by
  unfold RB
  rw [upd_s, upd_o (by decide), upd_o (by decide), i_le3 (by omega)]
  obtain ⟨a1, a2, a3, a4, a5, a6⟩ := h
  exact ⟨a1, a2, a3, a4, by omega, by omega⟩
theorem RB3 {r : Nat → Int32} {k : Nat} {v : Int32} (h : RB r) (hk : 3 ≤ k) : RB (upd r k v) := by
  unfold RB
  rw [upd_o (by omega), upd_o (by omega), upd_o (by omega)]
  exact h
/-- a rule's number -/
theorem ruleB {c : Nat → Nat} {n N : Nat} {lf tx x m r t tr : Nat → Int32} {W LF KF : Nat → Nat → Int32} (h : TX c n lf) (h' : TX c n tx) (hx : x 0 = nI n) (hm : m 1 = nI n) (hd : DR N r t W LF KF tr) {p lo hi k : Nat} {place : Int32} (hs : sg c n p 32) (hl : lo < 10000) (hh : hi < 10000) (hk : k < 5) (hpl : place = nI (2 + k)) (hb : ∀ w, lo ≤ w → w ≤ hi → RB (upd r k (nI w))) :
    p_X2_takeNumber (upd x 1 (nI (p + 1))) lf (nI lo) (nI hi) ∧ p_X5_puts (upd m 2 (nI p)) tr tx place (nI lo) (nI hi) ∧ ∃ v D b tr', f_X2_takeNumber (upd x 1 (nI (p + 1))) lf (nI lo) (nI hi) = (v, upd x 1 (nI D)) ∧ f_X5_puts (upd m 2 (nI p)) tr tx place (nI lo) (nI hi) = (b, upd m 2 (nI D), tr') ∧ D ≤ n ∧ p < D ∧ ((b = 0 ∧ v = -4) ∨ (¬ (b = 0) ∧ ¬ (v = -4) ∧ DR N (upd r k v) t W LF KF tr')) := by
  obtain ⟨v, D, e0, f0, u0, v0, b2, b1, hv⟩ := numR h h' hx hm hs hl hh
  obtain ⟨pu, fu⟩ := putsM (tr := tr) (place := place) (pl := 2 + k) (R0 := (v, upd m 2 (nI D))) f0 v0 hpl (by omega)
  simp only at fu
  refine ⟨u0, pu, v, D, _, _, e0, fu, b2, b1, ?_⟩
  rcases hv with a | ⟨w, w1, w2, w3, w4⟩
  · rw [if_pos a]; exact Or.inl ⟨rfl, a⟩
  · rw [if_neg w4, if_neg w4]
    exact Or.inr ⟨n10, w4, ruleR hd hk (by rw [w3]; exact hb w w1 w2)⟩
theorem f_X5_takesBelief_e {m tr tx : Nat → Int32} {R1 : Int32 × (Nat → Int32)} {R2 : Int64 × (Nat → Int32)} {km : Int32} (e1 : f_X5_takesSign m tx (32 : Int32) = R1) (e2 : f_X5_takesWord R1.2 tx = R2) (e3 : g_X5_takesBelief_21 R2.1 (lg_cmp R2.1 (1420 : Int64)) = km) : f_X5_takesBelief m tr tx = (if R1.1 = 0 then ((0 : Int32), R1.2, tr) else (if km = (-4 : Int32) then (0 : Int32) else 1, R2.2, upd tr 5 (if km = -4 then tr 5 else km))) := by
  subst e1
  subst e2
  subst e3
  rfl
theorem beliefB {c : Nat → Nat} {n N : Nat} {lf tx x m r t tr : Nat → Int32} {W LF KF : Nat → Nat → Int32} (h : TX c n lf) (h' : TX c n tx) (hx : x 0 = nI n) (hm : m 1 = nI n) (hd : DR N r t W LF KF tr) {p : Nat} (hs : sg c n p 32) :
    p_X2_takeBelief (upd x 1 (nI (p + 1))) lf ∧ p_X5_takesBelief (upd m 2 (nI p)) tr tx ∧ ∃ v q b q0 tr', f_X2_takeBelief (upd x 1 (nI (p + 1))) lf = (v, upd x 1 (nI q)) ∧ f_X5_takesBelief (upd m 2 (nI p)) tr tx = (b, upd m 2 (nI q0), tr') ∧ q ≤ n ∧ q0 ≤ n ∧ p < q ∧ ((b = 0 ∧ (v = -4 ∨ ¬ sg c n q 59)) ∨ (¬ (b = 0) ∧ ¬ (v = -4) ∧ q = q0 ∧ DR N (upd r 3 v) t W LF KF tr')) := by
  have hp : p + 1 ≤ n := hs.1
  obtain ⟨v1, l1⟩ := takesSignM (s := 32) h' hm (p := p) (by omega) (by decide)
  have f1 : f_X5_takesSign (upd m 2 (nI p)) tx (32 : Int32) = (1, upd m 2 (nI (p + 1))) := by
    rcases l1 with ⟨_, a⟩ | ⟨a, _⟩
    · exact a
    · exact absurd hs a
  obtain ⟨u2, v2, kc, q, V, q0, km, e2, f2, g2, y1, y2, y3, y4⟩ := beliefR h h' hx hm hp
  have mf := f_X5_takesBelief_e (tr := tr) (R1 := (1, upd m 2 (nI (p + 1)))) (R2 := (V, upd m 2 (nI q0))) f1 f2 g2
  simp only [n10, ↓reduceIte] at mf
  refine ⟨u2, ?_, ?_⟩
  · unfold p_X5_takesBelief
    rw [f1]
    exact ⟨v1, fun _ => trivial, fun _ => ⟨v2, trivial⟩⟩
  · refine ⟨kc, q, _, q0, _, e2, mf, y1, y2, by omega, ?_⟩
    rcases y4 with ⟨k4, k5⟩ | ⟨k4, k5, k6⟩
    · rw [if_pos k4]; exact Or.inl ⟨rfl, k5⟩
    · rw [if_neg k4, if_neg k4]
      refine Or.inr ⟨n10, by rw [k5]; exact k4, k6, ?_⟩
      rw [k5]
      exact ruleR hd (by decide) (RB3 hd.2.2.2.2.2.2.1 (by decide))
