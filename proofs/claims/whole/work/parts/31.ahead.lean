/-! PURE. Part 31: ticks of the net; ahead; soon; best -/
theorem f_X4_ahead_e {s : (Nat → Int32)} {r : (Nat → Int32)} {t : (Nat → Int32)} {W : (Nat → Nat → Int32)} {LF : (Nat → Nat → Int32)} {KF : (Nat → Nat → Int32)} {tw : (Nat → Int32)} {tl : (Nat → Int32)} {tk : (Nat → Int32)} {tu : (Nat → Int32)} {nn i what : Int32} {T : (Nat → Int32) × (Nat → Int32) × (Nat → Int32) × (Nat → Int32)} {g : (Nat → Int32)} (e0 : (f_X4_startTrial s r t W LF KF tw tl tk tu i (r 3)) = T) (e1 : (f_X3_goOn T.1 T.2.1 T.2.2.1 T.2.2.2 nn) = g) : f_X4_ahead s r t W LF KF tw tl tk tu nn i what = (if (f_X4_isBetween nn (1 : Int32) (99 : Int32)) = 0 then ((-1 : Int32), tw, tl, tk, tu) else (if (f_X4_isWay s r t W LF KF i) = 0 then ((-1 : Int32), tw, tl, tk, tu) else (if (f_X4_isBetween what (0 : Int32) (4 : Int32)) = 0 then ((-1 : Int32), tw, tl, tk, tu) else (if what = (0 : Int32) then ((g 0), g, T.2.1, T.2.2.1, T.2.2.2) else (if what = (1 : Int32) then ((g 1), g, T.2.1, T.2.2.1, T.2.2.2) else (if what = (2 : Int32) then ((g 2), g, T.2.1, T.2.2.1, T.2.2.2) else (if what = (3 : Int32) then (((g 6) - ((W (i.toNatClampNeg)) 6)), g, T.2.1, T.2.2.1, T.2.2.2) else (((g 8) - ((W (i.toNatClampNeg)) 8)), g, T.2.1, T.2.2.1, T.2.2.2)))))))) := by
  subst e0
  subst e1
  rfl
theorem p_X4_ahead_e {s : (Nat → Int32)} {r : (Nat → Int32)} {t : (Nat → Int32)} {W : (Nat → Nat → Int32)} {LF : (Nat → Nat → Int32)} {KF : (Nat → Nat → Int32)} {tw : (Nat → Int32)} {tl : (Nat → Int32)} {tk : (Nat → Int32)} {tu : (Nat → Int32)} {nn i what : Int32} {T : (Nat → Int32) × (Nat → Int32) × (Nat → Int32) × (Nat → Int32)} (e0 : (f_X4_startTrial s r t W LF KF tw tl tk tu i (r 3)) = T) : p_X4_ahead s r t W LF KF tw tl tk tu nn i what = (((f_X4_isBetween nn (1 : Int32) (99 : Int32)) = 0 → True) ∧ (¬ ((f_X4_isBetween nn (1 : Int32) (99 : Int32)) = 0) → (((f_X4_isWay s r t W LF KF i) = 0 → True) ∧ (¬ ((f_X4_isWay s r t W LF KF i) = 0) → (((f_X4_isBetween what (0 : Int32) (4 : Int32)) = 0 → True) ∧ (¬ ((f_X4_isBetween what (0 : Int32) (4 : Int32)) = 0) → (p_X4_startTrial s r t W LF KF tw tl tk tu i (r 3) ∧ (p_X3_goOn T.1 T.2.1 T.2.2.1 T.2.2.2 nn ∧ ((what = (0 : Int32) → True) ∧ (¬ (what = (0 : Int32)) → ((what = (1 : Int32) → True) ∧ (¬ (what = (1 : Int32)) → ((what = (2 : Int32) → True) ∧ (¬ (what = (2 : Int32)) → ((what = (3 : Int32) → (vp_in i 4 ∧ True)) ∧ (¬ (what = (3 : Int32)) → (vp_in i 4 ∧ True))))))))))))))))) := by
  subst e0
  rfl
theorem f_X4_ticksUntilFound_e {s : (Nat → Int32)} {r : (Nat → Int32)} {t : (Nat → Int32)} {W : (Nat → Nat → Int32)} {LF : (Nat → Nat → Int32)} {KF : (Nat → Nat → Int32)} {tw : (Nat → Int32)} {tl : (Nat → Int32)} {tk : (Nat → Int32)} {tu : (Nat → Int32)} {i bel : Int32} {T : (Nat → Int32) × (Nat → Int32) × (Nat → Int32) × (Nat → Int32)} (e0 : (f_X4_startTrial s r t W LF KF tw tl tk tu i bel) = T) : f_X4_ticksUntilFound s r t W LF KF tw tl tk tu i bel = (l_X4_ticksUntilFound_21 xK s r t W LF KF tw tl tk tu i bel (f_X3_sought T.1 T.2.1 T.2.2.2) T.1 T.2.1 T.2.2.1 T.2.2.2 (1 : Int32)) := by
  subst e0
  rfl
theorem p_X4_ticksUntilFound_e {s : (Nat → Int32)} {r : (Nat → Int32)} {t : (Nat → Int32)} {W : (Nat → Nat → Int32)} {LF : (Nat → Nat → Int32)} {KF : (Nat → Nat → Int32)} {tw : (Nat → Int32)} {tl : (Nat → Int32)} {tk : (Nat → Int32)} {tu : (Nat → Int32)} {i bel : Int32} {T : (Nat → Int32) × (Nat → Int32) × (Nat → Int32) × (Nat → Int32)} (e0 : (f_X4_startTrial s r t W LF KF tw tl tk tu i bel) = T) : p_X4_ticksUntilFound s r t W LF KF tw tl tk tu i bel = (p_X4_startTrial s r t W LF KF tw tl tk tu i bel ∧ (p_X3_sought T.1 T.2.1 T.2.2.2 ∧ (q_X4_ticksUntilFound_21 xK s r t W LF KF tw tl tk tu i bel (f_X3_sought T.1 T.2.1 T.2.2.2) T.1 T.2.1 T.2.2.1 T.2.2.2 (1 : Int32)))) := by
  subst e0
  rfl
theorem f_X5_ahead_e {m tn ts : Nat → Int32} {nn i what : Int32} {L : (Nat → Int32) × Int32 × (Nat → Int32)} (e0 : (l_X5_ahead_45 xK m tn ts nn i what (f_X5_copiesA tn ts (0 : Int32) (0 : Int32)) (0 : Int32) m) = L) : f_X5_ahead m tn ts nn i what = (if (f_X5_in nn (1 : Int32) (99 : Int32)) = 0 then ((-1 : Int32), m, ts) else (if (f_X5_isWay m tn i) = 0 then ((-1 : Int32), m, ts) else (if (f_X5_in what (0 : Int32) (4 : Int32)) = 0 then ((-1 : Int32), m, ts) else (if (3 : Int32) ≤ what then (((L.1 ((f_X5_at i ((if what = (3 : Int32) then (6 : Int32) else (8 : Int32)))).toNatClampNeg)) - (tn ((f_X5_at i ((if what = (3 : Int32) then (6 : Int32) else (8 : Int32)))).toNatClampNeg))), L.2.2, L.1) else ((L.1 ((f_X5_at i what).toNatClampNeg)), L.2.2, L.1))))) := by
  subst e0
  rfl
theorem f_X5_best_e {m tn ts : Nat → Int32} {i : Int32} {L : Int32 × Int32 × Int32 × (Nat → Int32) × (Nat → Int32)} (e0 : (l_X5_best_19 xK m tn ts i (0 : Int32) (100 : Int32) (-4 : Int32) m ts) = L) : f_X5_best m tn ts i = (if (f_X5_isWay m tn i) = 0 then ((-1 : Int32), m, ts) else (L.2.2.1, L.2.2.2.1, L.2.2.2.2)) := by
  subst e0
  rfl
theorem f_X4_best_e {s : (Nat → Int32)} {r : (Nat → Int32)} {t : (Nat → Int32)} {W : (Nat → Nat → Int32)} {LF : (Nat → Nat → Int32)} {KF : (Nat → Nat → Int32)} {tw : (Nat → Int32)} {tl : (Nat → Int32)} {tk : (Nat → Int32)} {tu : (Nat → Int32)} {i : Int32} {L : Int32 × Int32 × Int32 × (Nat → Int32) × (Nat → Int32) × (Nat → Int32) × (Nat → Int32)} (e0 : (l_X4_best_19 xK s r t W LF KF tw tl tk tu i (0 : Int32) (100 : Int32) (-4 : Int32) tw tl tk tu) = L) : f_X4_best s r t W LF KF tw tl tk tu i = (if (f_X4_isWay s r t W LF KF i) = 0 then ((-1 : Int32), tw, tl, tk, tu) else (L.2.2.1, L.2.2.2.1, L.2.2.2.2.1, L.2.2.2.2.2.1, L.2.2.2.2.2.2)) := by
  subst e0
  rfl
theorem AR.tk {N : Nat} {W LF KF : Nat → Nat → Int32} {r tn : Nat → Int32} {v : Int32} (h : AR N W LF KF r tn) : AR N W LF KF r (upd tn 1 v) := by
  refine ⟨by rw [upd_o (by decide)]; exact h.1, fun k hk => by rw [upd_o (by omega)]; exact h.2.1 k hk, fun i hi => ?_⟩
  obtain ⟨H, hH, ⟨w1, w2, w3, w4, w5⟩, hwi⟩ := h.2.2 i hi
  exact ⟨H, hH, ⟨fun k hk => by rw [upd_o (by omega)]; exact w1 k hk, w2, w3, fun k hk => by rw [upd_o (by omega)]; exact w4 k hk, fun k hk => by rw [upd_o (by omega)]; exact w5 k hk⟩, hwi⟩
theorem tick44 {s r t g : Nat → Int32} {W LF KF ER ET a b : Nat → Nat → Int32} {EW EL EK c d e : Nat → Nat → Nat → Int32} {N M : Nat} {v2 : Int32} (hN : N ≤ 4) (hM : M ≤ 99) (ht : t 0 = nI N) : ∀ (n j fuel : Nat) (X : Nat → Nat → Int32), j + n = N → n < fuel → (∀ i, j ≤ i → i < N → ∃ H, H ≤ 6 ∧ X i 24 = nI i ∧ X i 11 = nI H ∧ WI (X i) r) → ∃ W', l_X4_tick_44 fuel s r t W LF KF ER ET EW EL EK (nI M) v2 g a b c d e (nI j) X = (v2, g, a, b, c, d, e, nI N, W') ∧ q_X4_tick_44 fuel s r t W LF KF ER ET EW EL EK (nI M) v2 g a b c d e (nI j) X ∧ (∀ i, j ≤ i → i < N → W' i = itS (LF i) (KF i) r M (X i)) ∧ (∀ i, i < j → W' i = X i) := by
  intro n
  induction n with
  | zero =>
    intro j fuel X hj hf hX
    obtain ⟨f, rfl⟩ : ∃ f, fuel = f + 1 := ⟨fuel - 1, by omega⟩
    have ej : j = N := by omega
    subst ej
    have cc : t 0 ≤ nI j := by rw [ht]; exact nI_le (Nat.le_refl _) (by omega)
    rw [l_X4_tick_44, q_X4_tick_44, if_pos cc]
    exact ⟨X, rfl, ⟨fun _ => trivial, fun z => absurd cc z⟩, fun i h1 h2 => absurd h2 (by omega), fun i _ => rfl⟩
  | succ n ih =>
    intro j fuel X hj hf hX
    obtain ⟨f, rfl⟩ : ∃ f, fuel = f + 1 := ⟨fuel - 1, by omega⟩
    have cc : ¬ (t 0 ≤ nI j) := by rw [ht]; exact nI_ge (by omega) (by omega)
    have hc : (nI j).toNatClampNeg = j := nI_clamp (by omega)
    have v4 : vp_in (nI j) 4 := vp_in_nI (by omega) (by omega)
    obtain ⟨H, hH, x24, x11, hw⟩ := hX j (by omega) (by omega)
    obtain ⟨g1, g2, g3, g4, g5⟩ := goOnC (lf := LF j) (kf := KF j) (by omega) hH hM x24 x11 hw
    rw [l_X4_tick_44, q_X4_tick_44, if_neg cc, hc, g1, nI_1]
    obtain ⟨W', u1, u2, u3, u4⟩ := ih (j + 1) f (va_up X j (itS (LF j) (KF j) r M (X j))) (by omega) (by omega) (fun i h1 h2 => by rw [va_o (by omega)]; exact hX i (by omega) h2)
    refine ⟨W', u1, ⟨fun z => absurd z cc, fun _ => ⟨v4, g2, u2⟩⟩, fun i h1 h2 => ?_, fun i hi => by rw [u4 i (by omega), va_o (by omega)]⟩
    by_cases d : i = j
    · subst d; rw [u4 i (by omega), va_s]
    · rw [u3 i (by omega) h2, va_o d]
theorem tickM {s r t m tn tp : Nat → Int32} {W LF KF ER ET : Nat → Nat → Int32} {EW EL EK : Nat → Nat → Nat → Int32} {nn : Int32} (hn : NR r t W LF KF tn) (hu : UR s ER ET EW EL EK m tp) : p_X4_tick s r t W LF KF ER ET EW EL EK nn ∧ p_X5_tick m tn tp nn ∧ ∃ a s' t' W' ER' ET' EW' EL' EK' m' tn' tp', f_X4_tick s r t W LF KF ER ET EW EL EK nn = (a, s', t', W', ER', ET', EW', EL', EK') ∧ f_X5_tick m tn tp nn = (a, m', tn', tp') ∧ NR r t' W' LF KF tn' ∧ UR s' ER' ET' EW' EL' EK' m' tp' ∧ m' 1 = m 1 := by
  obtain ⟨s', ER', ET', EW', EL', EK', mk, tpk, r1, r2, r3, r4, r5, r6⟩ := rememberR hn hu
  have hn' := hn
  obtain ⟨N, hN, h0, h1, h2⟩ := hn'
  rcases btw (v := nn) (lo := 1) (hi := 99) with ⟨b, _⟩ | ⟨b, b1, b2⟩
  · unfold p_X4_tick p_X5_tick f_X4_tick f_X5_tick
    rw [inB, if_pos b, if_pos b]
    exact ⟨⟨fun _ => trivial, fun z => absurd b z⟩, ⟨fun _ => trivial, fun z => absurd b z⟩, _, _, _, _, _, _, _, _, _, _, _, _, rfl, rfl, hn, hu, rfl⟩
  · obtain ⟨M, hM1, hM2⟩ := nI_of (x := nn) (fun z => by have := (fa_lt nn 0).mp z; rw [z0] at this; rw [z1] at b1; omega)
    subst hM2
    rw [nI_toInt hM1, show (99 : Int32).toInt = 99 from rfl] at b2
    have hM : M ≤ 99 := by omega
    obtain ⟨q1, q2, q3⟩ := allLostR (m := mk) hN h0 h2
    obtain ⟨vv, hv⟩ : ∃ v, f_X0_allLost r t W LF KF = v := ⟨_, rfl⟩
    have hv5 : f_X5_sumOf mk tn 8 = vv := by rw [← q1]; exact hv
    obtain ⟨m5, tn5, k1, k2, k3, k4, k5⟩ := tickOut hN (M := M) (by omega) (m0 := m) (tn0 := tn) (tp0 := tp) (v2 := vv) (xp := tpk) M 0 xK W mk tn (by omega) (by unfold xK; omega) h2
    rw [nI_0] at k1 k2
    obtain ⟨W', u1, u2, u3, u4⟩ := tick44 (s := s) (g := s') (W := W) (LF := LF) (KF := KF) (ER := ER) (ET := ET) (EW := EW) (EL := EL) (EK := EK) (a := ER') (b := ET') (c := EW') (d := EL') (e := EK') (v2 := vv) hN hM h0 N 0 xK W (by omega) (by unfold xK; omega) (fun i _ hi => by
      obtain ⟨H, hH, hw, hwi⟩ := h2.2.2 i hi
      exact ⟨H, hH, hw.2.1, hw.2.2.1, hwi⟩)
    rw [nI_0] at u1 u2
    have ha : AR N W' LF KF r tn5 := AR.congr k3 (fun i hi => u3 i (by omega) hi)
    have ha2 : AR N W' LF KF r (upd tn5 1 (tn5 1 + nI M)) := AR.tk ha
    obtain ⟨y1, y2, y3⟩ := allLostR (t := upd t 1 (t 1 + nI M)) (m := m5) hN (by rw [upd_o (by decide)]; exact h0) ha2
    rw [f_X4_tick_e r1 hv u1, p_X4_tick_e r1 hv u1, f_X5_tick_e r2 hv5 k1, p_X5_tick_e r2 hv5 k1]
    rw [inB, if_neg b, if_neg b, h1]
    dsimp only
    refine ⟨⟨fun z => absurd z b, fun _ => ⟨fun _ => ⟨r3, q2, u2, y2, trivial⟩, fun _ => trivial⟩⟩, ⟨fun z => absurd z b, fun _ => ⟨fun _ => ⟨r4, q3, k2, y3, trivial⟩, fun _ => trivial⟩⟩, ?_⟩
    by_cases d : t 1 + nI M ≤ 9999
    · rw [if_pos d, if_pos d, y1]
      refine ⟨_, _, _, _, _, _, _, _, _, _, _, _, rfl, rfl, ⟨N, hN, by rw [upd_o (by decide)]; exact h0, ?_, ha2⟩, UR.m r5 (k4 0 (by decide)), (k4 1 (by decide)).trans (r6 1 (by decide))⟩
      rw [upd_s, upd_s, k5, h1]
    · rw [if_neg d, if_neg d]
      exact ⟨_, _, _, _, _, _, _, _, _, _, _, _, rfl, rfl, hn, hu, rfl⟩
theorem startR {s r t tn ts tw tl tk tu : Nat → Int32} {W LF KF : Nat → Nat → Int32} {j H : Nat} {b : Int32} (hj : j < 4) (hH : H ≤ 6) (hk : KK tn tn j (W j) (LF j) (KF j) H r) (hw : WI (W j) r) : ∃ w l k u, f_X4_startTrial s r t W LF KF tw tl tk tu (nI j) b = (w, l, k, u) ∧ p_X4_startTrial s r t W LF KF tw tl tk tu (nI j) b ∧ p_X5_copiesA tn ts 0 0 ∧ KK (upd (f_X5_copiesA tn ts 0 0) 5 b) (upd (f_X5_copiesA tn ts 0 0) 5 b) j w l k H u ∧ WI w u ∧ (∀ q, q < 103 → (f_X5_copiesA tn ts 0 0) q = tn q) := by
  obtain ⟨b1, b2⟩ := cp_A (ff := tn) (gf := ts) (a := 0) (b := 0) (x := 0) (y := 0) nI_0.symm nI_0.symm (by decide) (by decide)
  have hx : ∀ q, q < 103 → (f_X5_copiesA tn ts 0 0) q = tn q := fun q hq => by
    rw [b1, if_pos (by omega)]
    exact congrArg tn (by omega)
  have hc : (nI j).toNatClampNeg = j := nI_clamp (by omega)
  have v4 : vp_in (nI j) 4 := vp_in_nI (by omega) (by omega)
  obtain ⟨⟨c1, c2⟩, c3, c4⟩ := copyW (w := tw) (lf := tl) (kf := tk) (w2 := W j) (lf2 := LF j) (kf2 := KF j)
  obtain ⟨⟨w1, w2, w3, w4, w5⟩, hr, _⟩ := hk
  unfold f_X4_startTrial
  rw [hc]
  refine ⟨_, _, _, _, rfl, ⟨v4, trivial⟩, b2, ⟨⟨fun k hk => ?_, by rw [c2]; exact w2, by rw [c1 11 (by decide)]; exact w3, fun k hk => ?_, fun k hk => ?_⟩, fun k hk => ?_, FW.refl⟩, ?_, hx⟩
  · rw [upd_o (by omega), hx _ (by omega), c1 k hk]; exact w1 k hk
  · rw [upd_o (by omega), hx _ (by omega), c3 k (by omega)]; exact w4 k hk
  · rw [upd_o (by omega), hx _ (by omega), c4 k (by omega)]; exact w5 k hk
  · by_cases d : k = 3
    · subst d; rw [upd_s, upd_s]
    · rw [upd_o (by omega), upd_o d, hx _ (by omega), copyR k hk]; exact hr k hk
  · exact WI.congr hw (fun k hk => c1 k (by omega)) (fun k hk => by rw [upd_o (by omega)]; exact copyR k (by omega))
theorem aheadL {m0 tn ts t0 l k u : Nat → Int32} {j H M : Nat} {what : Int32} (hj : j < 4) (hH : H ≤ 6) (hM : M < 2 ^ 30) : ∀ (n v fuel : Nat) (w x m : Nat → Int32), v + n = M → n < fuel → KK t0 x j w l k H u → WI w u → ∃ m' x', l_X5_ahead_45 fuel m0 tn ts (nI M) (nI j) what x (nI v) m = (x', nI M, m') ∧ q_X5_ahead_45 fuel m0 tn ts (nI M) (nI j) what x (nI v) m ∧ KK t0 x' j (itS l k u n w) l k H u ∧ MF m m' := by
  intro n
  induction n with
  | zero =>
    intro v fuel w x m e hf h hw
    obtain ⟨f, rfl⟩ : ∃ f, fuel = f + 1 := ⟨fuel - 1, by omega⟩
    have ev : v = M := by omega
    subst ev
    have c : nI v ≤ nI v := nI_le (Nat.le_refl _) (by omega)
    rw [l_X5_ahead_45, q_X5_ahead_45, if_pos c]
    exact ⟨m, x, rfl, ⟨fun _ => trivial, fun z => absurd c z⟩, h, MF.refl⟩
  | succ n ih =>
    intro v fuel w x m e hf h hw
    obtain ⟨f, rfl⟩ : ∃ f, fuel = f + 1 := ⟨fuel - 1, by omega⟩
    have c : ¬ (nI M ≤ nI v) := nI_ge (by omega) (by omega)
    obtain ⟨m1, x1, s1, s2, s3, s4, s5, s6⟩ := ticksK (m := m) hj hH h hw
    obtain ⟨m2, x2, g1, g2, g3, g4⟩ := ih (v + 1) f _ x1 m1 (by omega) (by omega) s4 s5
    rw [l_X5_ahead_45, q_X5_ahead_45, if_neg c, s1, nI_1]
    exact ⟨m2, x2, g1, ⟨fun z => absurd z c, fun _ => ⟨s2, g2⟩⟩, g3, MF.trans s6 g4⟩
theorem aheadM {s r t m tn ts tw tl tk tu : Nat → Int32} {W LF KF : Nat → Nat → Int32} {nn i what : Int32} (hn : NR r t W LF KF tn) : p_X4_ahead s r t W LF KF tw tl tk tu nn i what ∧ p_X5_ahead m tn ts nn i what ∧ ∃ a tw' tl' tk' tu' m' ts', f_X4_ahead s r t W LF KF tw tl tk tu nn i what = (a, tw', tl', tk', tu') ∧ f_X5_ahead m tn ts nn i what = (a, m', ts') ∧ MF m m' := by
  rcases btw (v := nn) (lo := 1) (hi := 99) with ⟨b, _⟩ | ⟨b, b1, b2⟩
  · unfold p_X4_ahead p_X5_ahead f_X4_ahead f_X5_ahead
    rw [inB, if_pos b, if_pos b]
    exact ⟨⟨fun _ => trivial, fun z => absurd b z⟩, ⟨fun _ => trivial, fun z => absurd b z⟩, _, _, _, _, _, _, _, rfl, rfl, MF.refl⟩
  · obtain ⟨M, hM1, hM2⟩ := nI_of (x := nn) (fun z => by have := (fa_lt nn 0).mp z; rw [z0] at this; rw [z1] at b1; omega)
    subst hM2
    rw [nI_toInt hM1, show (99 : Int32).toInt = 99 from rfl] at b2
    have hM : M ≤ 99 := by omega
    rcases wayCase (s := s) (m := m) (i := i) hn with ⟨c1, c2⟩ | ⟨c1, c2, N, j, hN, hj, ej, h0, h1, h2⟩
    · unfold p_X4_ahead p_X5_ahead f_X4_ahead f_X5_ahead
      rw [inB, if_neg b, if_neg b, if_pos c1, if_pos c2]
      exact ⟨⟨fun z => absurd z b, fun _ => ⟨fun _ => trivial, fun z => absurd c1 z⟩⟩, ⟨fun z => absurd z b, fun _ => ⟨fun _ => trivial, fun z => absurd c2 z⟩⟩, _, _, _, _, _, _, _, rfl, rfl, MF.refl⟩
    · subst ej
      rcases btw (v := what) (lo := 0) (hi := 4) with ⟨d, _⟩ | ⟨d, d1, d2⟩
      · unfold p_X4_ahead p_X5_ahead f_X4_ahead f_X5_ahead
        rw [inB, if_neg b, if_neg b, if_neg c1, if_neg c2, if_pos d, if_pos d]
        exact ⟨⟨fun z => absurd z b, fun _ => ⟨fun z => absurd z c1, fun _ => ⟨fun _ => trivial, fun z => absurd d z⟩⟩⟩, ⟨fun z => absurd z b, fun _ => ⟨fun z => absurd z c2, fun _ => ⟨fun _ => trivial, fun z => absurd d z⟩⟩⟩, _, _, _, _, _, _, _, rfl, rfl, MF.refl⟩
      · obtain ⟨H, hH, hk, hw⟩ := AR.kk hj h2
        have hc : (nI j).toNatClampNeg = j := nI_clamp (by omega)
        have v4 : vp_in (nI j) 4 := vp_in_nI (by omega) (by omega)
        obtain ⟨w, l, k, u, q1, q2, q3, q4, q5, q6⟩ := startR (s := s) (t := t) (ts := ts) (tw := tw) (tl := tl) (tk := tk) (tu := tu) (b := r 3) (by omega) hH hk hw
        have e5 : (f_X5_copiesA tn ts 0 0) 5 = r 3 := by rw [q6 5 (by decide)]; exact hk.q 3 (by decide)
        rw [← e5, upd_self] at q4
        obtain ⟨g1, g2, g3, g4, g5⟩ := goOnC (n := M) (lf := l) (kf := k) (by omega) hH hM q4.1.2.1 q4.1.2.2.1 q5
        obtain ⟨m', x', y1, y2, y3, y4⟩ := aheadL (m0 := m) (tn := tn) (ts := ts) (what := what) (by omega) hH (M := M) (by omega) M 0 xK w _ m (by omega) (by unfold xK; omega) q4 q5
        rw [nI_0] at y1 y2
        rw [f_X4_ahead_e q1 g1, p_X4_ahead_e q1, f_X5_ahead_e y1]
        unfold p_X5_ahead
        obtain ⟨kk, hk1, hk2⟩ := nI_of (x := what) (fun z => by have := (fa_lt what 0).mp z; rw [z0] at this d1; omega)
        rw [hk2, nI_toInt hk1, show (4 : Int32).toInt = 4 from rfl] at d2
        have d3 : kk ≤ 4 := by omega
        rw [inB, if_neg b, if_neg b, if_neg c1, if_neg c2, if_neg d, if_neg d, hc]
        dsimp only
        refine ⟨⟨fun z => absurd z b, fun _ => ⟨fun z => absurd z c1, fun _ => ⟨fun z => absurd z d, fun _ => ⟨q2, g2, fun _ => trivial, fun _ => ⟨fun _ => trivial, fun _ => ⟨fun _ => trivial, fun _ => ⟨fun _ => ⟨v4, trivial⟩, fun _ => ⟨v4, trivial⟩⟩⟩⟩⟩⟩⟩⟩, ⟨fun z => absurd z b, fun _ => ⟨fun z => absurd z c2, fun _ => ⟨fun z => absurd z d, fun _ => ⟨q3, y2, fun _ => ?_, fun z => ?_⟩⟩⟩⟩, ?_⟩
        · by_cases w3 : what = 3
          · rw [if_pos w3]; exact ⟨ai (by omega) (k := 6) (by decide) rfl, ai (by omega) (k := 6) (by decide) rfl, trivial⟩
          · rw [if_neg w3]; exact ⟨ai (by omega) (k := 8) (by decide) rfl, ai (by omega) (k := 8) (by decide) rfl, trivial⟩
        · exact ⟨ai (by omega) (k := kk) (by omega) hk2, trivial⟩
        · subst hk2
          clear d d1 d2 hk1 y1 y2
          have hcase : kk = 0 ∨ kk = 1 ∨ kk = 2 ∨ kk = 3 ∨ kk = 4 := by omega
          rcases hcase with e | e | e | e | e <;> subst e
          · rw [if_pos (by decide : nI 0 = (0 : Int32)), if_neg (by decide : ¬ ((3 : Int32) ≤ nI 0)), a_k (by omega) (k := 0) (by decide) rfl, y3.g 0 (by decide)]
            exact ⟨_, _, _, _, _, _, _, rfl, rfl, y4⟩
          · rw [if_neg (by decide : ¬ (nI 1 = (0 : Int32))), if_pos (by decide : nI 1 = (1 : Int32)), if_neg (by decide : ¬ ((3 : Int32) ≤ nI 1)), a_k (by omega) (k := 1) (by decide) rfl, y3.g 1 (by decide)]
            exact ⟨_, _, _, _, _, _, _, rfl, rfl, y4⟩
          · rw [if_neg (by decide : ¬ (nI 2 = (0 : Int32))), if_neg (by decide : ¬ (nI 2 = (1 : Int32))), if_pos (by decide : nI 2 = (2 : Int32)), if_neg (by decide : ¬ ((3 : Int32) ≤ nI 2)), a_k (by omega) (k := 2) (by decide) rfl, y3.g 2 (by decide)]
            exact ⟨_, _, _, _, _, _, _, rfl, rfl, y4⟩
          · rw [if_neg (by decide : ¬ (nI 3 = (0 : Int32))), if_neg (by decide : ¬ (nI 3 = (1 : Int32))), if_neg (by decide : ¬ (nI 3 = (2 : Int32))), if_pos (by decide : nI 3 = (3 : Int32)), if_pos (by decide : (3 : Int32) ≤ nI 3), if_pos (by decide : nI 3 = (3 : Int32)), a6 (by omega), y3.g 6 (by decide), hk.g 6 (by decide)]
            exact ⟨_, _, _, _, _, _, _, rfl, rfl, y4⟩
          · rw [if_neg (by decide : ¬ (nI 4 = (0 : Int32))), if_neg (by decide : ¬ (nI 4 = (1 : Int32))), if_neg (by decide : ¬ (nI 4 = (2 : Int32))), if_neg (by decide : ¬ (nI 4 = (3 : Int32))), if_pos (by decide : (3 : Int32) ≤ nI 4), if_neg (by decide : ¬ (nI 4 = (3 : Int32))), a8 (by omega), y3.g 8 (by decide), hk.g 8 (by decide)]
            exact ⟨_, _, _, _, _, _, _, rfl, rfl, y4⟩
theorem soonL {s r t m0 tn ts tw tl tk tu t0 l k u : Nat → Int32} {W LF KF : Nat → Nat → Int32} {j H : Nat} {b b' v3 : Int32} (hj : j < 4) (hH : H ≤ 6) : ∀ (n v f f' : Nat) (w x m : Nat → Int32), v + n = 100 → n < f → n < f' → KK t0 x j w l k H u → WI w u → ∃ a w' m' x', l_X4_ticksUntilFound_21 f s r t W LF KF tw tl tk tu (nI j) b v3 w l k u (nI v) = (a, w', l, k, u) ∧ l_X5_soonBy_50 f' m0 tn ts (nI j) b' v3 x (nI v) m = (a, m', x') ∧ q_X4_ticksUntilFound_21 f s r t W LF KF tw tl tk tu (nI j) b v3 w l k u (nI v) ∧ q_X5_soonBy_50 f' m0 tn ts (nI j) b' v3 x (nI v) m ∧ MF m m' := by
  intro n
  induction n with
  | zero =>
    intro v f f' w x m e h1 h2 h hw
    obtain ⟨f, rfl⟩ : ∃ g, f = g + 1 := ⟨f - 1, by omega⟩
    obtain ⟨f', rfl⟩ : ∃ g, f' = g + 1 := ⟨f' - 1, by omega⟩
    have ev : v = 100 := by omega
    subst ev
    have c1 : (99 : Int32) < nI 100 := by decide
    have c2 : (100 : Int32) ≤ nI 100 := by decide
    rw [l_X4_ticksUntilFound_21, l_X5_soonBy_50, q_X4_ticksUntilFound_21, q_X5_soonBy_50, if_pos c1, if_pos c2]
    exact ⟨_, _, _, _, rfl, rfl, ⟨fun _ => trivial, fun z => absurd c1 z⟩, ⟨fun _ => trivial, fun z => absurd c2 z⟩, MF.refl⟩
  | succ n ih =>
    intro v f f' w x m e h1 h2 h hw
    obtain ⟨f, rfl⟩ : ∃ g, f = g + 1 := ⟨f - 1, by omega⟩
    obtain ⟨f', rfl⟩ : ∃ g, f' = g + 1 := ⟨f' - 1, by omega⟩
    have c1 : ¬ ((99 : Int32) < nI v) := nI_nlt (a := 99) (b := v) (by omega) (by omega)
    have c2 : ¬ ((100 : Int32) ≤ nI v) := nI_ge (a := v) (b := 100) (by omega) (by omega)
    obtain ⟨m1, x1, s1, s2, s3, s4, s5, s6⟩ := ticksK (m := m) hj hH h hw
    have g2' : p_X3_step w l k u := (stepC (lf := l) (kf := k) hj hH h.1.2.1 h.1.2.2.1 hw).1
    have v0 : vp_in (f_X5_at (nI j) 0) 103 := ai hj (k := 0) (by decide) rfl
    rw [l_X4_ticksUntilFound_21, l_X5_soonBy_50, q_X4_ticksUntilFound_21, q_X5_soonBy_50, if_neg c1, if_neg c2, s1]
    have eX : (m1, x1).2 ((f_X5_at (nI j) (0 : Int32)).toNatClampNeg) = f_X3_step w l k u 0 := by
      rw [a0 hj]; exact s4.g 0 (by decide)
    rw [eX, nI_1]
    dsimp only
    by_cases d : f_X3_step w l k u 0 = v3
    · rw [if_pos d, if_pos d]
      exact ⟨_, _, _, _, rfl, rfl, ⟨fun z => absurd z c1, fun _ => ⟨g2', fun _ => trivial, fun z => absurd d z⟩⟩, ⟨fun z => absurd z c2, fun _ => ⟨s2, v0, fun _ => trivial, fun z => absurd d z⟩⟩, s6⟩
    · rw [if_neg d, if_neg d]
      obtain ⟨a, w', m', x', y1, y2, y3, y4, y5⟩ := ih (v + 1) f f' (f_X3_step w l k u) x1 m1 (by omega) (by omega) (by omega) s4 s5
      exact ⟨a, w', m', x', y1, y2, ⟨fun z => absurd z c1, fun _ => ⟨g2', fun z => absurd z d, fun _ => y3⟩⟩, ⟨fun z => absurd z c2, fun _ => ⟨s2, v0, fun z => absurd z d, fun _ => y4⟩⟩, MF.trans s6 y5⟩
theorem soonByM {s r t m tn ts tw tl tk tu : Nat → Int32} {W LF KF : Nat → Nat → Int32} {j H : Nat} {b : Int32} (hj : j < 4) (hH : H ≤ 6) (hk : KK tn tn j (W j) (LF j) (KF j) H r) (hw : WI (W j) r) : ∃ a tw' tl' tk' tu' m' ts', f_X4_ticksUntilFound s r t W LF KF tw tl tk tu (nI j) b = (a, tw', tl', tk', tu') ∧ f_X5_soonBy m tn ts (nI j) b = (a, m', ts') ∧ p_X4_ticksUntilFound s r t W LF KF tw tl tk tu (nI j) b ∧ p_X5_soonBy m tn ts (nI j) b ∧ MF m m' := by
  obtain ⟨w, l, k, u, q1, q2, q3, q4, q5, q6⟩ := startR (s := s) (t := t) (ts := ts) (tw := tw) (tl := tl) (tk := tk) (tu := tu) (b := b) hj hH hk hw
  obtain ⟨z1, z2⟩ := soughtR hj hH q4.1 q4.2.1
  obtain ⟨p1, p2, p3⟩ := passR hj hH q4.1
  obtain ⟨o1, o2, o3⟩ := passR hj hH hk.1
  have ep : f_X5_passes tn (nI j) = f_X3_passes w l := by
    rw [← o1]
    have hT := q1
    unfold f_X4_startTrial at hT
    have hc : (nI j).toNatClampNeg = j := nI_clamp (by omega)
    rw [hc] at hT
    have e1 : (f_X3_copy tw tl tk (W j) (LF j) (KF j)).1 = w := congrArg (·.1) hT
    have e2 : (f_X3_copy tw tl tk (W j) (LF j) (KF j)).2.1 = l := congrArg (·.2.1) hT
    obtain ⟨⟨c1, c2⟩, c3, c4⟩ := copyW (w := tw) (lf := tl) (kf := tk) (w2 := W j) (lf2 := LF j) (kf2 := KF j)
    have hWR : WR tn j w l (KF j) H := by
      obtain ⟨w1, w2, w3, w4, w5⟩ := hk.1
      rw [← e1, ← e2]
      exact ⟨fun k hk => by rw [c1 k hk]; exact w1 k hk, by rw [c2]; exact w2, by rw [c1 11 (by decide)]; exact w3, fun k hk => by rw [c3 k (by omega)]; exact w4 k hk, w5⟩
    rw [(passR hj hH hWR).1, ← o1]
  have ez : f_X3_sought w l u = f_X5_greater (tn 2) (f_X5_lesser (f_X5_passes tn (nI j)) (tn 3)) := by
    rw [z1, ep, ← p1, upd_o (by decide), upd_o (by decide), q6 2 (by decide), q6 3 (by decide)]
  obtain ⟨a, w', m', x', y1, y2, y3, y4, y5⟩ := soonL (s := s) (r := r) (t := t) (W := W) (LF := LF) (KF := KF) (tw := tw) (tl := tl) (tk := tk) (tu := tu) (m0 := m) (tn := tn) (ts := ts) (b := b) (b' := b) (v3 := f_X3_sought w l u) hj hH 99 1 xK xK w _ m (by decide) (by decide) (by decide) q4 q5
  have y1' : l_X4_ticksUntilFound_21 xK s r t W LF KF tw tl tk tu (nI j) b (f_X3_sought w l u) w l k u 1 = (a, w', l, k, u) := y1
  have y2' : l_X5_soonBy_50 xK m tn ts (nI j) b (f_X3_sought w l u) (upd (f_X5_copiesA tn ts 0 0) 5 b) 1 m = (a, m', x') := y2
  have y3' : q_X4_ticksUntilFound_21 xK s r t W LF KF tw tl tk tu (nI j) b (f_X3_sought w l u) w l k u 1 := y3
  have y4' : q_X5_soonBy_50 xK m tn ts (nI j) b (f_X3_sought w l u) (upd (f_X5_copiesA tn ts 0 0) 5 b) 1 m := y4
  rw [f_X4_ticksUntilFound_e q1, p_X4_ticksUntilFound_e q1]
  unfold f_X5_soonBy p_X5_soonBy
  rw [← ez]
  dsimp only
  exact ⟨a, w', l, k, u, m', x', y1', y2', ⟨q2, z2, y3'⟩, ⟨q3, o3, y4'⟩, y5⟩
theorem soonM {s r t m tn ts tw tl tk tu : Nat → Int32} {W LF KF : Nat → Nat → Int32} {i b : Int32} (hn : NR r t W LF KF tn) : p_X4_soon s r t W LF KF tw tl tk tu i b ∧ p_X5_soon m tn ts i b ∧ ∃ a tw' tl' tk' tu' m' ts', f_X4_soon s r t W LF KF tw tl tk tu i b = (a, tw', tl', tk', tu') ∧ f_X5_soon m tn ts i b = (a, m', ts') ∧ MF m m' := by
  unfold p_X4_soon p_X5_soon f_X4_soon f_X5_soon g_X5_soon_5 h_X5_soon_5
  rw [inB]
  rcases wayCase (s := s) (m := m) (i := i) hn with ⟨c1, c2⟩ | ⟨c1, c2, N, j, hN, hj, ej, h0, h1, h2⟩
  · rw [if_pos c1, if_pos c2]
    exact ⟨⟨fun _ => trivial, fun z => absurd c1 z⟩, ⟨⟨fun _ => trivial, fun z => absurd c2 z⟩, trivial⟩, _, _, _, _, _, _, _, rfl, rfl, MF.refl⟩
  · subst ej
    obtain ⟨H, hH, hk, hw⟩ := AR.kk hj h2
    obtain ⟨a, w', l', k', u', m', x', y1, y2, y3, y4, y5⟩ := soonByM (s := s) (t := t) (m := m) (ts := ts) (tw := tw) (tl := tl) (tk := tk) (tu := tu) (b := b) (by omega) hH hk hw
    rw [if_neg c1, if_neg c2, y1, y2]
    refine ⟨⟨fun z => absurd z c1, fun _ => ⟨fun _ => trivial, fun _ => ⟨y3, trivial⟩⟩⟩, ⟨⟨fun z => absurd z c2, fun _ => ⟨fun _ => trivial, fun _ => ⟨y4, trivial⟩⟩⟩, trivial⟩, ?_⟩
    by_cases d : f_X4_isBetween b 0 2 = 0
    · rw [if_pos d, if_pos d]; exact ⟨_, _, _, _, _, _, _, rfl, rfl, MF.refl⟩
    · rw [if_neg d, if_neg d]; exact ⟨_, _, _, _, _, _, _, rfl, rfl, y5⟩
theorem bestL {s r t m0 tn ts tw tl tk tu : Nat → Int32} {W LF KF : Nat → Nat → Int32} {j H : Nat} (hj : j < 4) (hH : H ≤ 6) (hk : KK tn tn j (W j) (LF j) (KF j) H r) (hw : WI (W j) r) : ∀ (n v f f' : Nat) (v3 v2 : Int32) (a b c d m x : Nat → Int32), v + n = 3 → n < f → n < f' → ∃ o3 o2 a' b' c' d' m' x', l_X4_best_19 f s r t W LF KF tw tl tk tu (nI j) (nI v) v3 v2 a b c d = (nI 3, o3, o2, a', b', c', d') ∧ l_X5_best_19 f' m0 tn ts (nI j) (nI v) v3 v2 m x = (nI 3, o3, o2, m', x') ∧ q_X4_best_19 f s r t W LF KF tw tl tk tu (nI j) (nI v) v3 v2 a b c d ∧ q_X5_best_19 f' m0 tn ts (nI j) (nI v) v3 v2 m x ∧ MF m m' := by
  intro n
  induction n with
  | zero =>
    intro v f f' v3 v2 a b c d m x e h1 h2
    obtain ⟨f, rfl⟩ : ∃ g, f = g + 1 := ⟨f - 1, by omega⟩
    obtain ⟨f', rfl⟩ : ∃ g, f' = g + 1 := ⟨f' - 1, by omega⟩
    have ev : v = 3 := by omega
    subst ev
    have c1 : (2 : Int32) < nI 3 := by decide
    have c2 : (3 : Int32) ≤ nI 3 := by decide
    rw [l_X4_best_19, l_X5_best_19, q_X4_best_19, q_X5_best_19, if_pos c1, if_pos c2]
    exact ⟨_, _, _, _, _, _, _, _, rfl, rfl, ⟨fun _ => trivial, fun z => absurd c1 z⟩, ⟨fun _ => trivial, fun z => absurd c2 z⟩, MF.refl⟩
  | succ n ih =>
    intro v f f' v3 v2 a b c d m x e h1 h2
    obtain ⟨f, rfl⟩ : ∃ g, f = g + 1 := ⟨f - 1, by omega⟩
    obtain ⟨f', rfl⟩ : ∃ g, f' = g + 1 := ⟨f' - 1, by omega⟩
    have c1 : ¬ ((2 : Int32) < nI v) := nI_nlt (a := 2) (b := v) (by omega) (by omega)
    have c2 : ¬ ((3 : Int32) ≤ nI v) := nI_ge (a := v) (b := 3) (by omega) (by omega)
    obtain ⟨q, w', l', k', u', m', x', y1, y2, y3, y4, y5⟩ := soonByM (s := s) (t := t) (m := m) (ts := x) (tw := a) (tl := b) (tk := c) (tu := d) (b := nI v) hj hH hk hw
    rw [l_X4_best_19, l_X5_best_19, q_X4_best_19, q_X5_best_19, if_neg c1, if_neg c2, y1, y2, nI_1]
    dsimp only
    have eg : g_X4_best_38 q (nI v) v3 v2 = ((if ((if q = (-4 : Int32) then (0 : Int32) else (if v3 ≤ q then (0 : Int32) else (1 : Int32)))) = 0 then v3 else q), (if ((if q = (-4 : Int32) then (0 : Int32) else (if v3 ≤ q then (0 : Int32) else (1 : Int32)))) = 0 then v2 else nI v)) := by
      unfold g_X4_best_38
      have n10 : ¬ ((1 : Int32) = 0) := by decide
      by_cases k1 : q = -4
      · rw [if_pos k1, if_pos k1, if_pos rfl, if_pos rfl]
      · rw [if_neg k1, if_neg k1]
        by_cases k2 : v3 ≤ q
        · rw [if_pos k2, if_pos k2, if_pos rfl, if_pos rfl]
        · rw [if_neg k2, if_neg k2, if_neg n10, if_neg n10]
    rw [eg]
    dsimp only
    obtain ⟨o3, o2, a', b', c', d', m2, x2, g1, g2, g3, g4, g5⟩ := ih (v + 1) f f' (if ((if q = (-4 : Int32) then (0 : Int32) else (if v3 ≤ q then (0 : Int32) else (1 : Int32)))) = 0 then v3 else q) (if ((if q = (-4 : Int32) then (0 : Int32) else (if v3 ≤ q then (0 : Int32) else (1 : Int32)))) = 0 then v2 else nI v) w' l' k' u' m' x' (by omega) (by omega) (by omega)
    exact ⟨o3, o2, a', b', c', d', m2, x2, g1, g2, ⟨fun z => absurd z c1, fun _ => ⟨y3, g3⟩⟩, ⟨fun z => absurd z c2, fun _ => ⟨y4, g4⟩⟩, MF.trans y5 g5⟩
theorem bestM {s r t m tn ts tw tl tk tu : Nat → Int32} {W LF KF : Nat → Nat → Int32} {i : Int32} (hn : NR r t W LF KF tn) : p_X4_best s r t W LF KF tw tl tk tu i ∧ p_X5_best m tn ts i ∧ ∃ a tw' tl' tk' tu' m' ts', f_X4_best s r t W LF KF tw tl tk tu i = (a, tw', tl', tk', tu') ∧ f_X5_best m tn ts i = (a, m', ts') ∧ MF m m' := by
  rcases wayCase (s := s) (m := m) (i := i) hn with ⟨c1, c2⟩ | ⟨c1, c2, N, j, hN, hj, ej, h0, h1, h2⟩
  · unfold p_X4_best p_X5_best f_X4_best f_X5_best
    rw [if_pos c1, if_pos c2]
    exact ⟨⟨fun _ => trivial, fun z => absurd c1 z⟩, ⟨fun _ => trivial, fun z => absurd c2 z⟩, _, _, _, _, _, _, _, rfl, rfl, MF.refl⟩
  · subst ej
    obtain ⟨H, hH, hk, hw⟩ := AR.kk hj h2
    obtain ⟨o3, o2, a', b', c', d', m', x', g1, g2, g3, g4, g5⟩ := bestL (s := s) (t := t) (m0 := m) (ts := ts) (tw := tw) (tl := tl) (tk := tk) (tu := tu) (by omega) hH hk hw 3 0 xK xK 100 (-4) tw tl tk tu m ts (by decide) (by decide) (by decide)
    rw [nI_0] at g1 g2 g3 g4
    rw [f_X4_best_e g1, f_X5_best_e g2]
    unfold p_X4_best p_X5_best
    rw [if_neg c1, if_neg c2]
    exact ⟨⟨fun z => absurd z c1, fun _ => ⟨g3, trivial⟩⟩, ⟨fun z => absurd z c2, fun _ => ⟨g4, trivial⟩⟩, _, _, _, _, _, _, _, rfl, rfl, g5⟩
