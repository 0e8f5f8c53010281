/-! PURE. Part 30: what is changed -/
theorem f_X4_send_e {s : (Nat → Int32)} {r : (Nat → Int32)} {t : (Nat → Int32)} {W : (Nat → Nat → Int32)} {LF : (Nat → Nat → Int32)} {KF : (Nat → Nat → Int32)} {ER : (Nat → Nat → Int32)} {ET : (Nat → Nat → Int32)} {EW : (Nat → Nat → Nat → Int32)} {EL : (Nat → Nat → Nat → Int32)} {EK : (Nat → Nat → Nat → Int32)} {i size : Int32} {R : (Nat → Int32) × (Nat → Nat → Int32) × (Nat → Nat → Int32) × (Nat → Nat → Nat → Int32) × (Nat → Nat → Nat → Int32) × (Nat → Nat → Nat → Int32)} (e0 : (f_X4_remember s r t W LF KF ER ET EW EL EK) = R) : f_X4_send s r t W LF KF ER ET EW EL EK i size = (if (f_X4_isWay s r t W LF KF i) = 0 then ((-1 : Int32), s, W, ER, ET, EW, EL, EK) else (if (f_X4_isBetween size (1 : Int32) (999 : Int32)) = 0 then ((-1 : Int32), s, W, ER, ET, EW, EL, EK) else (if ((W (i.toNatClampNeg)) 7) < (99999 : Int32) then ((f_X3_post (W (i.toNatClampNeg)) (LF (i.toNatClampNeg)) (KF (i.toNatClampNeg)) r size).1, R.1, (va_up W (i.toNatClampNeg) (f_X3_post (W (i.toNatClampNeg)) (LF (i.toNatClampNeg)) (KF (i.toNatClampNeg)) r size).2), R.2.1, R.2.2.1, R.2.2.2.1, R.2.2.2.2.1, R.2.2.2.2.2) else ((-2 : Int32), s, W, ER, ET, EW, EL, EK)))) := by
  subst e0
  rfl
theorem f_X4_limit_e {s : (Nat → Int32)} {r : (Nat → Int32)} {t : (Nat → Int32)} {W : (Nat → Nat → Int32)} {LF : (Nat → Nat → Int32)} {KF : (Nat → Nat → Int32)} {ER : (Nat → Nat → Int32)} {ET : (Nat → Nat → Int32)} {EW : (Nat → Nat → Nat → Int32)} {EL : (Nat → Nat → Nat → Int32)} {EK : (Nat → Nat → Nat → Int32)} {i hh_ l : Int32} {R : (Nat → Int32) × (Nat → Nat → Int32) × (Nat → Nat → Int32) × (Nat → Nat → Nat → Int32) × (Nat → Nat → Nat → Int32) × (Nat → Nat → Nat → Int32)} (e0 : (f_X4_remember s r t W LF KF ER ET EW EL EK) = R) : f_X4_limit s r t W LF KF ER ET EW EL EK i hh_ l = (if (f_X4_isHop s r t W LF KF i hh_) = 0 then ((-1 : Int32), s, LF, ER, ET, EW, EL, EK) else (if (f_X4_isBetween l (20 : Int32) (999 : Int32)) = 0 then ((-1 : Int32), s, LF, ER, ET, EW, EL, EK) else (if ((LF (i.toNatClampNeg)) (hh_.toNatClampNeg)) = l then ((-2 : Int32), s, LF, ER, ET, EW, EL, EK) else (((LF (i.toNatClampNeg)) (hh_.toNatClampNeg)), R.1, (va_up LF (i.toNatClampNeg) (upd (LF (i.toNatClampNeg)) (hh_.toNatClampNeg) l)), R.2.1, R.2.2.1, R.2.2.2.1, R.2.2.2.2.1, R.2.2.2.2.2)))) := by
  subst e0
  rfl
theorem f_X4_kind_e {s : (Nat → Int32)} {r : (Nat → Int32)} {t : (Nat → Int32)} {W : (Nat → Nat → Int32)} {LF : (Nat → Nat → Int32)} {KF : (Nat → Nat → Int32)} {ER : (Nat → Nat → Int32)} {ET : (Nat → Nat → Int32)} {EW : (Nat → Nat → Nat → Int32)} {EL : (Nat → Nat → Nat → Int32)} {EK : (Nat → Nat → Nat → Int32)} {i hh_ k : Int32} {R : (Nat → Int32) × (Nat → Nat → Int32) × (Nat → Nat → Int32) × (Nat → Nat → Nat → Int32) × (Nat → Nat → Nat → Int32) × (Nat → Nat → Nat → Int32)} (e0 : (f_X4_remember s r t W LF KF ER ET EW EL EK) = R) : f_X4_kind s r t W LF KF ER ET EW EL EK i hh_ k = (if (f_X4_isHop s r t W LF KF i hh_) = 0 then ((-1 : Int32), s, KF, ER, ET, EW, EL, EK) else (if (f_X4_isBetween k (0 : Int32) (3 : Int32)) = 0 then ((-1 : Int32), s, KF, ER, ET, EW, EL, EK) else (if ((KF (i.toNatClampNeg)) (hh_.toNatClampNeg)) = k then ((-2 : Int32), s, KF, ER, ET, EW, EL, EK) else (((KF (i.toNatClampNeg)) (hh_.toNatClampNeg)), R.1, (va_up KF (i.toNatClampNeg) (upd (KF (i.toNatClampNeg)) (hh_.toNatClampNeg) k)), R.2.1, R.2.2.1, R.2.2.2.1, R.2.2.2.2.1, R.2.2.2.2.2)))) := by
  subst e0
  rfl
theorem f_X4_loss_e {s : (Nat → Int32)} {r : (Nat → Int32)} {t : (Nat → Int32)} {W : (Nat → Nat → Int32)} {LF : (Nat → Nat → Int32)} {KF : (Nat → Nat → Int32)} {ER : (Nat → Nat → Int32)} {ET : (Nat → Nat → Int32)} {EW : (Nat → Nat → Nat → Int32)} {EL : (Nat → Nat → Nat → Int32)} {EK : (Nat → Nat → Nat → Int32)} {i q : Int32} {R : (Nat → Int32) × (Nat → Nat → Int32) × (Nat → Nat → Int32) × (Nat → Nat → Nat → Int32) × (Nat → Nat → Nat → Int32) × (Nat → Nat → Nat → Int32)} (e0 : (f_X4_remember s r t W LF KF ER ET EW EL EK) = R) : f_X4_loss s r t W LF KF ER ET EW EL EK i q = (if (f_X4_isWay s r t W LF KF i) = 0 then ((-1 : Int32), s, W, ER, ET, EW, EL, EK) else (if (f_X4_isBetween q (0 : Int32) (99 : Int32)) = 0 then ((-1 : Int32), s, W, ER, ET, EW, EL, EK) else (if ((W (i.toNatClampNeg)) 10) = q then ((-2 : Int32), s, W, ER, ET, EW, EL, EK) else (((W (i.toNatClampNeg)) 10), R.1, (va_up W (i.toNatClampNeg) (upd (W (i.toNatClampNeg)) 10 q)), R.2.1, R.2.2.1, R.2.2.2.1, R.2.2.2.2.1, R.2.2.2.2.2)))) := by
  subst e0
  rfl
theorem f_X4_believe_e {s : (Nat → Int32)} {r : (Nat → Int32)} {t : (Nat → Int32)} {W : (Nat → Nat → Int32)} {LF : (Nat → Nat → Int32)} {KF : (Nat → Nat → Int32)} {ER : (Nat → Nat → Int32)} {ET : (Nat → Nat → Int32)} {EW : (Nat → Nat → Nat → Int32)} {EL : (Nat → Nat → Nat → Int32)} {EK : (Nat → Nat → Nat → Int32)} {bel : Int32} {R : (Nat → Int32) × (Nat → Nat → Int32) × (Nat → Nat → Int32) × (Nat → Nat → Nat → Int32) × (Nat → Nat → Nat → Int32) × (Nat → Nat → Nat → Int32)} (e0 : (f_X4_remember s r t W LF KF ER ET EW EL EK) = R) : f_X4_believe s r t W LF KF ER ET EW EL EK bel = (if (f_X4_isBetween bel (0 : Int32) (2 : Int32)) = 0 then ((-1 : Int32), s, r, ER, ET, EW, EL, EK) else (if (r 3) = bel then ((-2 : Int32), s, r, ER, ET, EW, EL, EK) else ((r 3), R.1, (upd r 3 bel), R.2.1, R.2.2.1, R.2.2.2.1, R.2.2.2.2.1, R.2.2.2.2.2))) := by
  subst e0
  rfl
theorem f_X5_send_e {m tn tp : Nat → Int32} {i size : Int32} {G : (Nat → Int32) × (Nat → Int32)} {S : (Nat → Int32) × (Nat → Int32)} (e0 : (f_X5_keeps m tn tp) = G) (e1 : (f_X5_sends G.1 tn i size) = S) : f_X5_send m tn tp i size = (if (f_X5_isWay m tn i) = 0 then ((-1 : Int32), m, tn, tp) else (if (f_X5_in size (1 : Int32) (999 : Int32)) = 0 then ((-1 : Int32), m, tn, tp) else (if (tn ((f_X5_at i (7 : Int32)).toNatClampNeg)) < (99999 : Int32) then ((S.1 3), S.1, S.2, G.2) else ((-2 : Int32), m, tn, tp)))) := by
  subst e0
  subst e1
  rfl
theorem p_X5_send_e {m tn tp : Nat → Int32} {i size : Int32} {G : (Nat → Int32) × (Nat → Int32)} (e0 : (f_X5_keeps m tn tp) = G) : p_X5_send m tn tp i size = (((f_X5_isWay m tn i) = 0 → True) ∧ (¬ ((f_X5_isWay m tn i) = 0) → (((f_X5_in size (1 : Int32) (999 : Int32)) = 0 → True) ∧ (¬ ((f_X5_in size (1 : Int32) (999 : Int32)) = 0) → (vp_in (f_X5_at i (7 : Int32)) 103 ∧ (((tn ((f_X5_at i (7 : Int32)).toNatClampNeg)) < (99999 : Int32) → (p_X5_keeps m tn tp ∧ (p_X5_sends G.1 tn i size ∧ True))) ∧ (¬ ((tn ((f_X5_at i (7 : Int32)).toNatClampNeg)) < (99999 : Int32)) → True))))))) := by
  subst e0
  rfl
theorem f_X5_changed_e {m tn tp : Nat → Int32} {place v : Int32} {G : (Nat → Int32) × (Nat → Int32)} (e0 : (f_X5_keeps m tn tp) = G) : f_X5_changed m tn tp place v = (if (tn (place.toNatClampNeg)) = v then ((-2 : Int32), m, tn, tp) else ((tn (place.toNatClampNeg)), G.1, (upd tn (place.toNatClampNeg) v), G.2)) := by
  subst e0
  rfl
theorem f_X4_tick_e {s : (Nat → Int32)} {r : (Nat → Int32)} {t : (Nat → Int32)} {W : (Nat → Nat → Int32)} {LF : (Nat → Nat → Int32)} {KF : (Nat → Nat → Int32)} {ER : (Nat → Nat → Int32)} {ET : (Nat → Nat → Int32)} {EW : (Nat → Nat → Nat → Int32)} {EL : (Nat → Nat → Nat → Int32)} {EK : (Nat → Nat → Nat → Int32)} {nn : Int32} {R : (Nat → Int32) × (Nat → Nat → Int32) × (Nat → Nat → Int32) × (Nat → Nat → Nat → Int32) × (Nat → Nat → Nat → Int32) × (Nat → Nat → Nat → Int32)} {v : Int32} {L : Int32 × (Nat → Int32) × (Nat → Nat → Int32) × (Nat → Nat → Int32) × (Nat → Nat → Nat → Int32) × (Nat → Nat → Nat → Int32) × (Nat → Nat → Nat → Int32) × Int32 × (Nat → Nat → Int32)} (e0 : (f_X4_remember s r t W LF KF ER ET EW EL EK) = R) (e1 : (f_X0_allLost r t W LF KF) = v) (e2 : (l_X4_tick_44 xK s r t W LF KF ER ET EW EL EK nn v R.1 R.2.1 R.2.2.1 R.2.2.2.1 R.2.2.2.2.1 R.2.2.2.2.2 (0 : Int32) W) = L) : f_X4_tick s r t W LF KF ER ET EW EL EK nn = (if (f_X4_isBetween nn (1 : Int32) (99 : Int32)) = 0 then ((-1 : Int32), s, t, W, ER, ET, EW, EL, EK) else (if ((t 1) + nn) ≤ (9999 : Int32) then (((f_X0_allLost r (upd t 1 ((t 1) + nn)) L.2.2.2.2.2.2.2.2 LF KF) - L.1), L.2.1, (upd t 1 ((t 1) + nn)), L.2.2.2.2.2.2.2.2, L.2.2.1, L.2.2.2.1, L.2.2.2.2.1, L.2.2.2.2.2.1, L.2.2.2.2.2.2.1) else ((-2 : Int32), s, t, W, ER, ET, EW, EL, EK))) := by
  subst e0
  subst e1
  subst e2
  rfl
theorem p_X4_tick_e {s : (Nat → Int32)} {r : (Nat → Int32)} {t : (Nat → Int32)} {W : (Nat → Nat → Int32)} {LF : (Nat → Nat → Int32)} {KF : (Nat → Nat → Int32)} {ER : (Nat → Nat → Int32)} {ET : (Nat → Nat → Int32)} {EW : (Nat → Nat → Nat → Int32)} {EL : (Nat → Nat → Nat → Int32)} {EK : (Nat → Nat → Nat → Int32)} {nn : Int32} {R : (Nat → Int32) × (Nat → Nat → Int32) × (Nat → Nat → Int32) × (Nat → Nat → Nat → Int32) × (Nat → Nat → Nat → Int32) × (Nat → Nat → Nat → Int32)} {v : Int32} {L : Int32 × (Nat → Int32) × (Nat → Nat → Int32) × (Nat → Nat → Int32) × (Nat → Nat → Nat → Int32) × (Nat → Nat → Nat → Int32) × (Nat → Nat → Nat → Int32) × Int32 × (Nat → Nat → Int32)} (e0 : (f_X4_remember s r t W LF KF ER ET EW EL EK) = R) (e1 : (f_X0_allLost r t W LF KF) = v) (e2 : (l_X4_tick_44 xK s r t W LF KF ER ET EW EL EK nn v R.1 R.2.1 R.2.2.1 R.2.2.2.1 R.2.2.2.2.1 R.2.2.2.2.2 (0 : Int32) W) = L) : p_X4_tick s r t W LF KF ER ET EW EL EK nn = (((f_X4_isBetween nn (1 : Int32) (99 : Int32)) = 0 → True) ∧ (¬ ((f_X4_isBetween nn (1 : Int32) (99 : Int32)) = 0) → ((((t 1) + nn) ≤ (9999 : Int32) → (p_X4_remember s r t W LF KF ER ET EW EL EK ∧ (p_X0_allLost r t W LF KF ∧ ((q_X4_tick_44 xK s r t W LF KF ER ET EW EL EK nn v R.1 R.2.1 R.2.2.1 R.2.2.2.1 R.2.2.2.2.1 R.2.2.2.2.2 (0 : Int32) W) ∧ (p_X0_allLost r (upd t 1 ((t 1) + nn)) L.2.2.2.2.2.2.2.2 LF KF ∧ True))))) ∧ (¬ (((t 1) + nn) ≤ (9999 : Int32)) → True)))) := by
  subst e0
  subst e1
  subst e2
  rfl
theorem f_X5_tick_e {m tn tp : Nat → Int32} {nn : Int32} {G : (Nat → Int32) × (Nat → Int32)} {v : Int32} {L : Int32 × (Nat → Int32) × (Nat → Int32) × Int32 × (Nat → Int32)} (e0 : (f_X5_keeps m tn tp) = G) (e1 : (f_X5_sumOf G.1 tn (8 : Int32)) = v) (e2 : (l_X5_tick_42 xK m tn tp nn v G.1 G.2 (0 : Int32) tn) = L) : f_X5_tick m tn tp nn = (if (f_X5_in nn (1 : Int32) (99 : Int32)) = 0 then ((-1 : Int32), m, tn, tp) else (if ((tn 1) + nn) ≤ (9999 : Int32) then (((f_X5_sumOf L.2.1 (upd L.2.2.2.2 1 ((L.2.2.2.2 1) + nn)) (8 : Int32)) - L.1), L.2.1, (upd L.2.2.2.2 1 ((L.2.2.2.2 1) + nn)), L.2.2.1) else ((-2 : Int32), m, tn, tp))) := by
  subst e0
  subst e1
  subst e2
  rfl
theorem p_X5_tick_e {m tn tp : Nat → Int32} {nn : Int32} {G : (Nat → Int32) × (Nat → Int32)} {v : Int32} {L : Int32 × (Nat → Int32) × (Nat → Int32) × Int32 × (Nat → Int32)} (e0 : (f_X5_keeps m tn tp) = G) (e1 : (f_X5_sumOf G.1 tn (8 : Int32)) = v) (e2 : (l_X5_tick_42 xK m tn tp nn v G.1 G.2 (0 : Int32) tn) = L) : p_X5_tick m tn tp nn = (((f_X5_in nn (1 : Int32) (99 : Int32)) = 0 → True) ∧ (¬ ((f_X5_in nn (1 : Int32) (99 : Int32)) = 0) → ((((tn 1) + nn) ≤ (9999 : Int32) → (p_X5_keeps m tn tp ∧ (p_X5_sumOf G.1 tn (8 : Int32) ∧ ((q_X5_tick_42 xK m tn tp nn v G.1 G.2 (0 : Int32) tn) ∧ (p_X5_sumOf L.2.1 (upd L.2.2.2.2 1 ((L.2.2.2.2 1) + nn)) (8 : Int32) ∧ True))))) ∧ (¬ (((tn 1) + nn) ≤ (9999 : Int32)) → True)))) := by
  subst e0
  subst e1
  subst e2
  rfl
theorem AR.lim {N : Nat} {W LF KF : Nat → Nat → Int32} {r tn : Nat → Int32} {j h H : Nat} {l : Int32} (hN : N ≤ 4) (ha : AR N W LF KF r tn) (hj : j < N) (hH : H ≤ 6) (hw : WR tn j (W j) (LF j) (KF j) H) (hh : h < H) : AR N W (va_up LF j (upd (LF j) h l)) KF r (upd tn (19 + 24 * j + h) l) := by
  refine ⟨by rw [upd_o (by omega)]; exact ha.1, RR.upd ha.2.1 (by omega), fun i hi => ?_⟩
  obtain ⟨H', hH', hw', hwi⟩ := ha.2.2 i hi
  obtain ⟨w1, w2, w3, w4, w5⟩ := hw'
  refine ⟨H', hH', ?_, hwi⟩
  by_cases e : i = j
  · subst e
    rw [va_s]
    refine ⟨fun k hk => by rw [upd_o (by omega)]; exact w1 k hk, w2, w3, fun k hk => ?_, fun k hk => by rw [upd_o (by omega)]; exact w5 k hk⟩
    by_cases d : k = h
    · subst d; rw [upd_s, upd_s]
    · rw [upd_o (by omega), upd_o d]; exact w4 k hk
  · rw [va_o e]
    exact ⟨fun k hk => by rw [upd_o (by omega)]; exact w1 k hk, w2, w3, fun k hk => by rw [upd_o (by omega)]; exact w4 k hk, fun k hk => by rw [upd_o (by omega)]; exact w5 k hk⟩
theorem AR.kin {N : Nat} {W LF KF : Nat → Nat → Int32} {r tn : Nat → Int32} {j h H : Nat} {l : Int32} (hN : N ≤ 4) (ha : AR N W LF KF r tn) (hj : j < N) (hH : H ≤ 6) (hw : WR tn j (W j) (LF j) (KF j) H) (hh : h < H) : AR N W LF (va_up KF j (upd (KF j) h l)) r (upd tn (25 + 24 * j + h) l) := by
  refine ⟨by rw [upd_o (by omega)]; exact ha.1, RR.upd ha.2.1 (by omega), fun i hi => ?_⟩
  obtain ⟨H', hH', hw', hwi⟩ := ha.2.2 i hi
  obtain ⟨w1, w2, w3, w4, w5⟩ := hw'
  refine ⟨H', hH', ?_, hwi⟩
  by_cases e : i = j
  · subst e
    rw [va_s]
    refine ⟨fun k hk => by rw [upd_o (by omega)]; exact w1 k hk, w2, w3, fun k hk => by rw [upd_o (by omega)]; exact w4 k hk, fun k hk => ?_⟩
    by_cases d : k = h
    · subst d; rw [upd_s, upd_s]
    · rw [upd_o (by omega), upd_o d]; exact w5 k hk
  · rw [va_o e]
    exact ⟨fun k hk => by rw [upd_o (by omega)]; exact w1 k hk, w2, w3, fun k hk => by rw [upd_o (by omega)]; exact w4 k hk, fun k hk => by rw [upd_o (by omega)]; exact w5 k hk⟩
theorem AR.bel {N : Nat} {W LF KF : Nat → Nat → Int32} {r tn : Nat → Int32} {b : Int32} (ha : AR N W LF KF r tn) : AR N W LF KF (upd r 3 b) (upd tn 5 b) := by
  refine ⟨by rw [upd_o (by omega)]; exact ha.1, fun k hk => ?_, fun i hi => ?_⟩
  · by_cases d : k = 3
    · subst d; rw [upd_s, upd_s]
    · rw [upd_o (by omega), upd_o d]; exact ha.2.1 k hk
  · obtain ⟨H', hH', ⟨w1, w2, w3, w4, w5⟩, hwi⟩ := ha.2.2 i hi
    exact ⟨H', hH', ⟨fun k hk => by rw [upd_o (by omega)]; exact w1 k hk, w2, w3, fun k hk => by rw [upd_o (by omega)]; exact w4 k hk, fun k hk => by rw [upd_o (by omega)]; exact w5 k hk⟩, WI.congr hwi (fun _ _ => rfl) (fun k hk => upd_o (by omega))⟩
theorem sendM {s r t m tn tp : Nat → Int32} {W LF KF ER ET : Nat → Nat → Int32} {EW EL EK : Nat → Nat → Nat → Int32} {i size : Int32} (hn : NR r t W LF KF tn) (hu : UR s ER ET EW EL EK m tp) : p_X4_send s r t W LF KF ER ET EW EL EK i size ∧ p_X5_send m tn tp i size ∧ ∃ a s' W' ER' ET' EW' EL' EK' m' tn' tp', f_X4_send s r t W LF KF ER ET EW EL EK i size = (a, s', W', ER', ET', EW', EL', EK') ∧ f_X5_send m tn tp i size = (a, m', tn', tp') ∧ NR r t W' LF KF tn' ∧ UR s' ER' ET' EW' EL' EK' m' tp' ∧ m' 1 = m 1 := by
  obtain ⟨s', ER', ET', EW', EL', EK', mk, tpk, r1, r2, r3, r4, r5, r6⟩ := rememberR hn hu
  rcases wayCase (s := s) (m := m) (i := i) hn with ⟨c1, c2⟩ | ⟨c1, c2, N, j, hN, hj, ej, h0, h1, h2⟩
  · unfold p_X4_send p_X5_send f_X4_send f_X5_send
    rw [if_pos c1, if_pos c2]
    exact ⟨⟨fun _ => trivial, fun z => absurd c1 z⟩, ⟨fun _ => trivial, fun z => absurd c2 z⟩, _, _, _, _, _, _, _, _, _, _, _, rfl, rfl, hn, hu, rfl⟩
  · subst ej
    obtain ⟨H, hH, hk, hw⟩ := AR.kk hj h2
    have hc : (nI j).toNatClampNeg = j := nI_clamp (by omega)
    have v4 : vp_in (nI j) 4 := vp_in_nI (by omega) (by omega)
    have v7 : vp_in (f_X5_at (nI j) 7) 103 := ai (by omega) (k := 7) (by decide) rfl
    obtain ⟨a, m', t', w', s1, s2, s3, s4, s5, s6, s7, s8, s9, s10⟩ := sendsK (m := mk) (size := size) (by omega) hH hk
    rw [f_X4_send_e r1, f_X5_send_e r2 s1, p_X5_send_e r2]
    unfold p_X4_send
    rw [inB, if_neg c1, if_neg c2, hc, a7 (by omega), hk.g 7 (by decide), s2]
    refine ⟨⟨fun z => absurd z c1, fun _ => ⟨fun _ => trivial, fun _ => ⟨v4, fun _ => ⟨r3, v4, s7, trivial⟩, fun _ => trivial⟩⟩⟩, ⟨fun z => absurd z c2, fun _ => ⟨fun _ => trivial, fun _ => ⟨v7, fun _ => ⟨r4, s6, trivial⟩, fun _ => trivial⟩⟩⟩, ?_⟩
    by_cases b : f_X4_isBetween size 1 999 = 0
    · rw [if_pos b, if_pos b]
      exact ⟨_, _, _, _, _, _, _, _, _, _, _, rfl, rfl, hn, hu, rfl⟩
    · rw [if_neg b, if_neg b]
      by_cases d : W j 7 < 99999
      · rw [if_pos d, if_pos d]
        dsimp only
        rw [s3]
        refine ⟨_, _, _, _, _, _, _, _, _, _, _, rfl, rfl, ⟨N, hN, h0, ?_, AR.one hj h2 ⟨H, hH, s8, ?_⟩⟩, UR.m r5 (s9 0 (by decide)), (s9 1 (by decide)).trans (r6 1 (by decide))⟩
        · rw [s8.2.2 1 (by omega)]; exact h1
        · obtain ⟨f0, f1, f2, f3, f4, f5, f6⟩ := s10
          refine WI.congr hw (fun k hk => ?_) (fun _ _ => rfl)
          have : k = 0 ∨ k = 1 ∨ k = 2 ∨ k = 3 ∨ k = 4 ∨ k = 5 := by omega
          rcases this with e | e | e | e | e | e <;> subst e <;> assumption
      · rw [if_neg d, if_neg d]
        exact ⟨_, _, _, _, _, _, _, _, _, _, _, rfl, rfl, hn, hu, rfl⟩
theorem limitM {s r t m tn tp : Nat → Int32} {W LF KF ER ET : Nat → Nat → Int32} {EW EL EK : Nat → Nat → Nat → Int32} {i hh l : Int32} (hn : NR r t W LF KF tn) (hu : UR s ER ET EW EL EK m tp) : p_X4_limit s r t W LF KF ER ET EW EL EK i hh l ∧ p_X5_limit m tn tp i hh l ∧ ∃ a s' LF' ER' ET' EW' EL' EK' m' tn' tp', f_X4_limit s r t W LF KF ER ET EW EL EK i hh l = (a, s', LF', ER', ET', EW', EL', EK') ∧ f_X5_limit m tn tp i hh l = (a, m', tn', tp') ∧ NR r t W LF' KF tn' ∧ UR s' ER' ET' EW' EL' EK' m' tp' ∧ m' 1 = m 1 := by
  obtain ⟨s', ER', ET', EW', EL', EK', mk, tpk, r1, r2, r3, r4, r5, r6⟩ := rememberR hn hu
  obtain ⟨p1, p2, hcase⟩ := hopCase (s := s) (m := m) (i := i) (hh := hh) hn
  rcases hcase with ⟨c1, c2⟩ | ⟨c1, c2, N, j, H, h, hN, hj, ej, h0, h1, h2, hH, hw, hwi, hlt, eh⟩
  · unfold p_X4_limit p_X5_limit f_X4_limit f_X5_limit g_X5_limit_6 h_X5_limit_6
    rw [if_pos c1, if_pos c2]
    exact ⟨⟨p1, fun _ => trivial, fun z => absurd c1 z⟩, ⟨p2, ⟨fun _ => trivial, fun z => absurd c2 z⟩, trivial⟩, _, _, _, _, _, _, _, _, _, _, _, rfl, rfl, hn, hu, rfl⟩
  · subst ej
    subst eh
    have hc : (nI j).toNatClampNeg = j := nI_clamp (by omega)
    have hch : (nI h).toNatClampNeg = h := nI_clamp (by omega)
    have v4 : vp_in (nI j) 4 := vp_in_nI (by omega) (by omega)
    have v6 : vp_in (nI h) 6 := vp_in_nI (by omega) (by omega)
    have e12 : (12 : Int32) + nI h = nI (12 + h) := nI_add 12 h
    have l12 : (f_X5_at (nI j) (nI (12 + h))).toNatClampNeg = 19 + 24 * j + h := by rw [at_cl (by omega) (by omega)]; omega
    have v12 : vp_in (f_X5_at (nI j) (nI (12 + h))) 103 := at_in (by omega) (by omega)
    have eL : tn (19 + 24 * j + h) = LF j h := hw.2.2.2.1 h hlt
    have hch5 : f_X5_changed m tn tp (f_X5_at (nI j) (nI (12 + h))) l = (if LF j h = l then ((-2 : Int32), m, tn, tp) else (LF j h, mk, upd tn (19 + 24 * j + h) l, tpk)) := by
      rw [f_X5_changed_e r2, l12, eL]
    have pch : p_X5_changed m tn tp (f_X5_at (nI j) (nI (12 + h))) l := ⟨v12, fun _ => trivial, fun _ => ⟨r4, v12, trivial⟩⟩
    rw [f_X4_limit_e r1]
    unfold p_X4_limit p_X5_limit f_X5_limit g_X5_limit_6 h_X5_limit_6
    rw [inB, if_neg c1, if_neg c2, hc, hch, e12, hch5]
    refine ⟨⟨p1, fun z => absurd z c1, fun _ => ⟨fun _ => trivial, fun _ => ⟨v4, v6, fun _ => trivial, fun _ => ⟨r3, v4, v6, trivial⟩⟩⟩⟩, ⟨p2, ⟨fun z => absurd z c2, fun _ => ⟨fun _ => trivial, fun _ => ⟨pch, trivial⟩⟩⟩, trivial⟩, ?_⟩
    by_cases b : f_X4_isBetween l 20 999 = 0
    · rw [if_pos b, if_pos b]
      exact ⟨_, _, _, _, _, _, _, _, _, _, _, rfl, rfl, hn, hu, rfl⟩
    · rw [if_neg b, if_neg b]
      by_cases d : LF j h = l
      · rw [if_pos d, if_pos d]
        exact ⟨_, _, _, _, _, _, _, _, _, _, _, rfl, rfl, hn, hu, rfl⟩
      · rw [if_neg d, if_neg d]
        dsimp only
        exact ⟨_, _, _, _, _, _, _, _, _, _, _, rfl, rfl, ⟨N, hN, h0, by rw [upd_o (by omega)]; exact h1, AR.lim hN h2 hj hH hw hlt⟩, r5, r6 1 (by decide)⟩
theorem kindM {s r t m tn tp : Nat → Int32} {W LF KF ER ET : Nat → Nat → Int32} {EW EL EK : Nat → Nat → Nat → Int32} {i hh k : Int32} (hn : NR r t W LF KF tn) (hu : UR s ER ET EW EL EK m tp) : p_X4_kind s r t W LF KF ER ET EW EL EK i hh k ∧ p_X5_kind m tn tp i hh k ∧ ∃ a s' KF' ER' ET' EW' EL' EK' m' tn' tp', f_X4_kind s r t W LF KF ER ET EW EL EK i hh k = (a, s', KF', ER', ET', EW', EL', EK') ∧ f_X5_kind m tn tp i hh k = (a, m', tn', tp') ∧ NR r t W LF KF' tn' ∧ UR s' ER' ET' EW' EL' EK' m' tp' ∧ m' 1 = m 1 := by
  obtain ⟨s', ER', ET', EW', EL', EK', mk, tpk, r1, r2, r3, r4, r5, r6⟩ := rememberR hn hu
  obtain ⟨p1, p2, hcase⟩ := hopCase (s := s) (m := m) (i := i) (hh := hh) hn
  rcases hcase with ⟨c1, c2⟩ | ⟨c1, c2, N, j, H, h, hN, hj, ej, h0, h1, h2, hH, hw, hwi, hlt, eh⟩
  · unfold p_X4_kind p_X5_kind f_X4_kind f_X5_kind g_X5_kind_6 h_X5_kind_6
    rw [if_pos c1, if_pos c2]
    exact ⟨⟨p1, fun _ => trivial, fun z => absurd c1 z⟩, ⟨p2, ⟨fun _ => trivial, fun z => absurd c2 z⟩, trivial⟩, _, _, _, _, _, _, _, _, _, _, _, rfl, rfl, hn, hu, rfl⟩
  · subst ej
    subst eh
    have hc : (nI j).toNatClampNeg = j := nI_clamp (by omega)
    have hch : (nI h).toNatClampNeg = h := nI_clamp (by omega)
    have v4 : vp_in (nI j) 4 := vp_in_nI (by omega) (by omega)
    have v6 : vp_in (nI h) 6 := vp_in_nI (by omega) (by omega)
    have e12 : (18 : Int32) + nI h = nI (18 + h) := nI_add 18 h
    have l12 : (f_X5_at (nI j) (nI (18 + h))).toNatClampNeg = 25 + 24 * j + h := by rw [at_cl (by omega) (by omega)]; omega
    have v12 : vp_in (f_X5_at (nI j) (nI (18 + h))) 103 := at_in (by omega) (by omega)
    have eL : tn (25 + 24 * j + h) = KF j h := hw.2.2.2.2 h hlt
    have hch5 : f_X5_changed m tn tp (f_X5_at (nI j) (nI (18 + h))) k = (if KF j h = k then ((-2 : Int32), m, tn, tp) else (KF j h, mk, upd tn (25 + 24 * j + h) k, tpk)) := by
      rw [f_X5_changed_e r2, l12, eL]
    have pch : p_X5_changed m tn tp (f_X5_at (nI j) (nI (18 + h))) k := ⟨v12, fun _ => trivial, fun _ => ⟨r4, v12, trivial⟩⟩
    rw [f_X4_kind_e r1]
    unfold p_X4_kind p_X5_kind f_X5_kind g_X5_kind_6 h_X5_kind_6
    rw [inB, if_neg c1, if_neg c2, hc, hch, e12, hch5]
    refine ⟨⟨p1, fun z => absurd z c1, fun _ => ⟨fun _ => trivial, fun _ => ⟨v4, v6, fun _ => trivial, fun _ => ⟨r3, v4, v6, trivial⟩⟩⟩⟩, ⟨p2, ⟨fun z => absurd z c2, fun _ => ⟨fun _ => trivial, fun _ => ⟨pch, trivial⟩⟩⟩, trivial⟩, ?_⟩
    by_cases b : f_X4_isBetween k 0 3 = 0
    · rw [if_pos b, if_pos b]
      exact ⟨_, _, _, _, _, _, _, _, _, _, _, rfl, rfl, hn, hu, rfl⟩
    · rw [if_neg b, if_neg b]
      by_cases d : KF j h = k
      · rw [if_pos d, if_pos d]
        exact ⟨_, _, _, _, _, _, _, _, _, _, _, rfl, rfl, hn, hu, rfl⟩
      · rw [if_neg d, if_neg d]
        dsimp only
        exact ⟨_, _, _, _, _, _, _, _, _, _, _, rfl, rfl, ⟨N, hN, h0, by rw [upd_o (by omega)]; exact h1, AR.kin hN h2 hj hH hw hlt⟩, r5, r6 1 (by decide)⟩
theorem lossM {s r t m tn tp : Nat → Int32} {W LF KF ER ET : Nat → Nat → Int32} {EW EL EK : Nat → Nat → Nat → Int32} {i q : Int32} (hn : NR r t W LF KF tn) (hu : UR s ER ET EW EL EK m tp) : p_X4_loss s r t W LF KF ER ET EW EL EK i q ∧ p_X5_loss m tn tp i q ∧ ∃ a s' W' ER' ET' EW' EL' EK' m' tn' tp', f_X4_loss s r t W LF KF ER ET EW EL EK i q = (a, s', W', ER', ET', EW', EL', EK') ∧ f_X5_loss m tn tp i q = (a, m', tn', tp') ∧ NR r t W' LF KF tn' ∧ UR s' ER' ET' EW' EL' EK' m' tp' ∧ m' 1 = m 1 := by
  obtain ⟨s', ER', ET', EW', EL', EK', mk, tpk, r1, r2, r3, r4, r5, r6⟩ := rememberR hn hu
  rcases wayCase (s := s) (m := m) (i := i) hn with ⟨c1, c2⟩ | ⟨c1, c2, N, j, hN, hj, ej, h0, h1, h2⟩
  · unfold p_X4_loss p_X5_loss f_X4_loss f_X5_loss g_X5_loss_5 h_X5_loss_5
    rw [if_pos c1, if_pos c2]
    exact ⟨⟨fun _ => trivial, fun z => absurd c1 z⟩, ⟨⟨fun _ => trivial, fun z => absurd c2 z⟩, trivial⟩, _, _, _, _, _, _, _, _, _, _, _, rfl, rfl, hn, hu, rfl⟩
  · subst ej
    obtain ⟨H, hH, hk, hw⟩ := AR.kk hj h2
    have hc : (nI j).toNatClampNeg = j := nI_clamp (by omega)
    have v4 : vp_in (nI j) 4 := vp_in_nI (by omega) (by omega)
    have v10 : vp_in (f_X5_at (nI j) 10) 103 := ai (by omega) (k := 10) (by decide) rfl
    have hch5 : f_X5_changed m tn tp (f_X5_at (nI j) 10) q = (if W j 10 = q then ((-2 : Int32), m, tn, tp) else (W j 10, mk, upd tn (7 + 24 * j + 10) q, tpk)) := by
      rw [f_X5_changed_e r2, a10 (by omega), hk.g 10 (by decide)]
    have pch : p_X5_changed m tn tp (f_X5_at (nI j) 10) q := ⟨v10, fun _ => trivial, fun _ => ⟨r4, v10, trivial⟩⟩
    rw [f_X4_loss_e r1]
    unfold p_X4_loss p_X5_loss f_X5_loss g_X5_loss_5 h_X5_loss_5
    rw [inB, if_neg c1, if_neg c2, hc, hch5]
    refine ⟨⟨fun z => absurd z c1, fun _ => ⟨fun _ => trivial, fun _ => ⟨v4, fun _ => trivial, fun _ => ⟨r3, v4, trivial⟩⟩⟩⟩, ⟨⟨fun z => absurd z c2, fun _ => ⟨fun _ => trivial, fun _ => ⟨pch, trivial⟩⟩⟩, trivial⟩, ?_⟩
    by_cases b : f_X4_isBetween q 0 99 = 0
    · rw [if_pos b, if_pos b]
      exact ⟨_, _, _, _, _, _, _, _, _, _, _, rfl, rfl, hn, hu, rfl⟩
    · rw [if_neg b, if_neg b]
      by_cases d : W j 10 = q
      · rw [if_pos d, if_pos d]
        exact ⟨_, _, _, _, _, _, _, _, _, _, _, rfl, rfl, hn, hu, rfl⟩
      · rw [if_neg d, if_neg d]
        dsimp only
        refine ⟨_, _, _, _, _, _, _, _, _, _, _, rfl, rfl, ⟨N, hN, h0, by rw [upd_o (by omega)]; exact h1, AR.one hj h2 ⟨H, hH, hk.upd (k := 10) (by decide) rfl, ?_⟩⟩, r5, r6 1 (by decide)⟩
        exact WI.congr hw (fun k hk => upd_o (by omega)) (fun _ _ => rfl)
theorem believeM {s r t m tn tp : Nat → Int32} {W LF KF ER ET : Nat → Nat → Int32} {EW EL EK : Nat → Nat → Nat → Int32} {b : Int32} (hn : NR r t W LF KF tn) (hu : UR s ER ET EW EL EK m tp) : p_X4_believe s r t W LF KF ER ET EW EL EK b ∧ p_X5_believe m tn tp b ∧ ∃ a s' r' ER' ET' EW' EL' EK' m' tn' tp', f_X4_believe s r t W LF KF ER ET EW EL EK b = (a, s', r', ER', ET', EW', EL', EK') ∧ f_X5_believe m tn tp b = (a, m', tn', tp') ∧ NR r' t W LF KF tn' ∧ UR s' ER' ET' EW' EL' EK' m' tp' ∧ m' 1 = m 1 := by
  obtain ⟨s', ER', ET', EW', EL', EK', mk, tpk, r1, r2, r3, r4, r5, r6⟩ := rememberR hn hu
  have hn' := hn
  obtain ⟨N, hN, h0, h1, h2⟩ := hn'
  have v5 : vp_in (5 : Int32) 103 := vp_in_nI (n := 5) (N := 103) (by decide) (by decide)
  have e5 : tn 5 = r 3 := h2.2.1 3 (by decide)
  have hch5 : f_X5_changed m tn tp 5 b = (if r 3 = b then ((-2 : Int32), m, tn, tp) else (r 3, mk, upd tn 5 b, tpk)) := by
    rw [f_X5_changed_e r2, show (5 : Int32).toNatClampNeg = 5 from rfl, e5]
  have pch : p_X5_changed m tn tp 5 b := ⟨v5, fun _ => trivial, fun _ => ⟨r4, v5, trivial⟩⟩
  rw [f_X4_believe_e r1]
  unfold p_X4_believe p_X5_believe f_X5_believe g_X5_believe_6 h_X5_believe_6
  rw [inB, hch5]
  refine ⟨⟨fun _ => trivial, fun _ => ⟨fun _ => trivial, fun _ => ⟨r3, trivial⟩⟩⟩, ⟨⟨fun _ => trivial, fun _ => ⟨pch, trivial⟩⟩, trivial⟩, ?_⟩
  by_cases c : f_X4_isBetween b 0 2 = 0
  · rw [if_pos c, if_pos c]
    exact ⟨_, _, _, _, _, _, _, _, _, _, _, rfl, rfl, hn, hu, rfl⟩
  · rw [if_neg c, if_neg c]
    by_cases d : r 3 = b
    · rw [if_pos d, if_pos d]
      exact ⟨_, _, _, _, _, _, _, _, _, _, _, rfl, rfl, hn, hu, rfl⟩
    · rw [if_neg d, if_neg d]
      dsimp only
      exact ⟨_, _, _, _, _, _, _, _, _, _, _, rfl, rfl, ⟨N, hN, h0, by rw [upd_o (by omega)]; exact h1, AR.bel h2⟩, r5, r6 1 (by decide)⟩
