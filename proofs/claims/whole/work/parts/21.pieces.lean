/-! PURE. Part 21: the pieces of the way's methods, named -/
theorem f_X5_sends_e {m t : Nat → Int32} {i size : Int32} {c : Int32} {a : Int32} {b : Int32} (e0 : ((if (t ((f_X5_at i (10 : Int32)).toNatClampNeg)) ≤ ((f_X5_drawn t i (t ((f_X5_at i (7 : Int32)).toNatClampNeg))) - (f_X5_drawn t i (t ((f_X5_at i (7 : Int32)).toNatClampNeg))) / (100 : Int32) * (100 : Int32)) then (0 : Int32) else (1 : Int32))) = c) (e1 : (g_X5_sends_37 t i size c) = a) (e2 : (g_X5_sends_59 t size (upd m 3 a) ((upd m 3 a) 3)) = b) : f_X5_sends m t i size = ((upd (upd m 3 a) 4 b), (upd (upd (upd t ((f_X5_at i (7 : Int32)).toNatClampNeg) ((t ((f_X5_at i (7 : Int32)).toNatClampNeg)) + (1 : Int32))) ((f_X5_at i (9 : Int32)).toNatClampNeg) (((upd t ((f_X5_at i (7 : Int32)).toNatClampNeg) ((t ((f_X5_at i (7 : Int32)).toNatClampNeg)) + (1 : Int32))) ((f_X5_at i (9 : Int32)).toNatClampNeg)) + ((if ((upd (upd m 3 a) 4 b) 4) = 0 then (0 : Int32) else (1 : Int32))))) ((f_X5_at i (8 : Int32)).toNatClampNeg) (((upd (upd t ((f_X5_at i (7 : Int32)).toNatClampNeg) ((t ((f_X5_at i (7 : Int32)).toNatClampNeg)) + (1 : Int32))) ((f_X5_at i (9 : Int32)).toNatClampNeg) (((upd t ((f_X5_at i (7 : Int32)).toNatClampNeg) ((t ((f_X5_at i (7 : Int32)).toNatClampNeg)) + (1 : Int32))) ((f_X5_at i (9 : Int32)).toNatClampNeg)) + ((if ((upd (upd m 3 a) 4 b) 4) = 0 then (0 : Int32) else (1 : Int32))))) ((f_X5_at i (8 : Int32)).toNatClampNeg)) + ((if (f_X5_isGone (upd (upd m 3 a) 4 b)) = 0 then (0 : Int32) else (1 : Int32)))))) := by
  subst e0
  subst e1
  subst e2
  rfl
theorem p_X5_sends_e {m t : Nat → Int32} {i size : Int32} {c : Int32} {a : Int32} {b : Int32} (e0 : ((if (t ((f_X5_at i (10 : Int32)).toNatClampNeg)) ≤ ((f_X5_drawn t i (t ((f_X5_at i (7 : Int32)).toNatClampNeg))) - (f_X5_drawn t i (t ((f_X5_at i (7 : Int32)).toNatClampNeg))) / (100 : Int32) * (100 : Int32)) then (0 : Int32) else (1 : Int32))) = c) (e1 : (g_X5_sends_37 t i size c) = a) (e2 : (g_X5_sends_59 t size (upd m 3 a) ((upd m 3 a) 3)) = b) : p_X5_sends m t i size = (vp_in (f_X5_at i (7 : Int32)) 103 ∧ (vp_in (f_X5_at i (10 : Int32)) 103 ∧ ((h_X5_sends_37 t i size c) ∧ (xB b ∧ (vp_in (f_X5_at i (7 : Int32)) 103 ∧ (vp_in (f_X5_at i (7 : Int32)) 103 ∧ (vp_in (f_X5_at i (9 : Int32)) 103 ∧ (vp_in (f_X5_at i (9 : Int32)) 103 ∧ (vp_in (f_X5_at i (8 : Int32)) 103 ∧ (vp_in (f_X5_at i (8 : Int32)) 103 ∧ True)))))))))) := by
  subst e0
  subst e1
  subst e2
  rfl
theorem f_X3_post_e {w lf kf r : Nat → Int32} {size : Int32} {c : Int32} {a : Int32} (e0 : ((if (w 10) ≤ ((f_X3_drawn w r (w 7)) - (f_X3_drawn w r (w 7)) / (100 : Int32) * (100 : Int32)) then (0 : Int32) else (1 : Int32))) = c) (e1 : (g_X3_post_26 w lf kf size c) = a) : f_X3_post w lf kf r size = (a, (g_X3_post_58 a (upd w 7 ((w 7) + (1 : Int32))) (f_X3_isLost (upd w 7 ((w 7) + (1 : Int32))) r a size))) := by
  subst e0
  subst e1
  rfl
theorem p_X3_post_e {w lf kf r : Nat → Int32} {size : Int32} {c : Int32} (e0 : ((if (w 10) ≤ ((f_X3_drawn w r (w 7)) - (f_X3_drawn w r (w 7)) / (100 : Int32) * (100 : Int32)) then (0 : Int32) else (1 : Int32))) = c) : p_X3_post w lf kf r size = ((h_X3_post_26 w lf kf size c) ∧ True) := by
  subst e0
  rfl
theorem f_X5_feels_e {m t : Nat → Int32} {i : Int32} {R : (Nat → Int32) × (Nat → Int32)} (e0 : (f_X5_sends m t i (t ((f_X5_at i (0 : Int32)).toNatClampNeg))) = R) : f_X5_feels m t i = (if (f_X5_isGone R.1) = 0 then (R.1, (g_X5_feels_104 i (t ((f_X5_at i (0 : Int32)).toNatClampNeg)) R.1 (upd R.2 ((f_X5_at i (4 : Int32)).toNatClampNeg) (0 : Int32)) (R.1 4))) else (R.1, (g_X5_feels_41 i (t ((f_X5_at i (0 : Int32)).toNatClampNeg)) (upd R.2 ((f_X5_at i (4 : Int32)).toNatClampNeg) ((R.2 ((f_X5_at i (4 : Int32)).toNatClampNeg)) + (1 : Int32))) ((upd R.2 ((f_X5_at i (4 : Int32)).toNatClampNeg) ((R.2 ((f_X5_at i (4 : Int32)).toNatClampNeg)) + (1 : Int32))) ((f_X5_at i (4 : Int32)).toNatClampNeg))))) := by
  subst e0
  rfl
theorem p_X5_feels_e {m t : Nat → Int32} {i : Int32} {R : (Nat → Int32) × (Nat → Int32)} (e0 : (f_X5_sends m t i (t ((f_X5_at i (0 : Int32)).toNatClampNeg))) = R) : p_X5_feels m t i = (vp_in (f_X5_at i (0 : Int32)) 103 ∧ (p_X5_sends m t i (t ((f_X5_at i (0 : Int32)).toNatClampNeg)) ∧ (((f_X5_isGone R.1) = 0 → (vp_in (f_X5_at i (4 : Int32)) 103 ∧ ((h_X5_feels_104 i (t ((f_X5_at i (0 : Int32)).toNatClampNeg)) R.1 (upd R.2 ((f_X5_at i (4 : Int32)).toNatClampNeg) (0 : Int32)) (R.1 4)) ∧ True))) ∧ (¬ ((f_X5_isGone R.1) = 0) → (vp_in (f_X5_at i (4 : Int32)) 103 ∧ (vp_in (f_X5_at i (4 : Int32)) 103 ∧ (vp_in (f_X5_at i (4 : Int32)) 103 ∧ ((h_X5_feels_41 i (t ((f_X5_at i (0 : Int32)).toNatClampNeg)) (upd R.2 ((f_X5_at i (4 : Int32)).toNatClampNeg) ((R.2 ((f_X5_at i (4 : Int32)).toNatClampNeg)) + (1 : Int32))) ((upd R.2 ((f_X5_at i (4 : Int32)).toNatClampNeg) ((R.2 ((f_X5_at i (4 : Int32)).toNatClampNeg)) + (1 : Int32))) ((f_X5_at i (4 : Int32)).toNatClampNeg))) ∧ True)))))))) := by
  subst e0
  rfl
theorem f_X3_checkLow_e {w lf kf r : Nat → Int32} {R : Int32 × (Nat → Int32)} (e0 : (f_X3_post w lf kf r (w 0)) = R) : f_X3_checkLow w lf kf r = (if (f_X3_isLost R.2 r R.1 (w 0)) = 0 then (g_X3_checkLow_35 r R.1 (upd R.2 4 (0 : Int32))) else (f_X3_miss R.2 r)) := by
  subst e0
  rfl
theorem p_X3_checkLow_e {w lf kf r : Nat → Int32} {R : Int32 × (Nat → Int32)} (e0 : (f_X3_post w lf kf r (w 0)) = R) : p_X3_checkLow w lf kf r = (p_X3_post w lf kf r (w 0) ∧ (((f_X3_isLost R.2 r R.1 (w 0)) = 0 → True) ∧ (¬ ((f_X3_isLost R.2 r R.1 (w 0)) = 0) → True))) := by
  subst e0
  rfl
theorem f_X5_probes_e {m t : Nat → Int32} {i : Int32} {v : Int32} {R : (Nat → Int32) × (Nat → Int32)} (e0 : (f_X5_probed t i) = v) (e1 : (f_X5_sends m t i v) = R) : f_X5_probes m t i = (if (f_X5_isGone R.1) = 0 then (R.1, (g_X5_probes_73 i v R.1 (upd R.2 ((f_X5_at i (3 : Int32)).toNatClampNeg) (0 : Int32)) (R.1 4))) else (R.1, (g_X5_probes_39 i v (upd R.2 ((f_X5_at i (3 : Int32)).toNatClampNeg) ((R.2 ((f_X5_at i (3 : Int32)).toNatClampNeg)) + (1 : Int32))) ((upd R.2 ((f_X5_at i (3 : Int32)).toNatClampNeg) ((R.2 ((f_X5_at i (3 : Int32)).toNatClampNeg)) + (1 : Int32))) ((f_X5_at i (3 : Int32)).toNatClampNeg))))) := by
  subst e0
  subst e1
  rfl
theorem p_X5_probes_e {m t : Nat → Int32} {i : Int32} {v : Int32} {R : (Nat → Int32) × (Nat → Int32)} (e0 : (f_X5_probed t i) = v) (e1 : (f_X5_sends m t i v) = R) : p_X5_probes m t i = (p_X5_probed t i ∧ (p_X5_sends m t i v ∧ (((f_X5_isGone R.1) = 0 → (vp_in (f_X5_at i (3 : Int32)) 103 ∧ ((h_X5_probes_73 i v R.1 (upd R.2 ((f_X5_at i (3 : Int32)).toNatClampNeg) (0 : Int32)) (R.1 4)) ∧ True))) ∧ (¬ ((f_X5_isGone R.1) = 0) → (vp_in (f_X5_at i (3 : Int32)) 103 ∧ (vp_in (f_X5_at i (3 : Int32)) 103 ∧ (vp_in (f_X5_at i (3 : Int32)) 103 ∧ ((h_X5_probes_39 i v (upd R.2 ((f_X5_at i (3 : Int32)).toNatClampNeg) ((R.2 ((f_X5_at i (3 : Int32)).toNatClampNeg)) + (1 : Int32))) ((upd R.2 ((f_X5_at i (3 : Int32)).toNatClampNeg) ((R.2 ((f_X5_at i (3 : Int32)).toNatClampNeg)) + (1 : Int32))) ((f_X5_at i (3 : Int32)).toNatClampNeg))) ∧ True)))))))) := by
  subst e0
  subst e1
  rfl
theorem f_X3_search_e {w lf kf r : Nat → Int32} {v : Int32} {R : Int32 × (Nat → Int32)} (e0 : (f_X3_probeSize w) = v) (e1 : (f_X3_post w lf kf r v) = R) : f_X3_search w lf kf r = (if (f_X3_isLost R.2 r R.1 v) = 0 then (g_X3_search_60 R.1 v (upd R.2 3 (0 : Int32))) else (g_X3_search_37 v (upd R.2 3 ((R.2 3) + (1 : Int32))) ((upd R.2 3 ((R.2 3) + (1 : Int32))) 3))) := by
  subst e0
  subst e1
  rfl
theorem p_X3_search_e {w lf kf r : Nat → Int32} {v : Int32} {R : Int32 × (Nat → Int32)} (e0 : (f_X3_probeSize w) = v) (e1 : (f_X3_post w lf kf r v) = R) : p_X3_search w lf kf r = (p_X3_post w lf kf r v ∧ (((f_X3_isLost R.2 r R.1 v) = 0 → True) ∧ (¬ ((f_X3_isLost R.2 r R.1 v) = 0) → True))) := by
  subst e0
  subst e1
  rfl
theorem f_X5_ticks_e {m t : Nat → Int32} {i : Int32} {R : (Nat → Int32) × (Nat → Int32)} {a : Int32} {t2 : (Nat → Int32)} {Q : (Nat → Int32) × (Nat → Int32)} (e0 : (f_X5_feels m t i) = R) (e1 : (g_X5_ticks_49 i (t ((f_X5_at i (1 : Int32)).toNatClampNeg)) (t ((f_X5_at i (0 : Int32)).toNatClampNeg)) R.2 (R.2 ((f_X5_at i (0 : Int32)).toNatClampNeg))) = a) (e2 : (g_X5_ticks_73 i a R.2) = t2) (e3 : (g_X5_ticks_98 i a ((if (t ((f_X5_at i (2 : Int32)).toNatClampNeg)) = (1 : Int32) then (1 : Int32) else (0 : Int32))) R.1 t2 (t2 ((f_X5_at i (1 : Int32)).toNatClampNeg)) (t2 ((f_X5_at i (0 : Int32)).toNatClampNeg))) = Q) : f_X5_ticks m t i = (Q.1, (upd (upd Q.2 ((f_X5_at i (2 : Int32)).toNatClampNeg) ((if ((if (Q.2 ((f_X5_at i (0 : Int32)).toNatClampNeg)) = (Q.2 ((f_X5_at i (1 : Int32)).toNatClampNeg)) then (1 : Int32) else (0 : Int32))) = 0 then (0 : Int32) else (1 : Int32)))) ((f_X5_at i (5 : Int32)).toNatClampNeg) (g_X5_ticks_216 i ((if (Q.2 ((f_X5_at i (0 : Int32)).toNatClampNeg)) = (Q.2 ((f_X5_at i (1 : Int32)).toNatClampNeg)) then (1 : Int32) else (0 : Int32))) (upd Q.2 ((f_X5_at i (2 : Int32)).toNatClampNeg) ((if ((if (Q.2 ((f_X5_at i (0 : Int32)).toNatClampNeg)) = (Q.2 ((f_X5_at i (1 : Int32)).toNatClampNeg)) then (1 : Int32) else (0 : Int32))) = 0 then (0 : Int32) else (1 : Int32))))))) := by
  subst e0
  subst e1
  subst e2
  subst e3
  rfl
theorem p_X5_ticks_e {m t : Nat → Int32} {i : Int32} {R : (Nat → Int32) × (Nat → Int32)} {a : Int32} {t2 : (Nat → Int32)} {Q : (Nat → Int32) × (Nat → Int32)} (e0 : (f_X5_feels m t i) = R) (e1 : (g_X5_ticks_49 i (t ((f_X5_at i (1 : Int32)).toNatClampNeg)) (t ((f_X5_at i (0 : Int32)).toNatClampNeg)) R.2 (R.2 ((f_X5_at i (0 : Int32)).toNatClampNeg))) = a) (e2 : (g_X5_ticks_73 i a R.2) = t2) (e3 : (g_X5_ticks_98 i a ((if (t ((f_X5_at i (2 : Int32)).toNatClampNeg)) = (1 : Int32) then (1 : Int32) else (0 : Int32))) R.1 t2 (t2 ((f_X5_at i (1 : Int32)).toNatClampNeg)) (t2 ((f_X5_at i (0 : Int32)).toNatClampNeg))) = Q) : p_X5_ticks m t i = (vp_in (f_X5_at i (0 : Int32)) 103 ∧ (vp_in (f_X5_at i (1 : Int32)) 103 ∧ (vp_in (f_X5_at i (2 : Int32)) 103 ∧ (p_X5_feels m t i ∧ (vp_in (f_X5_at i (0 : Int32)) 103 ∧ ((h_X5_ticks_49 i (t ((f_X5_at i (1 : Int32)).toNatClampNeg)) (t ((f_X5_at i (0 : Int32)).toNatClampNeg)) R.2 (R.2 ((f_X5_at i (0 : Int32)).toNatClampNeg))) ∧ ((h_X5_ticks_73 i a R.2) ∧ (vp_in (f_X5_at i (0 : Int32)) 103 ∧ (vp_in (f_X5_at i (1 : Int32)) 103 ∧ ((h_X5_ticks_98 i a ((if (t ((f_X5_at i (2 : Int32)).toNatClampNeg)) = (1 : Int32) then (1 : Int32) else (0 : Int32))) R.1 t2 (t2 ((f_X5_at i (1 : Int32)).toNatClampNeg)) (t2 ((f_X5_at i (0 : Int32)).toNatClampNeg))) ∧ (vp_in (f_X5_at i (0 : Int32)) 103 ∧ (vp_in (f_X5_at i (1 : Int32)) 103 ∧ (vp_in (f_X5_at i (2 : Int32)) 103 ∧ ((h_X5_ticks_216 i ((if (Q.2 ((f_X5_at i (0 : Int32)).toNatClampNeg)) = (Q.2 ((f_X5_at i (1 : Int32)).toNatClampNeg)) then (1 : Int32) else (0 : Int32))) (upd Q.2 ((f_X5_at i (2 : Int32)).toNatClampNeg) ((if ((if (Q.2 ((f_X5_at i (0 : Int32)).toNatClampNeg)) = (Q.2 ((f_X5_at i (1 : Int32)).toNatClampNeg)) then (1 : Int32) else (0 : Int32))) = 0 then (0 : Int32) else (1 : Int32))))) ∧ (vp_in (f_X5_at i (5 : Int32)) 103 ∧ True))))))))))))))) := by
  subst e0
  subst e1
  subst e2
  subst e3
  rfl
theorem f_X3_step_e {w lf kf r : Nat → Int32} {w1 : (Nat → Int32)} {v : Int32} {w2 : (Nat → Int32)} {w3 : (Nat → Int32)} (e0 : (f_X3_checkLow w lf kf r) = w1) (e1 : ((if (w1 0) = (w 0) then (if (w1 1) = (w 1) then (0 : Int32) else (1 : Int32)) else (1 : Int32))) = v) (e2 : (g_X3_step_56 v w1) = w2) (e3 : (g_X3_step_72 lf kf r v ((if (w 2) = (1 : Int32) then (1 : Int32) else (0 : Int32))) w2 (w2 1) (w2 0)) = w3) : f_X3_step w lf kf r = (g_X3_step_121 (upd w3 2 ((if (f_X3_isNarrowed w3) = 0 then (0 : Int32) else (1 : Int32)))) ((upd w3 2 ((if (f_X3_isNarrowed w3) = 0 then (0 : Int32) else (1 : Int32)))) 2)) := by
  subst e0
  subst e1
  subst e2
  subst e3
  rfl
theorem p_X3_step_e {w lf kf r : Nat → Int32} {w1 : (Nat → Int32)} {v : Int32} {w2 : (Nat → Int32)} (e0 : (f_X3_checkLow w lf kf r) = w1) (e1 : ((if (w1 0) = (w 0) then (if (w1 1) = (w 1) then (0 : Int32) else (1 : Int32)) else (1 : Int32))) = v) (e2 : (g_X3_step_56 v w1) = w2) : p_X3_step w lf kf r = (p_X3_checkLow w lf kf r ∧ ((h_X3_step_72 lf kf r v ((if (w 2) = (1 : Int32) then (1 : Int32) else (0 : Int32))) w2 (w2 1) (w2 0)) ∧ True)) := by
  subst e0
  subst e1
  subst e2
  rfl
