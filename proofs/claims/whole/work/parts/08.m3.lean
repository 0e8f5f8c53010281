def f_X4_isBetween (v lo hi : Int32) : Int32 := ((if v < lo then (0 : Int32) else (if hi < v then (0 : Int32) else (1 : Int32))))
set_option maxRecDepth 100000 in
set_option maxHeartbeats 4000000 in
theorem C_X4_isBetween (G : xG) (h : xH) (v lo hi : Int32) : Cd G 0 yX4_isBetween cX4_isBetween 3 (some .boolean) [.int v, .int lo, .int hi] h (some (.int (f_X4_isBetween v lo hi))) h := by
  refine Ct.of (by decide) (by rfl) ?_
  refine Wp.eqs (L' := [(0, .int v), (1, .int lo), (2, .int hi)]) (st' := []) rfl rfl ?_
  obtain ⟨R, er⟩ : ∃ R, f_X4_isBetween v lo hi = R := ⟨_, rfl⟩
  rw [er]
  unfold f_X4_isBetween at er
  refine x_iload_n (pc := 0) dX4_isBetween_0 rfl ?_
  refine x_iload_n (pc := 1) dX4_isBetween_1 rfl ?_
  obtain ⟨F1, eF1⟩ : ∃ F, (if v < lo then (0 : Int32) else (if hi < v then (0 : Int32) else (1 : Int32))) = F := ⟨_, rfl⟩
  try rw [eF1] at er
  have bF1 : xB F1 := by rw [← eF1]; exact (xB_ite xB0 (xB_ite xB0 xB1))
  refine x_mrg (pc' := 15) (L' := [(0, .int v), (1, .int lo), (2, .int hi)]) (st' := [.int F1]) (h' := h) (fun J => ?_) ?_
  · refine x_icmp_lt (pc := 2) (tgt := 14) dX4_isBetween_2 (by decide) (fun (c1 : v < lo) => ?_) (fun (c1 : ¬ (v < lo)) => ?_)
    · refine x_iconst (pc := 14) (v := (0 : Int32)) dX4_isBetween_14 (by decide) ?_
      rw [if_pos c1] at eF1
      subst eF1
      exact J
    · refine x_iload_n (pc := 5) dX4_isBetween_5 rfl ?_
      refine x_iload_n (pc := 6) dX4_isBetween_6 rfl ?_
      refine x_icmp_gt (pc := 7) (tgt := 14) dX4_isBetween_7 (by decide) (fun (c2 : hi < v) => ?_) (fun (c2 : ¬ (hi < v)) => ?_)
      · refine x_iconst (pc := 14) (v := (0 : Int32)) dX4_isBetween_14 (by decide) ?_
        rw [if_neg c1, if_pos c2] at eF1
        subst eF1
        exact J
      · refine x_iconst (pc := 10) (v := (1 : Int32)) dX4_isBetween_10 (by decide) ?_
        refine x_goto (pc := 11) (tgt := 15) dX4_isBetween_11 (by decide) ?_
        rw [if_neg c1, if_neg c2] at eF1
        subst eF1
        exact J
  subst er
  exact x_iret (pc := 15) dX4_isBetween_15 rfl (xb_nar bF1) rfl rfl ⟨rfl, rfl⟩
theorem B_X4_isBetween (v lo hi : Int32) : xB (f_X4_isBetween v lo hi) := by
  unfold f_X4_isBetween
  exact (xB_ite xB0 (xB_ite xB0 xB1))

def g_X2_append_7 (t : (Nat → Int32)) (lf : (Nat → Int32)) (letter : Int32) (y1 : Int32) : (Nat → Int32) × (Nat → Int32) := (if (240 : Int32) ≤ y1 then (t, lf) else ((upd t 0 ((t 0) + (1 : Int32))), (upd lf ((t 0).toNatClampNeg) (vp_nar .char letter))))
def h_X2_append_7 (t : (Nat → Int32)) (lf : (Nat → Int32)) (letter : Int32) (y1 : Int32) : Prop := (((240 : Int32) ≤ y1 → True) ∧ (¬ ((240 : Int32) ≤ y1) → (vp_in (t 0) 240 ∧ True)))
def f_X2_append (t lf : Nat → Int32) (letter : Int32) : (Nat → Int32) × (Nat → Int32) := ((g_X2_append_7 t lf letter (t 0)).1, (g_X2_append_7 t lf letter (t 0)).2)
def p_X2_append (t lf : Nat → Int32) (letter : Int32) : Prop := ((h_X2_append_7 t lf letter (t 0)) ∧ True)
set_option maxRecDepth 100000 in
set_option maxHeartbeats 4000000 in
theorem C_X2_append (G : xG) (h : xH) (tx ca : Nat) (t lf : Nat → Int32) (letter : Int32) (k_tx : hAt h tx = some (txC ca t)) (k_ca : hAt h ca = some (arC 240 lf)) (hp : p_X2_append t lf letter) : Cd G 0 yX2_append cX2_append 2 none [.ref tx, .int letter] h none (hSet (hSet h tx (txC ca (f_X2_append t lf letter).1)) ca (arC 240 (f_X2_append t lf letter).2)) := by
  have n_tx_ca : tx ≠ ca := hne_k k_tx k_ca rfl
  refine Ct.of (by decide) (by rfl) ?_
  refine Wp.eqs (L' := [(0, .ref tx), (1, .int letter)]) (st' := []) rfl rfl ?_
  refine Wp.eqh (h' := (hSet (hSet h tx (txC ca t)) ca (arC 240 lf))) (by rw [hSet_self k_tx, hSet_self k_ca]) ?_
  obtain ⟨R, er⟩ : ∃ R, f_X2_append t lf letter = R := ⟨_, rfl⟩
  rw [er]
  unfold f_X2_append at er
  unfold p_X2_append at hp
  refine x_aload_n (pc := 0) dX2_append_0 rfl ?_
  refine x_getf (pc := 1) (v := .int (t 0)) dX2_append_1 xf_X2_15 (hAt_n n_tx_ca hAt_same) rfl ?_
  refine x_sipush (pc := 4) (v := (240 : Int32)) dX2_append_4 (by decide) ?_
  obtain ⟨qr7, hp⟩ := hp
  obtain ⟨F1, eF1⟩ : ∃ F, g_X2_append_7 t lf letter (t 0) = F := ⟨_, rfl⟩
  try rw [eF1] at er
  try rw [eF1] at hp
  refine x_mrg (pc' := 30) (L' := [(0, .ref tx), (1, .int letter)]) (st' := []) (h' := (hSet (hSet h tx (txC ca F1.1)) ca (arC 240 F1.2))) (fun J => ?_) ?_
  · unfold g_X2_append_7 at eF1
    unfold h_X2_append_7 at qr7
    refine x_icmp_ge (pc := 7) (tgt := 30) dX2_append_7 (by decide) (fun (c2 : (240 : Int32) ≤ (t 0)) => ?_) (fun (c2 : ¬ ((240 : Int32) ≤ (t 0))) => ?_)
    · rw [if_pos c2] at eF1
      replace qr7 := qr7.1 c2
      subst eF1
      exact J
    · rw [if_neg c2] at eF1
      replace qr7 := qr7.2 c2
      refine x_aload_n (pc := 10) dX2_append_10 rfl ?_
      refine x_getf (pc := 11) (v := .ref ca) dX2_append_11 xf_X2_9 (hAt_n n_tx_ca hAt_same) rfl ?_
      refine x_aload_n (pc := 14) dX2_append_14 rfl ?_
      refine x_getf (pc := 15) (v := .int (t 0)) dX2_append_15 xf_X2_15 (hAt_n n_tx_ca hAt_same) rfl ?_
      refine x_iload_n (pc := 18) dX2_append_18 rfl ?_
      obtain ⟨q19, qr7⟩ := qr7
      refine x_cast (pc := 19) (e' := arC 240 (upd lf ((t 0).toNatClampNeg) (vp_nar .char letter))) dX2_append_19 hAt_same q19 (j := ((t 0).toNatClampNeg)) rfl rfl ?_
      refine Wp.eqh (h' := (hSet (hSet h tx (txC ca t)) ca (arC 240 (upd lf ((t 0).toNatClampNeg) (vp_nar .char letter))))) (hSet_set) ?_
      refine x_aload_n (pc := 20) dX2_append_20 rfl ?_
      refine x_dup (pc := 21) dX2_append_21 rfl ?_
      refine x_getf (pc := 22) (v := .int (t 0)) dX2_append_22 xf_X2_15 (hAt_n n_tx_ca hAt_same) rfl ?_
      refine x_iconst (pc := 25) (v := (1 : Int32)) dX2_append_25 (by decide) ?_
      refine x_iadd (pc := 26) dX2_append_26 ?_
      refine x_putf (pc := 27) (e' := txC ca (upd t 0 ((t 0) + (1 : Int32)))) dX2_append_27 xf_X2_15 (hAt_n n_tx_ca hAt_same) rfl rfl rfl rfl ?_
      refine Wp.eqh (h' := (hSet (hSet h tx (txC ca (upd t 0 ((t 0) + (1 : Int32))))) ca (arC 240 (upd lf ((t 0).toNatClampNeg) (vp_nar .char letter))))) (hSet_sw1 n_tx_ca) ?_
      subst eF1
      exact J
  subst er
  exact x_vret (pc := 30) dX2_append_30 rfl rfl rfl ⟨rfl, rfl⟩

def l_X2_take_22 : Nat → (Nat → Int32) → (Nat → Int32) → Nat → Int32 → Int32 → Int32 × (Nat → Int32)
  | 0, _, _, _, _, _ => (0, (fun _ => 0))
  | n + 1, t, lf, si, v2, v3 => (if (sLen si) ≤ v3 then ((1 : Int32), (upd t 1 v2)) else (if (lf (((t 1) + v3).toNatClampNeg)) = (sCh si v3) then (l_X2_take_22 n t lf si v2 (v3 + (1 : Int32))) else ((0 : Int32), t)))
def q_X2_take_22 : Nat → (Nat → Int32) → (Nat → Int32) → Nat → Int32 → Int32 → Prop
  | 0, _, _, _, _, _ => False
  | n + 1, t, lf, si, v2, v3 => (si < 18 ∧ (((sLen si) ≤ v3 → True) ∧ (¬ ((sLen si) ≤ v3) → (vp_in ((t 1) + v3) 240 ∧ ((si < 18 ∧ vp_in v3 (xLen.getD si 0)) ∧ (((lf (((t 1) + v3).toNatClampNeg)) = (sCh si v3) → (q_X2_take_22 n t lf si v2 (v3 + (1 : Int32)))) ∧ (¬ ((lf (((t 1) + v3).toNatClampNeg)) = (sCh si v3)) → True)))))))
set_option maxRecDepth 100000 in
set_option maxHeartbeats 4000000 in
theorem L_X2_take_22 (G : xG) (h : xH) (tx ca : Nat) (t lf : Nat → Int32) (si : Nat) (k_tx : hAt h tx = some (txC ca t)) (k_ca : hAt h ca = some (arC 240 lf)) : ∀ (n : Nat) (v2 : Int32) (v3 : Int32), q_X2_take_22 n t lf si v2 v3 → Wp G yX2_take.cls cX2_take 4 yX2_take.name (some .boolean) (xR 4 0 0) (xZd G (some (.int (l_X2_take_22 n t lf si v2 v3).1)) (hSet h tx (txC ca (l_X2_take_22 n t lf si v2 v3).2))) 0 0 22 [(3, .int v3), (2, .int v2), (0, .ref tx), (1, .ref (xg_sK G si))] [] (hSet h tx (txC ca t)) := by
  have n_ca_tx : ca ≠ tx := hne_k k_ca k_tx rfl
  intro n
  induction n with
  | zero => intro v2 v3 hp; exact absurd hp id
  | succ n ih =>
    intro v2 v3 hp
    obtain ⟨R, er⟩ : ∃ R, l_X2_take_22 (n + 1) t lf si v2 v3 = R := ⟨_, rfl⟩
    rw [er]
    rw [l_X2_take_22] at er
    rw [q_X2_take_22] at hp
    refine x_iload_n (pc := 22) dX2_take_22 rfl ?_
    refine x_aload_n (pc := 23) dX2_take_23 rfl ?_
    obtain ⟨q24, hp⟩ := hp
    refine x_strLen (pc := 24) dX2_take_24 xl_X2_22 q24 rfl rfl rfl ?_
    refine x_icmp_ge (pc := 27) (tgt := 57) dX2_take_27 (by decide) (fun (c2 : (sLen si) ≤ v3) => ?_) (fun (c2 : ¬ ((sLen si) ≤ v3)) => ?_)
    · rw [if_pos c2] at er
      replace hp := hp.1 c2
      refine x_aload_n (pc := 57) dX2_take_57 rfl ?_
      refine x_iload_n (pc := 58) dX2_take_58 rfl ?_
      refine x_putf (pc := 59) (e' := txC ca (upd t 1 v2)) dX2_take_59 xf_X2_19 hAt_same rfl rfl rfl rfl ?_
      refine Wp.eqh (h' := (hSet h tx (txC ca (upd t 1 v2)))) (hSet_set) ?_
      refine x_iconst (pc := 62) (v := (1 : Int32)) dX2_take_62 (by decide) ?_
      subst er
      exact x_iret (pc := 63) dX2_take_63 rfl rfl rfl rfl ⟨rfl, rfl⟩
    · rw [if_neg c2] at er
      replace hp := hp.2 c2
      refine x_aload_n (pc := 30) dX2_take_30 rfl ?_
      refine x_getf (pc := 31) (v := .ref ca) dX2_take_31 xf_X2_9 hAt_same rfl ?_
      refine x_aload_n (pc := 34) dX2_take_34 rfl ?_
      refine x_getf (pc := 35) (v := .int (t 1)) dX2_take_35 xf_X2_19 hAt_same rfl ?_
      refine x_iload_n (pc := 38) dX2_take_38 rfl ?_
      refine x_iadd (pc := 39) dX2_take_39 ?_
      obtain ⟨q40, hp⟩ := hp
      refine x_cald (pc := 40) dX2_take_40 (hAt_n n_ca_tx k_ca) q40 (j := (((t 1) + v3).toNatClampNeg)) rfl ?_
      refine x_aload_n (pc := 41) dX2_take_41 rfl ?_
      refine x_iload_n (pc := 42) dX2_take_42 rfl ?_
      obtain ⟨q43, hp⟩ := hp
      refine x_strCh (pc := 43) dX2_take_43 xl_X2_27 q43.1 q43.2 rfl rfl rfl ?_
      refine x_icmp_eq (pc := 46) (tgt := 51) dX2_take_46 (by decide) (fun (c3 : (lf (((t 1) + v3).toNatClampNeg)) = (sCh si v3)) => ?_) (fun (c3 : ¬ ((lf (((t 1) + v3).toNatClampNeg)) = (sCh si v3))) => ?_)
      · rw [if_pos c3] at er
        replace hp := hp.1 c3
        refine x_iinc (pc := 51) (v := (v3 + (1 : Int32))) (L' := [(3, .int (v3 + (1 : Int32))), (2, .int v2), (0, .ref tx), (1, .ref (xg_sK G si))]) dX2_take_51 rfl rfl rfl rfl ?_
        refine x_goto (pc := 54) (tgt := 22) dX2_take_54 (by decide) ?_
        subst er
        exact ih v2 (v3 + (1 : Int32)) hp
      · rw [if_neg c3] at er
        replace hp := hp.2 c3
        refine x_iconst (pc := 49) (v := (0 : Int32)) dX2_take_49 (by decide) ?_
        subst er
        exact x_iret (pc := 50) dX2_take_50 rfl rfl rfl rfl ⟨rfl, rfl⟩
def f_X2_take (t lf : Nat → Int32) (si : Nat) : Int32 × (Nat → Int32) := (if ((t 1) + (sLen si)) ≤ (t 0) then (l_X2_take_22 xK t lf si ((t 1) + (sLen si)) (0 : Int32)) else ((0 : Int32), t))
def p_X2_take (t lf : Nat → Int32) (si : Nat) : Prop := (si < 18 ∧ ((((t 1) + (sLen si)) ≤ (t 0) → (q_X2_take_22 xK t lf si ((t 1) + (sLen si)) (0 : Int32))) ∧ (¬ (((t 1) + (sLen si)) ≤ (t 0)) → True)))
set_option maxRecDepth 100000 in
set_option maxHeartbeats 4000000 in
theorem C_X2_take (G : xG) (h : xH) (tx ca : Nat) (t lf : Nat → Int32) (si : Nat) (k_tx : hAt h tx = some (txC ca t)) (k_ca : hAt h ca = some (arC 240 lf)) (hp : p_X2_take t lf si) : Cd G 4 yX2_take cX2_take 4 (some .boolean) [.ref tx, .ref (xg_sK G si)] h (some (.int (f_X2_take t lf si).1)) (hSet h tx (txC ca (f_X2_take t lf si).2)) := by
  have n_ca_tx : ca ≠ tx := hne_k k_ca k_tx rfl
  refine Ct.of (by decide) (by rfl) ?_
  refine Wp.eqs (L' := [(0, .ref tx), (1, .ref (xg_sK G si))]) (st' := []) rfl rfl ?_
  refine Wp.eqh (h' := (hSet h tx (txC ca t))) (by rw [hSet_self k_tx]) ?_
  obtain ⟨R, er⟩ : ∃ R, f_X2_take t lf si = R := ⟨_, rfl⟩
  rw [er]
  unfold f_X2_take at er
  unfold p_X2_take at hp
  refine x_aload_n (pc := 0) dX2_take_0 rfl ?_
  refine x_getf (pc := 1) (v := .int (t 1)) dX2_take_1 xf_X2_19 hAt_same rfl ?_
  refine x_aload_n (pc := 4) dX2_take_4 rfl ?_
  obtain ⟨q5, hp⟩ := hp
  refine x_strLen (pc := 5) dX2_take_5 xl_X2_22 q5 rfl rfl rfl ?_
  refine x_iadd (pc := 8) dX2_take_8 ?_
  refine x_istore_n (pc := 9) (L' := [(2, .int ((t 1) + (sLen si))), (0, .ref tx), (1, .ref (xg_sK G si))]) dX2_take_9 rfl rfl ?_
  refine x_iload_n (pc := 10) dX2_take_10 rfl ?_
  refine x_aload_n (pc := 11) dX2_take_11 rfl ?_
  refine x_getf (pc := 12) (v := .int (t 0)) dX2_take_12 xf_X2_15 hAt_same rfl ?_
  refine x_icmp_le (pc := 15) (tgt := 20) dX2_take_15 (by decide) (fun (c1 : ((t 1) + (sLen si)) ≤ (t 0)) => ?_) (fun (c1 : ¬ (((t 1) + (sLen si)) ≤ (t 0))) => ?_)
  · rw [if_pos c1] at er
    replace hp := hp.1 c1
    refine x_iconst (pc := 20) (v := (0 : Int32)) dX2_take_20 (by decide) ?_
    refine x_istore_n (pc := 21) (L' := [(3, .int (0 : Int32)), (2, .int ((t 1) + (sLen si))), (0, .ref tx), (1, .ref (xg_sK G si))]) dX2_take_21 rfl rfl ?_
    subst er
    exact L_X2_take_22 G h tx ca t lf si k_tx k_ca  xK ((t 1) + (sLen si)) (0 : Int32) hp
  · rw [if_neg c1] at er
    replace hp := hp.2 c1
    refine x_iconst (pc := 18) (v := (0 : Int32)) dX2_take_18 (by decide) ?_
    subst er
    exact x_iret (pc := 19) dX2_take_19 rfl rfl rfl rfl ⟨rfl, rfl⟩

theorem Bl_X2_take : ∀ (n : Nat) (t lf : Nat → Int32) (si : Nat) (v2 v3 : Int32), xB (l_X2_take_22 n t lf si v2 v3).1 := by
  intro n
  induction n with
  | zero => intros; exact xB_fst xB0
  | succ n ih =>
    intro t lf si v2 v3
    rw [l_X2_take_22]
    refine xB_ite1 (xB_fst xB1) (xB_ite1 ?_ (xB_fst xB0))
    exact ih _ _ _ _ _
theorem B_X2_take (t lf : Nat → Int32) (si : Nat) : xB (f_X2_take t lf si).1 := by
  unfold f_X2_take
  exact xB_ite1 (Bl_X2_take _ _ _ _ _ _) (xB_fst xB0)

def l_X2_takeNumber_5 : Nat → (Nat → Int32) → (Nat → Int32) → Int32 → Int32 → Int32 → Int32 → (Nat → Int32) → Int32 × Int32 × (Nat → Int32)
  | 0, _, _, _, _, _, _, _ => (0, 0, (fun _ => 0))
  | n + 1, t, lf, lo, hi, v4, v3, x_tx => (if (4 : Int32) ≤ v4 then (v4, v3, x_tx) else (if (x_tx 0) ≤ (x_tx 1) then (v4, v3, x_tx) else (if (lf ((x_tx 1).toNatClampNeg)) < (48 : Int32) then (v4, v3, x_tx) else (if (57 : Int32) < (lf ((x_tx 1).toNatClampNeg)) then (v4, v3, x_tx) else (l_X2_takeNumber_5 n t lf lo hi (v4 + (1 : Int32)) ((v3 * (10 : Int32)) + ((lf ((x_tx 1).toNatClampNeg)) - (48 : Int32))) (upd x_tx 1 ((x_tx 1) + (1 : Int32))))))))
def q_X2_takeNumber_5 : Nat → (Nat → Int32) → (Nat → Int32) → Int32 → Int32 → Int32 → Int32 → (Nat → Int32) → Prop
  | 0, _, _, _, _, _, _, _ => False
  | n + 1, t, lf, lo, hi, v4, v3, x_tx => (((4 : Int32) ≤ v4 → True) ∧ (¬ ((4 : Int32) ≤ v4) → (((x_tx 0) ≤ (x_tx 1) → True) ∧ (¬ ((x_tx 0) ≤ (x_tx 1)) → (vp_in (x_tx 1) 240 ∧ (((lf ((x_tx 1).toNatClampNeg)) < (48 : Int32) → True) ∧ (¬ ((lf ((x_tx 1).toNatClampNeg)) < (48 : Int32)) → (vp_in (x_tx 1) 240 ∧ (((57 : Int32) < (lf ((x_tx 1).toNatClampNeg)) → True) ∧ (¬ ((57 : Int32) < (lf ((x_tx 1).toNatClampNeg))) → (vp_in (x_tx 1) 240 ∧ (q_X2_takeNumber_5 n t lf lo hi (v4 + (1 : Int32)) ((v3 * (10 : Int32)) + ((lf ((x_tx 1).toNatClampNeg)) - (48 : Int32))) (upd x_tx 1 ((x_tx 1) + (1 : Int32)))))))))))))))
set_option maxRecDepth 100000 in
set_option maxHeartbeats 4000000 in
theorem L_X2_takeNumber_5 (G : xG) (h : xH) (tx ca : Nat) (t lf : Nat → Int32) (lo hi : Int32) (k_tx : hAt h tx = some (txC ca t)) (k_ca : hAt h ca = some (arC 240 lf)) {Z : xZ} : ∀ (n : Nat) (v4 : Int32) (v3 : Int32) (x_tx : (Nat → Int32)), q_X2_takeNumber_5 n t lf lo hi v4 v3 x_tx → Wp G yX2_takeNumber.cls cX2_takeNumber 5 yX2_takeNumber.name (some .int) (xR 1 0 0) Z 0 0 84 [(4, .int (l_X2_takeNumber_5 n t lf lo hi v4 v3 x_tx).1), (3, .int (l_X2_takeNumber_5 n t lf lo hi v4 v3 x_tx).2.1), (0, .ref tx), (1, .int lo), (2, .int hi)] [] (hSet h tx (txC ca (l_X2_takeNumber_5 n t lf lo hi v4 v3 x_tx).2.2)) → Wp G yX2_takeNumber.cls cX2_takeNumber 5 yX2_takeNumber.name (some .int) (xR 1 0 0) Z 0 0 5 [(4, .int v4), (3, .int v3), (0, .ref tx), (1, .int lo), (2, .int hi)] [] (hSet h tx (txC ca x_tx)) := by
  have n_ca_tx : ca ≠ tx := hne_k k_ca k_tx rfl
  intro n
  induction n with
  | zero => intro v4 v3 x_tx hp; exact absurd hp id
  | succ n ih =>
    intro v4 v3 x_tx hp kk
    obtain ⟨R, er⟩ : ∃ R, l_X2_takeNumber_5 (n + 1) t lf lo hi v4 v3 x_tx = R := ⟨_, rfl⟩
    rw [er] at kk
    rw [l_X2_takeNumber_5] at er
    rw [q_X2_takeNumber_5] at hp
    refine x_iload (pc := 5) dX2_takeNumber_5 rfl ?_
    refine x_iconst (pc := 7) (v := (4 : Int32)) dX2_takeNumber_7 (by decide) ?_
    refine x_icmp_ge (pc := 8) (tgt := 84) dX2_takeNumber_8 (by decide) (fun (c1 : (4 : Int32) ≤ v4) => ?_) (fun (c1 : ¬ ((4 : Int32) ≤ v4)) => ?_)
    · rw [if_pos c1] at er
      replace hp := hp.1 c1
      subst er
      exact kk
    · rw [if_neg c1] at er
      replace hp := hp.2 c1
      refine x_aload_n (pc := 11) dX2_takeNumber_11 rfl ?_
      refine x_getf (pc := 12) (v := .int (x_tx 1)) dX2_takeNumber_12 xf_X2_19 hAt_same rfl ?_
      refine x_aload_n (pc := 15) dX2_takeNumber_15 rfl ?_
      refine x_getf (pc := 16) (v := .int (x_tx 0)) dX2_takeNumber_16 xf_X2_15 hAt_same rfl ?_
      refine x_icmp_ge (pc := 19) (tgt := 84) dX2_takeNumber_19 (by decide) (fun (c2 : (x_tx 0) ≤ (x_tx 1)) => ?_) (fun (c2 : ¬ ((x_tx 0) ≤ (x_tx 1))) => ?_)
      · rw [if_pos c2] at er
        replace hp := hp.1 c2
        subst er
        exact kk
      · rw [if_neg c2] at er
        replace hp := hp.2 c2
        refine x_aload_n (pc := 22) dX2_takeNumber_22 rfl ?_
        refine x_getf (pc := 23) (v := .ref ca) dX2_takeNumber_23 xf_X2_9 hAt_same rfl ?_
        refine x_aload_n (pc := 26) dX2_takeNumber_26 rfl ?_
        refine x_getf (pc := 27) (v := .int (x_tx 1)) dX2_takeNumber_27 xf_X2_19 hAt_same rfl ?_
        obtain ⟨q30, hp⟩ := hp
        refine x_cald (pc := 30) dX2_takeNumber_30 (hAt_n n_ca_tx k_ca) q30 (j := ((x_tx 1).toNatClampNeg)) rfl ?_
        refine x_bipush (pc := 31) (v := (48 : Int32)) dX2_takeNumber_31 (by decide) ?_
        refine x_icmp_lt (pc := 33) (tgt := 84) dX2_takeNumber_33 (by decide) (fun (c3 : (lf ((x_tx 1).toNatClampNeg)) < (48 : Int32)) => ?_) (fun (c3 : ¬ ((lf ((x_tx 1).toNatClampNeg)) < (48 : Int32))) => ?_)
        · rw [if_pos c3] at er
          replace hp := hp.1 c3
          subst er
          exact kk
        · rw [if_neg c3] at er
          replace hp := hp.2 c3
          refine x_aload_n (pc := 36) dX2_takeNumber_36 rfl ?_
          refine x_getf (pc := 37) (v := .ref ca) dX2_takeNumber_37 xf_X2_9 hAt_same rfl ?_
          refine x_aload_n (pc := 40) dX2_takeNumber_40 rfl ?_
          refine x_getf (pc := 41) (v := .int (x_tx 1)) dX2_takeNumber_41 xf_X2_19 hAt_same rfl ?_
          obtain ⟨q44, hp⟩ := hp
          refine x_cald (pc := 44) dX2_takeNumber_44 (hAt_n n_ca_tx k_ca) q44 (j := ((x_tx 1).toNatClampNeg)) rfl ?_
          refine x_bipush (pc := 45) (v := (57 : Int32)) dX2_takeNumber_45 (by decide) ?_
          refine x_icmp_gt (pc := 47) (tgt := 84) dX2_takeNumber_47 (by decide) (fun (c4 : (57 : Int32) < (lf ((x_tx 1).toNatClampNeg))) => ?_) (fun (c4 : ¬ ((57 : Int32) < (lf ((x_tx 1).toNatClampNeg)))) => ?_)
          · rw [if_pos c4] at er
            replace hp := hp.1 c4
            subst er
            exact kk
          · rw [if_neg c4] at er
            replace hp := hp.2 c4
            refine x_iload_n (pc := 50) dX2_takeNumber_50 rfl ?_
            refine x_bipush (pc := 51) (v := (10 : Int32)) dX2_takeNumber_51 (by decide) ?_
            refine x_imul (pc := 53) dX2_takeNumber_53 ?_
            refine x_aload_n (pc := 54) dX2_takeNumber_54 rfl ?_
            refine x_getf (pc := 55) (v := .ref ca) dX2_takeNumber_55 xf_X2_9 hAt_same rfl ?_
            refine x_aload_n (pc := 58) dX2_takeNumber_58 rfl ?_
            refine x_getf (pc := 59) (v := .int (x_tx 1)) dX2_takeNumber_59 xf_X2_19 hAt_same rfl ?_
            obtain ⟨q62, hp⟩ := hp
            refine x_cald (pc := 62) dX2_takeNumber_62 (hAt_n n_ca_tx k_ca) q62 (j := ((x_tx 1).toNatClampNeg)) rfl ?_
            refine x_bipush (pc := 63) (v := (48 : Int32)) dX2_takeNumber_63 (by decide) ?_
            refine x_isub (pc := 65) dX2_takeNumber_65 ?_
            refine x_iadd (pc := 66) dX2_takeNumber_66 ?_
            refine x_istore_n (pc := 67) (L' := [(3, .int ((v3 * (10 : Int32)) + ((lf ((x_tx 1).toNatClampNeg)) - (48 : Int32)))), (4, .int v4), (0, .ref tx), (1, .int lo), (2, .int hi)]) dX2_takeNumber_67 rfl rfl ?_
            refine x_aload_n (pc := 68) dX2_takeNumber_68 rfl ?_
            refine x_dup (pc := 69) dX2_takeNumber_69 rfl ?_
            refine x_getf (pc := 70) (v := .int (x_tx 1)) dX2_takeNumber_70 xf_X2_19 hAt_same rfl ?_
            refine x_iconst (pc := 73) (v := (1 : Int32)) dX2_takeNumber_73 (by decide) ?_
            refine x_iadd (pc := 74) dX2_takeNumber_74 ?_
            refine x_putf (pc := 75) (e' := txC ca (upd x_tx 1 ((x_tx 1) + (1 : Int32)))) dX2_takeNumber_75 xf_X2_19 hAt_same rfl rfl rfl rfl ?_
            refine Wp.eqh (h' := (hSet h tx (txC ca (upd x_tx 1 ((x_tx 1) + (1 : Int32)))))) (hSet_set) ?_
            refine x_iinc (pc := 78) (v := (v4 + (1 : Int32))) (L' := [(4, .int (v4 + (1 : Int32))), (3, .int ((v3 * (10 : Int32)) + ((lf ((x_tx 1).toNatClampNeg)) - (48 : Int32)))), (0, .ref tx), (1, .int lo), (2, .int hi)]) dX2_takeNumber_78 rfl rfl rfl rfl ?_
            refine x_goto (pc := 81) (tgt := 5) dX2_takeNumber_81 (by decide) ?_
            subst er
            exact ih (v4 + (1 : Int32)) ((v3 * (10 : Int32)) + ((lf ((x_tx 1).toNatClampNeg)) - (48 : Int32))) (upd x_tx 1 ((x_tx 1) + (1 : Int32))) hp kk
def g_X2_takeNumber_86 (lo : Int32) (hi : Int32) (v4 : Int32) (v3 : Int32) : Int32 := (if v4 ≤ 0 then (-4 : Int32) else (if (f_X4_isBetween v3 lo hi) = 0 then (-4 : Int32) else v3))
def f_X2_takeNumber (t lf : Nat → Int32) (lo hi : Int32) : Int32 × (Nat → Int32) := ((g_X2_takeNumber_86 lo hi (l_X2_takeNumber_5 xK t lf lo hi (0 : Int32) (0 : Int32) t).1 (l_X2_takeNumber_5 xK t lf lo hi (0 : Int32) (0 : Int32) t).2.1), (l_X2_takeNumber_5 xK t lf lo hi (0 : Int32) (0 : Int32) t).2.2)
def p_X2_takeNumber (t lf : Nat → Int32) (lo hi : Int32) : Prop := ((q_X2_takeNumber_5 xK t lf lo hi (0 : Int32) (0 : Int32) t) ∧ True)
set_option maxRecDepth 100000 in
set_option maxHeartbeats 4000000 in
theorem C_X2_takeNumber (G : xG) (h : xH) (tx ca : Nat) (t lf : Nat → Int32) (lo hi : Int32) (k_tx : hAt h tx = some (txC ca t)) (k_ca : hAt h ca = some (arC 240 lf)) (hp : p_X2_takeNumber t lf lo hi) : Cd G 1 yX2_takeNumber cX2_takeNumber 5 (some .int) [.ref tx, .int lo, .int hi] h (some (.int (f_X2_takeNumber t lf lo hi).1)) (hSet h tx (txC ca (f_X2_takeNumber t lf lo hi).2)) := by
  have n_ca_tx : ca ≠ tx := hne_k k_ca k_tx rfl
  refine Ct.of (by decide) (by rfl) ?_
  refine Wp.eqs (L' := [(0, .ref tx), (1, .int lo), (2, .int hi)]) (st' := []) rfl rfl ?_
  refine Wp.eqh (h' := (hSet h tx (txC ca t))) (by rw [hSet_self k_tx]) ?_
  obtain ⟨R, er⟩ : ∃ R, f_X2_takeNumber t lf lo hi = R := ⟨_, rfl⟩
  rw [er]
  unfold f_X2_takeNumber at er
  unfold p_X2_takeNumber at hp
  refine x_iconst (pc := 0) (v := (0 : Int32)) dX2_takeNumber_0 (by decide) ?_
  refine x_istore_n (pc := 1) (L' := [(3, .int (0 : Int32)), (0, .ref tx), (1, .int lo), (2, .int hi)]) dX2_takeNumber_1 rfl rfl ?_
  refine x_iconst (pc := 2) (v := (0 : Int32)) dX2_takeNumber_2 (by decide) ?_
  refine x_istore (pc := 3) (L' := [(4, .int (0 : Int32)), (3, .int (0 : Int32)), (0, .ref tx), (1, .int lo), (2, .int hi)]) dX2_takeNumber_3 rfl rfl ?_
  obtain ⟨ql5, hp⟩ := hp
  refine L_X2_takeNumber_5 G h tx ca t lf lo hi k_tx k_ca  xK (0 : Int32) (0 : Int32) t ql5 ?_
  obtain ⟨F1, eF1⟩ : ∃ F, l_X2_takeNumber_5 xK t lf lo hi (0 : Int32) (0 : Int32) t = F := ⟨_, rfl⟩
  rw [eF1]
  try rw [eF1] at er
  try rw [eF1] at hp
  refine x_iload (pc := 84) dX2_takeNumber_84 rfl ?_
  obtain ⟨F4, eF4⟩ : ∃ F, g_X2_takeNumber_86 lo hi F1.1 F1.2.1 = F := ⟨_, rfl⟩
  try rw [eF4] at er
  try rw [eF4] at hp
  refine x_mrg (pc' := 104) (L' := [(4, .int F1.1), (3, .int F1.2.1), (0, .ref tx), (1, .int lo), (2, .int hi)]) (st' := [.int F4]) (h' := (hSet h tx (txC ca F1.2.2))) (fun J => ?_) ?_
  · unfold g_X2_takeNumber_86 at eF4
    refine x_if_le (pc := 86) (tgt := 102) dX2_takeNumber_86 (by decide) (fun (c7 : F1.1 ≤ 0) => ?_) (fun (c7 : ¬ (F1.1 ≤ 0)) => ?_)
    · rw [if_pos c7] at eF4
      refine x_bipush (pc := 102) (v := (-4 : Int32)) dX2_takeNumber_102 (by decide) ?_
      subst eF4
      exact J
    · rw [if_neg c7] at eF4
      refine x_iload_n (pc := 89) dX2_takeNumber_89 rfl ?_
      refine x_iload_n (pc := 90) dX2_takeNumber_90 rfl ?_
      refine x_iload_n (pc := 91) dX2_takeNumber_91 rfl ?_
      refine x_cN3i (pc := 92) dX2_takeNumber_92 xnl_X2_31 xs_X4_isBetween (C_X4_isBetween G _ F1.2.1 lo hi) rfl rfl rfl ?_
      obtain ⟨F3, eF3⟩ : ∃ F, f_X4_isBetween F1.2.1 lo hi = F := ⟨_, rfl⟩
      rw [eF3]
      try rw [eF3] at eF4
      have bF3 : xB F3 := by rw [← eF3]; exact (B_X4_isBetween _ _ _)
      refine x_if_eq (pc := 95) (tgt := 102) dX2_takeNumber_95 (by decide) (fun (c8 : F3 = 0) => ?_) (fun (c8 : ¬ (F3 = 0)) => ?_)
      · rw [if_pos c8] at eF4
        refine x_bipush (pc := 102) (v := (-4 : Int32)) dX2_takeNumber_102 (by decide) ?_
        subst eF4
        exact J
      · rw [if_neg c8] at eF4
        refine x_iload_n (pc := 98) dX2_takeNumber_98 rfl ?_
        refine x_goto (pc := 99) (tgt := 104) dX2_takeNumber_99 (by decide) ?_
        subst eF4
        exact J
  subst er
  exact x_iret (pc := 104) dX2_takeNumber_104 rfl rfl rfl rfl ⟨rfl, rfl⟩

def f_X2_takeKind (t lf : Nat → Int32) : Int32 × (Nat → Int32) := (if (f_X2_take t lf 4).1 = 0 then (if (f_X2_take (f_X2_take t lf 4).2 lf 5).1 = 0 then (if (f_X2_take (f_X2_take (f_X2_take t lf 4).2 lf 5).2 lf 6).1 = 0 then (((if (f_X2_take (f_X2_take (f_X2_take (f_X2_take t lf 4).2 lf 5).2 lf 6).2 lf 7).1 = 0 then (-4 : Int32) else (3 : Int32))), (f_X2_take (f_X2_take (f_X2_take (f_X2_take t lf 4).2 lf 5).2 lf 6).2 lf 7).2) else ((2 : Int32), (f_X2_take (f_X2_take (f_X2_take t lf 4).2 lf 5).2 lf 6).2)) else ((1 : Int32), (f_X2_take (f_X2_take t lf 4).2 lf 5).2)) else ((0 : Int32), (f_X2_take t lf 4).2))
def p_X2_takeKind (t lf : Nat → Int32) : Prop := (p_X2_take t lf 4 ∧ (((f_X2_take t lf 4).1 = 0 → (p_X2_take (f_X2_take t lf 4).2 lf 5 ∧ (((f_X2_take (f_X2_take t lf 4).2 lf 5).1 = 0 → (p_X2_take (f_X2_take (f_X2_take t lf 4).2 lf 5).2 lf 6 ∧ (((f_X2_take (f_X2_take (f_X2_take t lf 4).2 lf 5).2 lf 6).1 = 0 → (p_X2_take (f_X2_take (f_X2_take (f_X2_take t lf 4).2 lf 5).2 lf 6).2 lf 7 ∧ True)) ∧ (¬ ((f_X2_take (f_X2_take (f_X2_take t lf 4).2 lf 5).2 lf 6).1 = 0) → True)))) ∧ (¬ ((f_X2_take (f_X2_take t lf 4).2 lf 5).1 = 0) → True)))) ∧ (¬ ((f_X2_take t lf 4).1 = 0) → True)))
set_option maxRecDepth 100000 in
set_option maxHeartbeats 4000000 in
theorem C_X2_takeKind (G : xG) (h : xH) (tx ca : Nat) (t lf : Nat → Int32) (k_tx : hAt h tx = some (txC ca t)) (k_ca : hAt h ca = some (arC 240 lf)) (hp : p_X2_takeKind t lf) : Cd G 5 yX2_takeKind cX2_takeKind 1 (some .int) [.ref tx] h (some (.int (f_X2_takeKind t lf).1)) (hSet h tx (txC ca (f_X2_takeKind t lf).2)) := by
  have n_ca_tx : ca ≠ tx := hne_k k_ca k_tx rfl
  refine Ct.of (by decide) (by rfl) ?_
  refine Wp.eqs (L' := [(0, .ref tx)]) (st' := []) rfl rfl ?_
  refine Wp.eqh (h' := (hSet h tx (txC ca t))) (by rw [hSet_self k_tx]) ?_
  obtain ⟨R, er⟩ : ∃ R, f_X2_takeKind t lf = R := ⟨_, rfl⟩
  rw [er]
  unfold f_X2_takeKind at er
  unfold p_X2_takeKind at hp
  refine x_aload_n (pc := 0) dX2_takeKind_0 rfl ?_
  refine x_ldcS (pc := 1) (i := 4) (tx := "tell") dX2_takeKind_1 rfl ?_
  obtain ⟨q3, hp⟩ := hp
  refine x_cV1i (pc := 3) dX2_takeKind_3 xl_X2_37 xv_X2_take hAt_same rfl (C_X2_take G _ tx ca t lf 4 hAt_same (hAt_n n_ca_tx k_ca) q3) rfl rfl rfl ?_
  obtain ⟨F1, eF1⟩ : ∃ F, f_X2_take t lf 4 = F := ⟨_, rfl⟩
  rw [eF1]
  try rw [eF1] at er
  try rw [eF1] at hp
  have bF1_1 : xB F1.1 := by rw [← eF1]; exact (B_X2_take _ _ _)
  refine Wp.eqh (h' := (hSet h tx (txC ca F1.2))) (hSet_set) ?_
  refine x_if_eq (pc := 6) (tgt := 11) dX2_takeKind_6 (by decide) (fun (c1 : F1.1 = 0) => ?_) (fun (c1 : ¬ (F1.1 = 0)) => ?_)
  · rw [if_pos c1] at er
    replace hp := hp.1 c1
    refine x_aload_n (pc := 11) dX2_takeKind_11 rfl ?_
    refine x_ldcS (pc := 12) (i := 5) (tx := "wrong") dX2_takeKind_12 rfl ?_
    obtain ⟨q14, hp⟩ := hp
    refine x_cV1i (pc := 14) dX2_takeKind_14 xl_X2_37 xv_X2_take hAt_same rfl (C_X2_take G _ tx ca F1.2 lf 5 hAt_same (hAt_n n_ca_tx k_ca) q14) rfl rfl rfl ?_
    obtain ⟨F2, eF2⟩ : ∃ F, f_X2_take F1.2 lf 5 = F := ⟨_, rfl⟩
    rw [eF2]
    try rw [eF2] at er
    try rw [eF2] at hp
    have bF2_1 : xB F2.1 := by rw [← eF2]; exact (B_X2_take _ _ _)
    refine Wp.eqh (h' := (hSet h tx (txC ca F2.2))) (hSet_set) ?_
    refine x_if_eq (pc := 17) (tgt := 22) dX2_takeKind_17 (by decide) (fun (c2 : F2.1 = 0) => ?_) (fun (c2 : ¬ (F2.1 = 0)) => ?_)
    · rw [if_pos c2] at er
      replace hp := hp.1 c2
      refine x_aload_n (pc := 22) dX2_takeKind_22 rfl ?_
      refine x_ldcS (pc := 23) (i := 6) (tx := "old") dX2_takeKind_23 rfl ?_
      obtain ⟨q25, hp⟩ := hp
      refine x_cV1i (pc := 25) dX2_takeKind_25 xl_X2_37 xv_X2_take hAt_same rfl (C_X2_take G _ tx ca F2.2 lf 6 hAt_same (hAt_n n_ca_tx k_ca) q25) rfl rfl rfl ?_
      obtain ⟨F3, eF3⟩ : ∃ F, f_X2_take F2.2 lf 6 = F := ⟨_, rfl⟩
      rw [eF3]
      try rw [eF3] at er
      try rw [eF3] at hp
      have bF3_1 : xB F3.1 := by rw [← eF3]; exact (B_X2_take _ _ _)
      refine Wp.eqh (h' := (hSet h tx (txC ca F3.2))) (hSet_set) ?_
      refine x_if_eq (pc := 28) (tgt := 33) dX2_takeKind_28 (by decide) (fun (c3 : F3.1 = 0) => ?_) (fun (c3 : ¬ (F3.1 = 0)) => ?_)
      · rw [if_pos c3] at er
        replace hp := hp.1 c3
        refine x_aload_n (pc := 33) dX2_takeKind_33 rfl ?_
        refine x_ldcS (pc := 34) (i := 7) (tx := "silent") dX2_takeKind_34 rfl ?_
        obtain ⟨q36, hp⟩ := hp
        refine x_cV1i (pc := 36) dX2_takeKind_36 xl_X2_37 xv_X2_take hAt_same rfl (C_X2_take G _ tx ca F3.2 lf 7 hAt_same (hAt_n n_ca_tx k_ca) q36) rfl rfl rfl ?_
        obtain ⟨F4, eF4⟩ : ∃ F, f_X2_take F3.2 lf 7 = F := ⟨_, rfl⟩
        rw [eF4]
        try rw [eF4] at er
        try rw [eF4] at hp
        have bF4_1 : xB F4.1 := by rw [← eF4]; exact (B_X2_take _ _ _)
        refine Wp.eqh (h' := (hSet h tx (txC ca F4.2))) (hSet_set) ?_
        obtain ⟨F5, eF5⟩ : ∃ F, (if F4.1 = 0 then (-4 : Int32) else (3 : Int32)) = F := ⟨_, rfl⟩
        try rw [eF5] at er
        try rw [eF5] at hp
        refine x_mrg (pc' := 48) (L' := [(0, .ref tx)]) (st' := [.int F5]) (h' := (hSet h tx (txC ca F4.2))) (fun J => ?_) ?_
        · refine x_if_eq (pc := 39) (tgt := 46) dX2_takeKind_39 (by decide) (fun (c4 : F4.1 = 0) => ?_) (fun (c4 : ¬ (F4.1 = 0)) => ?_)
          · refine x_bipush (pc := 46) (v := (-4 : Int32)) dX2_takeKind_46 (by decide) ?_
            rw [if_pos c4] at eF5
            subst eF5
            exact J
          · refine x_iconst (pc := 42) (v := (3 : Int32)) dX2_takeKind_42 (by decide) ?_
            refine x_goto (pc := 43) (tgt := 48) dX2_takeKind_43 (by decide) ?_
            rw [if_neg c4] at eF5
            subst eF5
            exact J
        subst er
        exact x_iret (pc := 48) dX2_takeKind_48 rfl rfl rfl rfl ⟨rfl, rfl⟩
      · rw [if_neg c3] at er
        replace hp := hp.2 c3
        refine x_iconst (pc := 31) (v := (2 : Int32)) dX2_takeKind_31 (by decide) ?_
        subst er
        exact x_iret (pc := 32) dX2_takeKind_32 rfl rfl rfl rfl ⟨rfl, rfl⟩
    · rw [if_neg c2] at er
      replace hp := hp.2 c2
      refine x_iconst (pc := 20) (v := (1 : Int32)) dX2_takeKind_20 (by decide) ?_
      subst er
      exact x_iret (pc := 21) dX2_takeKind_21 rfl rfl rfl rfl ⟨rfl, rfl⟩
  · rw [if_neg c1] at er
    replace hp := hp.2 c1
    refine x_iconst (pc := 9) (v := (0 : Int32)) dX2_takeKind_9 (by decide) ?_
    subst er
    exact x_iret (pc := 10) dX2_takeKind_10 rfl rfl rfl rfl ⟨rfl, rfl⟩

def f_X2_takeBelief (t lf : Nat → Int32) : Int32 × (Nat → Int32) := (if (f_X2_take t lf 13).1 = 0 then (if (f_X2_take (f_X2_take t lf 13).2 lf 14).1 = 0 then (((if (f_X2_take (f_X2_take (f_X2_take t lf 13).2 lf 14).2 lf 15).1 = 0 then (-4 : Int32) else (2 : Int32))), (f_X2_take (f_X2_take (f_X2_take t lf 13).2 lf 14).2 lf 15).2) else ((1 : Int32), (f_X2_take (f_X2_take t lf 13).2 lf 14).2)) else ((0 : Int32), (f_X2_take t lf 13).2))
def p_X2_takeBelief (t lf : Nat → Int32) : Prop := (p_X2_take t lf 13 ∧ (((f_X2_take t lf 13).1 = 0 → (p_X2_take (f_X2_take t lf 13).2 lf 14 ∧ (((f_X2_take (f_X2_take t lf 13).2 lf 14).1 = 0 → (p_X2_take (f_X2_take (f_X2_take t lf 13).2 lf 14).2 lf 15 ∧ True)) ∧ (¬ ((f_X2_take (f_X2_take t lf 13).2 lf 14).1 = 0) → True)))) ∧ (¬ ((f_X2_take t lf 13).1 = 0) → True)))
set_option maxRecDepth 100000 in
set_option maxHeartbeats 4000000 in
theorem C_X2_takeBelief (G : xG) (h : xH) (tx ca : Nat) (t lf : Nat → Int32) (k_tx : hAt h tx = some (txC ca t)) (k_ca : hAt h ca = some (arC 240 lf)) (hp : p_X2_takeBelief t lf) : Cd G 5 yX2_takeBelief cX2_takeBelief 1 (some .int) [.ref tx] h (some (.int (f_X2_takeBelief t lf).1)) (hSet h tx (txC ca (f_X2_takeBelief t lf).2)) := by
  have n_ca_tx : ca ≠ tx := hne_k k_ca k_tx rfl
  refine Ct.of (by decide) (by rfl) ?_
  refine Wp.eqs (L' := [(0, .ref tx)]) (st' := []) rfl rfl ?_
  refine Wp.eqh (h' := (hSet h tx (txC ca t))) (by rw [hSet_self k_tx]) ?_
  obtain ⟨R, er⟩ : ∃ R, f_X2_takeBelief t lf = R := ⟨_, rfl⟩
  rw [er]
  unfold f_X2_takeBelief at er
  unfold p_X2_takeBelief at hp
  refine x_aload_n (pc := 0) dX2_takeBelief_0 rfl ?_
  refine x_ldcS (pc := 1) (i := 13) (tx := "all") dX2_takeBelief_1 rfl ?_
  obtain ⟨q3, hp⟩ := hp
  refine x_cV1i (pc := 3) dX2_takeBelief_3 xl_X2_37 xv_X2_take hAt_same rfl (C_X2_take G _ tx ca t lf 13 hAt_same (hAt_n n_ca_tx k_ca) q3) rfl rfl rfl ?_
  obtain ⟨F1, eF1⟩ : ∃ F, f_X2_take t lf 13 = F := ⟨_, rfl⟩
  rw [eF1]
  try rw [eF1] at er
  try rw [eF1] at hp
  have bF1_1 : xB F1.1 := by rw [← eF1]; exact (B_X2_take _ _ _)
  refine Wp.eqh (h' := (hSet h tx (txC ca F1.2))) (hSet_set) ?_
  refine x_if_eq (pc := 6) (tgt := 11) dX2_takeBelief_6 (by decide) (fun (c1 : F1.1 = 0) => ?_) (fun (c1 : ¬ (F1.1 = 0)) => ?_)
  · rw [if_pos c1] at er
    replace hp := hp.1 c1
    refine x_aload_n (pc := 11) dX2_takeBelief_11 rfl ?_
    refine x_ldcS (pc := 12) (i := 14) (tx := "checked") dX2_takeBelief_12 rfl ?_
    obtain ⟨q14, hp⟩ := hp
    refine x_cV1i (pc := 14) dX2_takeBelief_14 xl_X2_37 xv_X2_take hAt_same rfl (C_X2_take G _ tx ca F1.2 lf 14 hAt_same (hAt_n n_ca_tx k_ca) q14) rfl rfl rfl ?_
    obtain ⟨F2, eF2⟩ : ∃ F, f_X2_take F1.2 lf 14 = F := ⟨_, rfl⟩
    rw [eF2]
    try rw [eF2] at er
    try rw [eF2] at hp
    have bF2_1 : xB F2.1 := by rw [← eF2]; exact (B_X2_take _ _ _)
    refine Wp.eqh (h' := (hSet h tx (txC ca F2.2))) (hSet_set) ?_
    refine x_if_eq (pc := 17) (tgt := 22) dX2_takeBelief_17 (by decide) (fun (c2 : F2.1 = 0) => ?_) (fun (c2 : ¬ (F2.1 = 0)) => ?_)
    · rw [if_pos c2] at er
      replace hp := hp.1 c2
      refine x_aload_n (pc := 22) dX2_takeBelief_22 rfl ?_
      refine x_ldcS (pc := 23) (i := 15) (tx := "none") dX2_takeBelief_23 rfl ?_
      obtain ⟨q25, hp⟩ := hp
      refine x_cV1i (pc := 25) dX2_takeBelief_25 xl_X2_37 xv_X2_take hAt_same rfl (C_X2_take G _ tx ca F2.2 lf 15 hAt_same (hAt_n n_ca_tx k_ca) q25) rfl rfl rfl ?_
      obtain ⟨F3, eF3⟩ : ∃ F, f_X2_take F2.2 lf 15 = F := ⟨_, rfl⟩
      rw [eF3]
      try rw [eF3] at er
      try rw [eF3] at hp
      have bF3_1 : xB F3.1 := by rw [← eF3]; exact (B_X2_take _ _ _)
      refine Wp.eqh (h' := (hSet h tx (txC ca F3.2))) (hSet_set) ?_
      obtain ⟨F4, eF4⟩ : ∃ F, (if F3.1 = 0 then (-4 : Int32) else (2 : Int32)) = F := ⟨_, rfl⟩
      try rw [eF4] at er
      try rw [eF4] at hp
      refine x_mrg (pc' := 37) (L' := [(0, .ref tx)]) (st' := [.int F4]) (h' := (hSet h tx (txC ca F3.2))) (fun J => ?_) ?_
      · refine x_if_eq (pc := 28) (tgt := 35) dX2_takeBelief_28 (by decide) (fun (c3 : F3.1 = 0) => ?_) (fun (c3 : ¬ (F3.1 = 0)) => ?_)
        · refine x_bipush (pc := 35) (v := (-4 : Int32)) dX2_takeBelief_35 (by decide) ?_
          rw [if_pos c3] at eF4
          subst eF4
          exact J
        · refine x_iconst (pc := 31) (v := (2 : Int32)) dX2_takeBelief_31 (by decide) ?_
          refine x_goto (pc := 32) (tgt := 37) dX2_takeBelief_32 (by decide) ?_
          rw [if_neg c3] at eF4
          subst eF4
          exact J
      subst er
      exact x_iret (pc := 37) dX2_takeBelief_37 rfl rfl rfl rfl ⟨rfl, rfl⟩
    · rw [if_neg c2] at er
      replace hp := hp.2 c2
      refine x_iconst (pc := 20) (v := (1 : Int32)) dX2_takeBelief_20 (by decide) ?_
      subst er
      exact x_iret (pc := 21) dX2_takeBelief_21 rfl rfl rfl rfl ⟨rfl, rfl⟩
  · rw [if_neg c1] at er
    replace hp := hp.2 c1
    refine x_iconst (pc := 9) (v := (0 : Int32)) dX2_takeBelief_9 (by decide) ?_
    subst er
    exact x_iret (pc := 10) dX2_takeBelief_10 rfl rfl rfl rfl ⟨rfl, rfl⟩
