def l_X0_leastLow_6 : Nat → (Nat → Int32) → (Nat → Int32) → (Nat → Nat → Int32) → (Nat → Nat → Int32) → (Nat → Nat → Int32) → Int32 → Int32 → Int32 × Int32
  | 0, _, _, _, _, _, _, _ => (0, 0)
  | n + 1, r, t, W, LF, KF, v2, v1 => (if (t 0) ≤ v2 then (v2, v1) else (l_X0_leastLow_6 n r t W LF KF (v2 + (1 : Int32)) (if ((W (v2.toNatClampNeg)) 0) < v1 then ((W (v2.toNatClampNeg)) 0) else v1)))
def q_X0_leastLow_6 : Nat → (Nat → Int32) → (Nat → Int32) → (Nat → Nat → Int32) → (Nat → Nat → Int32) → (Nat → Nat → Int32) → Int32 → Int32 → Prop
  | 0, _, _, _, _, _, _, _ => False
  | n + 1, r, t, W, LF, KF, v2, v1 => (((t 0) ≤ v2 → True) ∧ (¬ ((t 0) ≤ v2) → (vp_in v2 4 ∧ (q_X0_leastLow_6 n r t W LF KF (v2 + (1 : Int32)) (if ((W (v2.toNatClampNeg)) 0) < v1 then ((W (v2.toNatClampNeg)) 0) else v1)))))
set_option maxRecDepth 100000 in
set_option maxHeartbeats 4000000 in
theorem L_X0_leastLow_6 (G : xG) (h : xH) (b : Nat) (r : (Nat → Int32)) (t : (Nat → Int32)) (W : (Nat → Nat → Int32)) (LF : (Nat → Nat → Int32)) (KF : (Nat → Nat → Int32)) (k_b : nk h b r t W LF KF) {Z : xZ} : ∀ (n : Nat) (v2 : Int32) (v1 : Int32), q_X0_leastLow_6 n r t W LF KF v2 v1 → Wp G yX0_leastLow.cls cX0_leastLow 3 yX0_leastLow.name (some .int) (xR 1 0 0) Z 0 0 34 [(2, .int (l_X0_leastLow_6 n r t W LF KF v2 v1).1), (1, .int (l_X0_leastLow_6 n r t W LF KF v2 v1).2), (0, .ref b)] [] h → Wp G yX0_leastLow.cls cX0_leastLow 3 yX0_leastLow.name (some .int) (xR 1 0 0) Z 0 0 6 [(2, .int v2), (1, .int v1), (0, .ref b)] [] h := by
  intro n
  induction n with
  | zero => intro v2 v1 hp; exact absurd hp id
  | succ n ih =>
    intro v2 v1 hp kk
    obtain ⟨R, er⟩ : ∃ R, l_X0_leastLow_6 (n + 1) r t W LF KF v2 v1 = R := ⟨_, rfl⟩
    rw [er] at kk
    rw [l_X0_leastLow_6] at er
    rw [q_X0_leastLow_6] at hp
    refine x_iload_n (pc := 6) dX0_leastLow_6 rfl ?_
    refine x_aload_n (pc := 7) dX0_leastLow_7 rfl ?_
    refine x_getf (pc := 8) (v := .int (t 0)) dX0_leastLow_8 xf_X0_29 (nk_nt k_b) rfl ?_
    refine x_icmp_ge (pc := 11) (tgt := 34) dX0_leastLow_11 (by decide) (fun (c1 : (t 0) ≤ v2) => ?_) (fun (c1 : ¬ ((t 0) ≤ v2)) => ?_)
    · rw [if_pos c1] at er
      replace hp := hp.1 c1
      subst er
      exact kk
    · rw [if_neg c1] at er
      replace hp := hp.2 c1
      refine x_iload_n (pc := 14) dX0_leastLow_14 rfl ?_
      refine x_aload_n (pc := 15) dX0_leastLow_15 rfl ?_
      refine x_getf (pc := 16) (v := .ref (b + 2)) dX0_leastLow_16 xf_X0_20 (nk_nt k_b) rfl ?_
      refine x_iload_n (pc := 19) dX0_leastLow_19 rfl ?_
      obtain ⟨q20, hp⟩ := hp
      have hj2 : (v2.toNatClampNeg) < 4 := vp_lt q20
      refine x_aald (pc := 20) (t := 3) (Cn := RX3) (b := (b + 3 + 3 * (v2.toNatClampNeg))) rfl dX0_leastLow_20 (nk_wy k_b) q20 rfl ?_
      refine x_getf (pc := 21) (v := .int ((W (v2.toNatClampNeg)) 0)) dX0_leastLow_21 xf_X0_39 (nk_wa k_b hj2) rfl ?_
      refine x_min (pc := 24) dX0_leastLow_24 xl_X0_42 rfl rfl rfl rfl rfl ?_
      refine x_istore_n (pc := 27) (L' := [(1, .int (if ((W (v2.toNatClampNeg)) 0) < v1 then ((W (v2.toNatClampNeg)) 0) else v1)), (2, .int v2), (0, .ref b)]) dX0_leastLow_27 rfl rfl ?_
      refine x_iinc (pc := 28) (v := (v2 + (1 : Int32))) (L' := [(2, .int (v2 + (1 : Int32))), (1, .int (if ((W (v2.toNatClampNeg)) 0) < v1 then ((W (v2.toNatClampNeg)) 0) else v1)), (0, .ref b)]) dX0_leastLow_28 rfl rfl rfl rfl ?_
      refine x_goto (pc := 31) (tgt := 6) dX0_leastLow_31 (by decide) ?_
      subst er
      exact ih (v2 + (1 : Int32)) (if ((W (v2.toNatClampNeg)) 0) < v1 then ((W (v2.toNatClampNeg)) 0) else v1) hp kk
def f_X0_leastLow (r : (Nat → Int32)) (t : (Nat → Int32)) (W : (Nat → Nat → Int32)) (LF : (Nat → Nat → Int32)) (KF : (Nat → Nat → Int32)) : Int32 := (l_X0_leastLow_6 xK r t W LF KF (0 : Int32) (999 : Int32)).2
def p_X0_leastLow (r : (Nat → Int32)) (t : (Nat → Int32)) (W : (Nat → Nat → Int32)) (LF : (Nat → Nat → Int32)) (KF : (Nat → Nat → Int32)) : Prop := ((q_X0_leastLow_6 xK r t W LF KF (0 : Int32) (999 : Int32)) ∧ True)
set_option maxRecDepth 100000 in
set_option maxHeartbeats 4000000 in
theorem C_X0_leastLow (G : xG) (h : xH) (b : Nat) (r : (Nat → Int32)) (t : (Nat → Int32)) (W : (Nat → Nat → Int32)) (LF : (Nat → Nat → Int32)) (KF : (Nat → Nat → Int32)) (k_b : nk h b r t W LF KF) (hp : p_X0_leastLow r t W LF KF) : Ct G 1 0 0 yX0_leastLow cX0_leastLow 3 (some .int) [.ref b] h (fun v' h' => v' = (some (.int (f_X0_leastLow r t W LF KF))) ∧ h' = h) := by
  refine Ct.of (by decide) (by rfl) ?_
  refine Wp.eqs (L' := [(0, .ref b)]) (st' := []) rfl rfl ?_
  obtain ⟨R, er⟩ : ∃ R, f_X0_leastLow r t W LF KF = R := ⟨_, rfl⟩
  rw [er]
  unfold f_X0_leastLow at er
  unfold p_X0_leastLow at hp
  refine x_sipush (pc := 0) (v := (999 : Int32)) dX0_leastLow_0 (by decide) ?_
  refine x_istore_n (pc := 3) (L' := [(1, .int (999 : Int32)), (0, .ref b)]) dX0_leastLow_3 rfl rfl ?_
  refine x_iconst (pc := 4) (v := (0 : Int32)) dX0_leastLow_4 (by decide) ?_
  refine x_istore_n (pc := 5) (L' := [(2, .int (0 : Int32)), (1, .int (999 : Int32)), (0, .ref b)]) dX0_leastLow_5 rfl rfl ?_
  obtain ⟨ql6, hp⟩ := hp
  refine L_X0_leastLow_6 G h b r t W LF KF k_b  xK (0 : Int32) (999 : Int32) ql6 ?_
  obtain ⟨F1, eF1⟩ : ∃ F, l_X0_leastLow_6 xK r t W LF KF (0 : Int32) (999 : Int32) = F := ⟨_, rfl⟩
  rw [eF1]
  try rw [eF1] at er
  try rw [eF1] at hp
  refine x_iload_n (pc := 34) dX0_leastLow_34 rfl ?_
  subst er
  exact x_iret (pc := 35) dX0_leastLow_35 rfl rfl rfl rfl ⟨rfl, rfl⟩

def l_X0_allDone_4 : Nat → (Nat → Int32) → (Nat → Int32) → (Nat → Nat → Int32) → (Nat → Nat → Int32) → (Nat → Nat → Int32) → Int32 → Int32 → Int32 × Int32
  | 0, _, _, _, _, _, _, _ => (0, 0)
  | n + 1, r, t, W, LF, KF, v2, v1 => (if (t 0) ≤ v2 then (v2, v1) else (l_X0_allDone_4 n r t W LF KF (v2 + (1 : Int32)) (v1 + ((if ((W (v2.toNatClampNeg)) 2) = (1 : Int32) then (1 : Int32) else (0 : Int32))))))
def q_X0_allDone_4 : Nat → (Nat → Int32) → (Nat → Int32) → (Nat → Nat → Int32) → (Nat → Nat → Int32) → (Nat → Nat → Int32) → Int32 → Int32 → Prop
  | 0, _, _, _, _, _, _, _ => False
  | n + 1, r, t, W, LF, KF, v2, v1 => (((t 0) ≤ v2 → True) ∧ (¬ ((t 0) ≤ v2) → (vp_in v2 4 ∧ (q_X0_allDone_4 n r t W LF KF (v2 + (1 : Int32)) (v1 + ((if ((W (v2.toNatClampNeg)) 2) = (1 : Int32) then (1 : Int32) else (0 : Int32))))))))
set_option maxRecDepth 100000 in
set_option maxHeartbeats 4000000 in
theorem L_X0_allDone_4 (G : xG) (h : xH) (b : Nat) (r : (Nat → Int32)) (t : (Nat → Int32)) (W : (Nat → Nat → Int32)) (LF : (Nat → Nat → Int32)) (KF : (Nat → Nat → Int32)) (k_b : nk h b r t W LF KF) {Z : xZ} : ∀ (n : Nat) (v2 : Int32) (v1 : Int32), q_X0_allDone_4 n r t W LF KF v2 v1 → Wp G yX0_allDone.cls cX0_allDone 3 yX0_allDone.name (some .int) (xR 0 0 0) Z 0 0 39 [(2, .int (l_X0_allDone_4 n r t W LF KF v2 v1).1), (1, .int (l_X0_allDone_4 n r t W LF KF v2 v1).2), (0, .ref b)] [] h → Wp G yX0_allDone.cls cX0_allDone 3 yX0_allDone.name (some .int) (xR 0 0 0) Z 0 0 4 [(2, .int v2), (1, .int v1), (0, .ref b)] [] h := by
  intro n
  induction n with
  | zero => intro v2 v1 hp; exact absurd hp id
  | succ n ih =>
    intro v2 v1 hp kk
    obtain ⟨R, er⟩ : ∃ R, l_X0_allDone_4 (n + 1) r t W LF KF v2 v1 = R := ⟨_, rfl⟩
    rw [er] at kk
    rw [l_X0_allDone_4] at er
    rw [q_X0_allDone_4] at hp
    refine x_iload_n (pc := 4) dX0_allDone_4 rfl ?_
    refine x_aload_n (pc := 5) dX0_allDone_5 rfl ?_
    refine x_getf (pc := 6) (v := .int (t 0)) dX0_allDone_6 xf_X0_29 (nk_nt k_b) rfl ?_
    refine x_icmp_ge (pc := 9) (tgt := 39) dX0_allDone_9 (by decide) (fun (c1 : (t 0) ≤ v2) => ?_) (fun (c1 : ¬ ((t 0) ≤ v2)) => ?_)
    · rw [if_pos c1] at er
      replace hp := hp.1 c1
      subst er
      exact kk
    · rw [if_neg c1] at er
      replace hp := hp.2 c1
      refine x_iload_n (pc := 12) dX0_allDone_12 rfl ?_
      refine x_aload_n (pc := 13) dX0_allDone_13 rfl ?_
      refine x_getf (pc := 14) (v := .ref (b + 2)) dX0_allDone_14 xf_X0_20 (nk_nt k_b) rfl ?_
      refine x_iload_n (pc := 17) dX0_allDone_17 rfl ?_
      obtain ⟨q18, hp⟩ := hp
      have hj2 : (v2.toNatClampNeg) < 4 := vp_lt q18
      refine x_aald (pc := 18) (t := 3) (Cn := RX3) (b := (b + 3 + 3 * (v2.toNatClampNeg))) rfl dX0_allDone_18 (nk_wy k_b) q18 rfl ?_
      refine x_getf (pc := 19) (v := .int ((W (v2.toNatClampNeg)) 2)) dX0_allDone_19 xf_X0_48 (nk_wa k_b hj2) rfl ?_
      refine x_iconst (pc := 22) (v := (1 : Int32)) dX0_allDone_22 (by decide) ?_
      obtain ⟨F2, eF2⟩ : ∃ F, (if ((W (v2.toNatClampNeg)) 2) = (1 : Int32) then (1 : Int32) else (0 : Int32)) = F := ⟨_, rfl⟩
      try rw [eF2] at er
      try rw [eF2] at hp
      have bF2 : xB F2 := by rw [← eF2]; exact (xB_ite xB1 xB0)
      refine x_mrg (pc' := 31) (L' := [(2, .int v2), (1, .int v1), (0, .ref b)]) (st' := [.int F2, .int v1]) (h' := h) (fun J => ?_) ?_
      · refine x_icmp_ne (pc := 23) (tgt := 30) dX0_allDone_23 (by decide) (fun (c2 : ¬ (((W (v2.toNatClampNeg)) 2) = (1 : Int32))) => ?_) (fun (c2 : ((W (v2.toNatClampNeg)) 2) = (1 : Int32)) => ?_)
        · refine x_iconst (pc := 30) (v := (0 : Int32)) dX0_allDone_30 (by decide) ?_
          rw [if_neg c2] at eF2
          subst eF2
          exact J
        · refine x_iconst (pc := 26) (v := (1 : Int32)) dX0_allDone_26 (by decide) ?_
          refine x_goto (pc := 27) (tgt := 31) dX0_allDone_27 (by decide) ?_
          rw [if_pos c2] at eF2
          subst eF2
          exact J
      refine x_iadd (pc := 31) dX0_allDone_31 ?_
      refine x_istore_n (pc := 32) (L' := [(1, .int (v1 + F2)), (2, .int v2), (0, .ref b)]) dX0_allDone_32 rfl rfl ?_
      refine x_iinc (pc := 33) (v := (v2 + (1 : Int32))) (L' := [(2, .int (v2 + (1 : Int32))), (1, .int (v1 + F2)), (0, .ref b)]) dX0_allDone_33 rfl rfl rfl rfl ?_
      refine x_goto (pc := 36) (tgt := 4) dX0_allDone_36 (by decide) ?_
      subst er
      exact ih (v2 + (1 : Int32)) (v1 + F2) hp kk
def f_X0_allDone (r : (Nat → Int32)) (t : (Nat → Int32)) (W : (Nat → Nat → Int32)) (LF : (Nat → Nat → Int32)) (KF : (Nat → Nat → Int32)) : Int32 := (l_X0_allDone_4 xK r t W LF KF (0 : Int32) (0 : Int32)).2
def p_X0_allDone (r : (Nat → Int32)) (t : (Nat → Int32)) (W : (Nat → Nat → Int32)) (LF : (Nat → Nat → Int32)) (KF : (Nat → Nat → Int32)) : Prop := ((q_X0_allDone_4 xK r t W LF KF (0 : Int32) (0 : Int32)) ∧ True)
set_option maxRecDepth 100000 in
set_option maxHeartbeats 4000000 in
theorem C_X0_allDone (G : xG) (h : xH) (b : Nat) (r : (Nat → Int32)) (t : (Nat → Int32)) (W : (Nat → Nat → Int32)) (LF : (Nat → Nat → Int32)) (KF : (Nat → Nat → Int32)) (k_b : nk h b r t W LF KF) (hp : p_X0_allDone r t W LF KF) : Ct G 0 0 0 yX0_allDone cX0_allDone 3 (some .int) [.ref b] h (fun v' h' => v' = (some (.int (f_X0_allDone r t W LF KF))) ∧ h' = h) := by
  refine Ct.of (by decide) (by rfl) ?_
  refine Wp.eqs (L' := [(0, .ref b)]) (st' := []) rfl rfl ?_
  obtain ⟨R, er⟩ : ∃ R, f_X0_allDone r t W LF KF = R := ⟨_, rfl⟩
  rw [er]
  unfold f_X0_allDone at er
  unfold p_X0_allDone at hp
  refine x_iconst (pc := 0) (v := (0 : Int32)) dX0_allDone_0 (by decide) ?_
  refine x_istore_n (pc := 1) (L' := [(1, .int (0 : Int32)), (0, .ref b)]) dX0_allDone_1 rfl rfl ?_
  refine x_iconst (pc := 2) (v := (0 : Int32)) dX0_allDone_2 (by decide) ?_
  refine x_istore_n (pc := 3) (L' := [(2, .int (0 : Int32)), (1, .int (0 : Int32)), (0, .ref b)]) dX0_allDone_3 rfl rfl ?_
  obtain ⟨ql4, hp⟩ := hp
  refine L_X0_allDone_4 G h b r t W LF KF k_b  xK (0 : Int32) (0 : Int32) ql4 ?_
  obtain ⟨F3, eF3⟩ : ∃ F, l_X0_allDone_4 xK r t W LF KF (0 : Int32) (0 : Int32) = F := ⟨_, rfl⟩
  rw [eF3]
  try rw [eF3] at er
  try rw [eF3] at hp
  refine x_iload_n (pc := 39) dX0_allDone_39 rfl ?_
  subst er
  exact x_iret (pc := 40) dX0_allDone_40 rfl rfl rfl rfl ⟨rfl, rfl⟩

def l_X0_allSent_4 : Nat → (Nat → Int32) → (Nat → Int32) → (Nat → Nat → Int32) → (Nat → Nat → Int32) → (Nat → Nat → Int32) → Int32 → Int32 → Int32 × Int32
  | 0, _, _, _, _, _, _, _ => (0, 0)
  | n + 1, r, t, W, LF, KF, v2, v1 => (if (t 0) ≤ v2 then (v2, v1) else (l_X0_allSent_4 n r t W LF KF (v2 + (1 : Int32)) (v1 + ((W (v2.toNatClampNeg)) 7))))
def q_X0_allSent_4 : Nat → (Nat → Int32) → (Nat → Int32) → (Nat → Nat → Int32) → (Nat → Nat → Int32) → (Nat → Nat → Int32) → Int32 → Int32 → Prop
  | 0, _, _, _, _, _, _, _ => False
  | n + 1, r, t, W, LF, KF, v2, v1 => (((t 0) ≤ v2 → True) ∧ (¬ ((t 0) ≤ v2) → (vp_in v2 4 ∧ (q_X0_allSent_4 n r t W LF KF (v2 + (1 : Int32)) (v1 + ((W (v2.toNatClampNeg)) 7))))))
set_option maxRecDepth 100000 in
set_option maxHeartbeats 4000000 in
theorem L_X0_allSent_4 (G : xG) (h : xH) (b : Nat) (r : (Nat → Int32)) (t : (Nat → Int32)) (W : (Nat → Nat → Int32)) (LF : (Nat → Nat → Int32)) (KF : (Nat → Nat → Int32)) (k_b : nk h b r t W LF KF) {Z : xZ} : ∀ (n : Nat) (v2 : Int32) (v1 : Int32), q_X0_allSent_4 n r t W LF KF v2 v1 → Wp G yX0_allSent.cls cX0_allSent 3 yX0_allSent.name (some .int) (xR 0 0 0) Z 0 0 30 [(2, .int (l_X0_allSent_4 n r t W LF KF v2 v1).1), (1, .int (l_X0_allSent_4 n r t W LF KF v2 v1).2), (0, .ref b)] [] h → Wp G yX0_allSent.cls cX0_allSent 3 yX0_allSent.name (some .int) (xR 0 0 0) Z 0 0 4 [(2, .int v2), (1, .int v1), (0, .ref b)] [] h := by
  intro n
  induction n with
  | zero => intro v2 v1 hp; exact absurd hp id
  | succ n ih =>
    intro v2 v1 hp kk
    obtain ⟨R, er⟩ : ∃ R, l_X0_allSent_4 (n + 1) r t W LF KF v2 v1 = R := ⟨_, rfl⟩
    rw [er] at kk
    rw [l_X0_allSent_4] at er
    rw [q_X0_allSent_4] at hp
    refine x_iload_n (pc := 4) dX0_allSent_4 rfl ?_
    refine x_aload_n (pc := 5) dX0_allSent_5 rfl ?_
    refine x_getf (pc := 6) (v := .int (t 0)) dX0_allSent_6 xf_X0_29 (nk_nt k_b) rfl ?_
    refine x_icmp_ge (pc := 9) (tgt := 30) dX0_allSent_9 (by decide) (fun (c1 : (t 0) ≤ v2) => ?_) (fun (c1 : ¬ ((t 0) ≤ v2)) => ?_)
    · rw [if_pos c1] at er
      replace hp := hp.1 c1
      subst er
      exact kk
    · rw [if_neg c1] at er
      replace hp := hp.2 c1
      refine x_iload_n (pc := 12) dX0_allSent_12 rfl ?_
      refine x_aload_n (pc := 13) dX0_allSent_13 rfl ?_
      refine x_getf (pc := 14) (v := .ref (b + 2)) dX0_allSent_14 xf_X0_20 (nk_nt k_b) rfl ?_
      refine x_iload_n (pc := 17) dX0_allSent_17 rfl ?_
      obtain ⟨q18, hp⟩ := hp
      have hj2 : (v2.toNatClampNeg) < 4 := vp_lt q18
      refine x_aald (pc := 18) (t := 3) (Cn := RX3) (b := (b + 3 + 3 * (v2.toNatClampNeg))) rfl dX0_allSent_18 (nk_wy k_b) q18 rfl ?_
      refine x_getf (pc := 19) (v := .int ((W (v2.toNatClampNeg)) 7)) dX0_allSent_19 xf_X0_51 (nk_wa k_b hj2) rfl ?_
      refine x_iadd (pc := 22) dX0_allSent_22 ?_
      refine x_istore_n (pc := 23) (L' := [(1, .int (v1 + ((W (v2.toNatClampNeg)) 7))), (2, .int v2), (0, .ref b)]) dX0_allSent_23 rfl rfl ?_
      refine x_iinc (pc := 24) (v := (v2 + (1 : Int32))) (L' := [(2, .int (v2 + (1 : Int32))), (1, .int (v1 + ((W (v2.toNatClampNeg)) 7))), (0, .ref b)]) dX0_allSent_24 rfl rfl rfl rfl ?_
      refine x_goto (pc := 27) (tgt := 4) dX0_allSent_27 (by decide) ?_
      subst er
      exact ih (v2 + (1 : Int32)) (v1 + ((W (v2.toNatClampNeg)) 7)) hp kk
def f_X0_allSent (r : (Nat → Int32)) (t : (Nat → Int32)) (W : (Nat → Nat → Int32)) (LF : (Nat → Nat → Int32)) (KF : (Nat → Nat → Int32)) : Int32 := (l_X0_allSent_4 xK r t W LF KF (0 : Int32) (0 : Int32)).2
def p_X0_allSent (r : (Nat → Int32)) (t : (Nat → Int32)) (W : (Nat → Nat → Int32)) (LF : (Nat → Nat → Int32)) (KF : (Nat → Nat → Int32)) : Prop := ((q_X0_allSent_4 xK r t W LF KF (0 : Int32) (0 : Int32)) ∧ True)
set_option maxRecDepth 100000 in
set_option maxHeartbeats 4000000 in
theorem C_X0_allSent (G : xG) (h : xH) (b : Nat) (r : (Nat → Int32)) (t : (Nat → Int32)) (W : (Nat → Nat → Int32)) (LF : (Nat → Nat → Int32)) (KF : (Nat → Nat → Int32)) (k_b : nk h b r t W LF KF) (hp : p_X0_allSent r t W LF KF) : Ct G 0 0 0 yX0_allSent cX0_allSent 3 (some .int) [.ref b] h (fun v' h' => v' = (some (.int (f_X0_allSent r t W LF KF))) ∧ h' = h) := by
  refine Ct.of (by decide) (by rfl) ?_
  refine Wp.eqs (L' := [(0, .ref b)]) (st' := []) rfl rfl ?_
  obtain ⟨R, er⟩ : ∃ R, f_X0_allSent r t W LF KF = R := ⟨_, rfl⟩
  rw [er]
  unfold f_X0_allSent at er
  unfold p_X0_allSent at hp
  refine x_iconst (pc := 0) (v := (0 : Int32)) dX0_allSent_0 (by decide) ?_
  refine x_istore_n (pc := 1) (L' := [(1, .int (0 : Int32)), (0, .ref b)]) dX0_allSent_1 rfl rfl ?_
  refine x_iconst (pc := 2) (v := (0 : Int32)) dX0_allSent_2 (by decide) ?_
  refine x_istore_n (pc := 3) (L' := [(2, .int (0 : Int32)), (1, .int (0 : Int32)), (0, .ref b)]) dX0_allSent_3 rfl rfl ?_
  obtain ⟨ql4, hp⟩ := hp
  refine L_X0_allSent_4 G h b r t W LF KF k_b  xK (0 : Int32) (0 : Int32) ql4 ?_
  obtain ⟨F1, eF1⟩ : ∃ F, l_X0_allSent_4 xK r t W LF KF (0 : Int32) (0 : Int32) = F := ⟨_, rfl⟩
  rw [eF1]
  try rw [eF1] at er
  try rw [eF1] at hp
  refine x_iload_n (pc := 30) dX0_allSent_30 rfl ?_
  subst er
  exact x_iret (pc := 31) dX0_allSent_31 rfl rfl rfl rfl ⟨rfl, rfl⟩

def l_X0_allLost_4 : Nat → (Nat → Int32) → (Nat → Int32) → (Nat → Nat → Int32) → (Nat → Nat → Int32) → (Nat → Nat → Int32) → Int32 → Int32 → Int32 × Int32
  | 0, _, _, _, _, _, _, _ => (0, 0)
  | n + 1, r, t, W, LF, KF, v2, v1 => (if (t 0) ≤ v2 then (v2, v1) else (l_X0_allLost_4 n r t W LF KF (v2 + (1 : Int32)) (v1 + ((W (v2.toNatClampNeg)) 8))))
def q_X0_allLost_4 : Nat → (Nat → Int32) → (Nat → Int32) → (Nat → Nat → Int32) → (Nat → Nat → Int32) → (Nat → Nat → Int32) → Int32 → Int32 → Prop
  | 0, _, _, _, _, _, _, _ => False
  | n + 1, r, t, W, LF, KF, v2, v1 => (((t 0) ≤ v2 → True) ∧ (¬ ((t 0) ≤ v2) → (vp_in v2 4 ∧ (q_X0_allLost_4 n r t W LF KF (v2 + (1 : Int32)) (v1 + ((W (v2.toNatClampNeg)) 8))))))
set_option maxRecDepth 100000 in
set_option maxHeartbeats 4000000 in
theorem L_X0_allLost_4 (G : xG) (h : xH) (b : Nat) (r : (Nat → Int32)) (t : (Nat → Int32)) (W : (Nat → Nat → Int32)) (LF : (Nat → Nat → Int32)) (KF : (Nat → Nat → Int32)) (k_b : nk h b r t W LF KF) {Z : xZ} : ∀ (n : Nat) (v2 : Int32) (v1 : Int32), q_X0_allLost_4 n r t W LF KF v2 v1 → Wp G yX0_allLost.cls cX0_allLost 3 yX0_allLost.name (some .int) (xR 0 0 0) Z 0 0 30 [(2, .int (l_X0_allLost_4 n r t W LF KF v2 v1).1), (1, .int (l_X0_allLost_4 n r t W LF KF v2 v1).2), (0, .ref b)] [] h → Wp G yX0_allLost.cls cX0_allLost 3 yX0_allLost.name (some .int) (xR 0 0 0) Z 0 0 4 [(2, .int v2), (1, .int v1), (0, .ref b)] [] h := by
  intro n
  induction n with
  | zero => intro v2 v1 hp; exact absurd hp id
  | succ n ih =>
    intro v2 v1 hp kk
    obtain ⟨R, er⟩ : ∃ R, l_X0_allLost_4 (n + 1) r t W LF KF v2 v1 = R := ⟨_, rfl⟩
    rw [er] at kk
    rw [l_X0_allLost_4] at er
    rw [q_X0_allLost_4] at hp
    refine x_iload_n (pc := 4) dX0_allLost_4 rfl ?_
    refine x_aload_n (pc := 5) dX0_allLost_5 rfl ?_
    refine x_getf (pc := 6) (v := .int (t 0)) dX0_allLost_6 xf_X0_29 (nk_nt k_b) rfl ?_
    refine x_icmp_ge (pc := 9) (tgt := 30) dX0_allLost_9 (by decide) (fun (c1 : (t 0) ≤ v2) => ?_) (fun (c1 : ¬ ((t 0) ≤ v2)) => ?_)
    · rw [if_pos c1] at er
      replace hp := hp.1 c1
      subst er
      exact kk
    · rw [if_neg c1] at er
      replace hp := hp.2 c1
      refine x_iload_n (pc := 12) dX0_allLost_12 rfl ?_
      refine x_aload_n (pc := 13) dX0_allLost_13 rfl ?_
      refine x_getf (pc := 14) (v := .ref (b + 2)) dX0_allLost_14 xf_X0_20 (nk_nt k_b) rfl ?_
      refine x_iload_n (pc := 17) dX0_allLost_17 rfl ?_
      obtain ⟨q18, hp⟩ := hp
      have hj2 : (v2.toNatClampNeg) < 4 := vp_lt q18
      refine x_aald (pc := 18) (t := 3) (Cn := RX3) (b := (b + 3 + 3 * (v2.toNatClampNeg))) rfl dX0_allLost_18 (nk_wy k_b) q18 rfl ?_
      refine x_getf (pc := 19) (v := .int ((W (v2.toNatClampNeg)) 8)) dX0_allLost_19 xf_X0_54 (nk_wa k_b hj2) rfl ?_
      refine x_iadd (pc := 22) dX0_allLost_22 ?_
      refine x_istore_n (pc := 23) (L' := [(1, .int (v1 + ((W (v2.toNatClampNeg)) 8))), (2, .int v2), (0, .ref b)]) dX0_allLost_23 rfl rfl ?_
      refine x_iinc (pc := 24) (v := (v2 + (1 : Int32))) (L' := [(2, .int (v2 + (1 : Int32))), (1, .int (v1 + ((W (v2.toNatClampNeg)) 8))), (0, .ref b)]) dX0_allLost_24 rfl rfl rfl rfl ?_
      refine x_goto (pc := 27) (tgt := 4) dX0_allLost_27 (by decide) ?_
      subst er
      exact ih (v2 + (1 : Int32)) (v1 + ((W (v2.toNatClampNeg)) 8)) hp kk
def f_X0_allLost (r : (Nat → Int32)) (t : (Nat → Int32)) (W : (Nat → Nat → Int32)) (LF : (Nat → Nat → Int32)) (KF : (Nat → Nat → Int32)) : Int32 := (l_X0_allLost_4 xK r t W LF KF (0 : Int32) (0 : Int32)).2
def p_X0_allLost (r : (Nat → Int32)) (t : (Nat → Int32)) (W : (Nat → Nat → Int32)) (LF : (Nat → Nat → Int32)) (KF : (Nat → Nat → Int32)) : Prop := ((q_X0_allLost_4 xK r t W LF KF (0 : Int32) (0 : Int32)) ∧ True)
set_option maxRecDepth 100000 in
set_option maxHeartbeats 4000000 in
theorem C_X0_allLost (G : xG) (h : xH) (b : Nat) (r : (Nat → Int32)) (t : (Nat → Int32)) (W : (Nat → Nat → Int32)) (LF : (Nat → Nat → Int32)) (KF : (Nat → Nat → Int32)) (k_b : nk h b r t W LF KF) (hp : p_X0_allLost r t W LF KF) : Ct G 0 0 0 yX0_allLost cX0_allLost 3 (some .int) [.ref b] h (fun v' h' => v' = (some (.int (f_X0_allLost r t W LF KF))) ∧ h' = h) := by
  refine Ct.of (by decide) (by rfl) ?_
  refine Wp.eqs (L' := [(0, .ref b)]) (st' := []) rfl rfl ?_
  obtain ⟨R, er⟩ : ∃ R, f_X0_allLost r t W LF KF = R := ⟨_, rfl⟩
  rw [er]
  unfold f_X0_allLost at er
  unfold p_X0_allLost at hp
  refine x_iconst (pc := 0) (v := (0 : Int32)) dX0_allLost_0 (by decide) ?_
  refine x_istore_n (pc := 1) (L' := [(1, .int (0 : Int32)), (0, .ref b)]) dX0_allLost_1 rfl rfl ?_
  refine x_iconst (pc := 2) (v := (0 : Int32)) dX0_allLost_2 (by decide) ?_
  refine x_istore_n (pc := 3) (L' := [(2, .int (0 : Int32)), (1, .int (0 : Int32)), (0, .ref b)]) dX0_allLost_3 rfl rfl ?_
  obtain ⟨ql4, hp⟩ := hp
  refine L_X0_allLost_4 G h b r t W LF KF k_b  xK (0 : Int32) (0 : Int32) ql4 ?_
  obtain ⟨F1, eF1⟩ : ∃ F, l_X0_allLost_4 xK r t W LF KF (0 : Int32) (0 : Int32) = F := ⟨_, rfl⟩
  rw [eF1]
  try rw [eF1] at er
  try rw [eF1] at hp
  refine x_iload_n (pc := 30) dX0_allLost_30 rfl ?_
  subst er
  exact x_iret (pc := 31) dX0_allLost_31 rfl rfl rfl rfl ⟨rfl, rfl⟩

def l_X0_copy_13 : Nat → (Nat → Int32) → (Nat → Int32) → (Nat → Nat → Int32) → (Nat → Nat → Int32) → (Nat → Nat → Int32) → (Nat → Int32) → (Nat → Int32) → (Nat → Nat → Int32) → (Nat → Nat → Int32) → (Nat → Nat → Int32) → (Nat → Int32) → Int32 → (Nat → Nat → Int32) → (Nat → Nat → Int32) → (Nat → Nat → Int32) → (Nat → Int32) × Int32 × (Nat → Nat → Int32) × (Nat → Nat → Int32) × (Nat → Nat → Int32)
  | 0, _, _, _, _, _, _, _, _, _, _, _, _, _, _, _ => ((fun _ => 0), 0, (fun _ _ => 0), (fun _ _ => 0), (fun _ _ => 0))
  | n + 1, r, t, W, LF, KF, r2, t2, W2, LF2, KF2, x_b_r, v2, x_b_W, x_b_LF, x_b_KF => (if (t2 0) ≤ v2 then (x_b_r, v2, x_b_W, x_b_LF, x_b_KF) else (l_X0_copy_13 n r t W LF KF r2 t2 W2 LF2 KF2 x_b_r (v2 + (1 : Int32)) (va_up x_b_W (v2.toNatClampNeg) (f_X3_copy (x_b_W (v2.toNatClampNeg)) (x_b_LF (v2.toNatClampNeg)) (x_b_KF (v2.toNatClampNeg)) (W2 (v2.toNatClampNeg)) (LF2 (v2.toNatClampNeg)) (KF2 (v2.toNatClampNeg))).1) (va_up x_b_LF (v2.toNatClampNeg) (f_X3_copy (x_b_W (v2.toNatClampNeg)) (x_b_LF (v2.toNatClampNeg)) (x_b_KF (v2.toNatClampNeg)) (W2 (v2.toNatClampNeg)) (LF2 (v2.toNatClampNeg)) (KF2 (v2.toNatClampNeg))).2.1) (va_up x_b_KF (v2.toNatClampNeg) (f_X3_copy (x_b_W (v2.toNatClampNeg)) (x_b_LF (v2.toNatClampNeg)) (x_b_KF (v2.toNatClampNeg)) (W2 (v2.toNatClampNeg)) (LF2 (v2.toNatClampNeg)) (KF2 (v2.toNatClampNeg))).2.2)))
def q_X0_copy_13 : Nat → (Nat → Int32) → (Nat → Int32) → (Nat → Nat → Int32) → (Nat → Nat → Int32) → (Nat → Nat → Int32) → (Nat → Int32) → (Nat → Int32) → (Nat → Nat → Int32) → (Nat → Nat → Int32) → (Nat → Nat → Int32) → (Nat → Int32) → Int32 → (Nat → Nat → Int32) → (Nat → Nat → Int32) → (Nat → Nat → Int32) → Prop
  | 0, _, _, _, _, _, _, _, _, _, _, _, _, _, _, _ => False
  | n + 1, r, t, W, LF, KF, r2, t2, W2, LF2, KF2, x_b_r, v2, x_b_W, x_b_LF, x_b_KF => (((t2 0) ≤ v2 → True) ∧ (¬ ((t2 0) ≤ v2) → (vp_in v2 4 ∧ (vp_in v2 4 ∧ (q_X0_copy_13 n r t W LF KF r2 t2 W2 LF2 KF2 x_b_r (v2 + (1 : Int32)) (va_up x_b_W (v2.toNatClampNeg) (f_X3_copy (x_b_W (v2.toNatClampNeg)) (x_b_LF (v2.toNatClampNeg)) (x_b_KF (v2.toNatClampNeg)) (W2 (v2.toNatClampNeg)) (LF2 (v2.toNatClampNeg)) (KF2 (v2.toNatClampNeg))).1) (va_up x_b_LF (v2.toNatClampNeg) (f_X3_copy (x_b_W (v2.toNatClampNeg)) (x_b_LF (v2.toNatClampNeg)) (x_b_KF (v2.toNatClampNeg)) (W2 (v2.toNatClampNeg)) (LF2 (v2.toNatClampNeg)) (KF2 (v2.toNatClampNeg))).2.1) (va_up x_b_KF (v2.toNatClampNeg) (f_X3_copy (x_b_W (v2.toNatClampNeg)) (x_b_LF (v2.toNatClampNeg)) (x_b_KF (v2.toNatClampNeg)) (W2 (v2.toNatClampNeg)) (LF2 (v2.toNatClampNeg)) (KF2 (v2.toNatClampNeg))).2.2))))))
set_option maxRecDepth 100000 in
set_option maxHeartbeats 4000000 in
theorem L_X0_copy_13 (G : xG) (h : xH) (b c : Nat) (r : (Nat → Int32)) (t : (Nat → Int32)) (W : (Nat → Nat → Int32)) (LF : (Nat → Nat → Int32)) (KF : (Nat → Nat → Int32)) (r2 : (Nat → Int32)) (t2 : (Nat → Int32)) (W2 : (Nat → Nat → Int32)) (LF2 : (Nat → Nat → Int32)) (KF2 : (Nat → Nat → Int32)) (k_b : nk h b r t W LF KF) (k_c : nk h c r2 t2 W2 LF2 KF2) (o0 : b + 15 ≤ c ∨ c + 15 ≤ b) {Z : xZ} : ∀ (n : Nat) (x_b_r : (Nat → Int32)) (v2 : Int32) (x_b_W : (Nat → Nat → Int32)) (x_b_LF : (Nat → Nat → Int32)) (x_b_KF : (Nat → Nat → Int32)), ∀ (hh : xH), q_X0_copy_13 n r t W LF KF r2 t2 W2 LF2 KF2 x_b_r v2 x_b_W x_b_LF x_b_KF → nk hh b x_b_r t x_b_W x_b_LF x_b_KF → nk hh c r2 t2 W2 LF2 KF2 → fr (fun q => (b ≤ q ∧ q < b + 15)) h hh → (∀ h2 : xH, nk h2 b (l_X0_copy_13 n r t W LF KF r2 t2 W2 LF2 KF2 x_b_r v2 x_b_W x_b_LF x_b_KF).1 t (l_X0_copy_13 n r t W LF KF r2 t2 W2 LF2 KF2 x_b_r v2 x_b_W x_b_LF x_b_KF).2.2.1 (l_X0_copy_13 n r t W LF KF r2 t2 W2 LF2 KF2 x_b_r v2 x_b_W x_b_LF x_b_KF).2.2.2.1 (l_X0_copy_13 n r t W LF KF r2 t2 W2 LF2 KF2 x_b_r v2 x_b_W x_b_LF x_b_KF).2.2.2.2 → nk h2 c r2 t2 W2 LF2 KF2 → fr (fun q => (b ≤ q ∧ q < b + 15)) h h2 → Wp G yX0_copy.cls cX0_copy 3 yX0_copy.name none (xR 2 0 0) Z 0 0 42 [(2, .int (l_X0_copy_13 n r t W LF KF r2 t2 W2 LF2 KF2 x_b_r v2 x_b_W x_b_LF x_b_KF).2.1), (0, .ref b), (1, .ref c)] [] h2) → Wp G yX0_copy.cls cX0_copy 3 yX0_copy.name none (xR 2 0 0) Z 0 0 13 [(2, .int v2), (0, .ref b), (1, .ref c)] [] hh := by
  intro n
  induction n with
  | zero => intro x_b_r v2 x_b_W x_b_LF x_b_KF hh hp; exact absurd hp id
  | succ n ih =>
    intro x_b_r v2 x_b_W x_b_LF x_b_KF hh hp k_b_hh k_c_hh f_hh kk
    obtain ⟨R, er⟩ : ∃ R, l_X0_copy_13 (n + 1) r t W LF KF r2 t2 W2 LF2 KF2 x_b_r v2 x_b_W x_b_LF x_b_KF = R := ⟨_, rfl⟩
    rw [er] at kk
    rw [l_X0_copy_13] at er
    rw [q_X0_copy_13] at hp
    refine x_iload_n (pc := 13) dX0_copy_13 rfl ?_
    refine x_aload_n (pc := 14) dX0_copy_14 rfl ?_
    refine x_getf (pc := 15) (v := .int (t2 0)) dX0_copy_15 xf_X0_29 (nk_nt k_c_hh) rfl ?_
    refine x_icmp_ge (pc := 18) (tgt := 42) dX0_copy_18 (by decide) (fun (c1 : (t2 0) ≤ v2) => ?_) (fun (c1 : ¬ ((t2 0) ≤ v2)) => ?_)
    · rw [if_pos c1] at er
      replace hp := hp.1 c1
      subst er
      exact kk hh k_b_hh k_c_hh f_hh
    · rw [if_neg c1] at er
      replace hp := hp.2 c1
      refine x_aload_n (pc := 21) dX0_copy_21 rfl ?_
      refine x_getf (pc := 22) (v := .ref (b + 2)) dX0_copy_22 xf_X0_20 (nk_nt k_b_hh) rfl ?_
      refine x_iload_n (pc := 25) dX0_copy_25 rfl ?_
      obtain ⟨q26, hp⟩ := hp
      have hj3 : (v2.toNatClampNeg) < 4 := vp_lt q26
      refine x_aald (pc := 26) (t := 3) (Cn := RX3) (b := (b + 3 + 3 * (v2.toNatClampNeg))) rfl dX0_copy_26 (nk_wy k_b_hh) q26 rfl ?_
      refine x_aload_n (pc := 27) dX0_copy_27 rfl ?_
      refine x_getf (pc := 28) (v := .ref (c + 2)) dX0_copy_28 xf_X0_20 (nk_nt k_c_hh) rfl ?_
      refine x_iload_n (pc := 31) dX0_copy_31 rfl ?_
      obtain ⟨q32, hp⟩ := hp
      have hj4 : (v2.toNatClampNeg) < 4 := vp_lt q32
      refine x_aald (pc := 32) (t := 3) (Cn := RX3) (b := (c + 3 + 3 * (v2.toNatClampNeg))) rfl dX0_copy_32 (nk_wy k_c_hh) q32 rfl ?_
      refine x_cV1v (pc := 33) dX0_copy_33 xl_X0_33 xv_X3_copy (nk_wa k_b_hh hj4) rfl (C_X3_copy G _ (b + 3 + 3 * (v2.toNatClampNeg)) (c + 3 + 3 * (v2.toNatClampNeg)) (b + 4 + 3 * (v2.toNatClampNeg)) (b + 5 + 3 * (v2.toNatClampNeg)) (c + 4 + 3 * (v2.toNatClampNeg)) (c + 5 + 3 * (v2.toNatClampNeg)) (x_b_W (v2.toNatClampNeg)) (x_b_LF (v2.toNatClampNeg)) (x_b_KF (v2.toNatClampNeg)) (W2 (v2.toNatClampNeg)) (LF2 (v2.toNatClampNeg)) (KF2 (v2.toNatClampNeg)) (nk_wa k_b_hh hj4) (nk_la k_b_hh hj4) (nk_ka k_b_hh hj4) (nk_wa k_c_hh hj4) (nk_la k_c_hh hj4) (nk_ka k_c_hh hj4) (by omega) (by omega) (by omega) (by omega) (by omega) (by omega)) rfl rfl rfl ?_
      obtain ⟨F3, eF3⟩ : ∃ F, f_X3_copy (x_b_W (v2.toNatClampNeg)) (x_b_LF (v2.toNatClampNeg)) (x_b_KF (v2.toNatClampNeg)) (W2 (v2.toNatClampNeg)) (LF2 (v2.toNatClampNeg)) (KF2 (v2.toNatClampNeg)) = F := ⟨_, rfl⟩
      rw [eF3]
      try rw [eF3] at er
      try rw [eF3] at hp
      obtain ⟨h5, eh5⟩ : ∃ z, z = hSet hh (b + 3 + 3 * (v2.toNatClampNeg)) (waC (b + 4 + 3 * (v2.toNatClampNeg)) (b + 5 + 3 * (v2.toNatClampNeg)) F3.1) := ⟨_, rfl⟩
      rw [← eh5]
      have k_b_h5 : nk h5 b x_b_r t (va_up x_b_W (v2.toNatClampNeg) F3.1) x_b_LF x_b_KF := by rw [eh5]; exact nk_swa k_b_hh hj4
      have k_c_h5 : nk h5 c r2 t2 W2 LF2 KF2 := by rw [eh5]; exact nk_fr1 (by omega) k_c_hh
      have f_h5 : fr (fun q => (b ≤ q ∧ q < b + 15)) h h5 := by rw [eh5]; exact fr_set f_hh (show (b ≤ (b + 3 + 3 * (v2.toNatClampNeg)) ∧ (b + 3 + 3 * (v2.toNatClampNeg)) < b + 15) by omega)
      obtain ⟨h6, eh6⟩ : ∃ z, z = hSet h5 (b + 4 + 3 * (v2.toNatClampNeg)) (arI 6 F3.2.1) := ⟨_, rfl⟩
      rw [← eh6]
      have k_b_h6 : nk h6 b x_b_r t (va_up x_b_W (v2.toNatClampNeg) F3.1) (va_up x_b_LF (v2.toNatClampNeg) F3.2.1) x_b_KF := by rw [eh6]; exact nk_sla k_b_h5 hj4
      have k_c_h6 : nk h6 c r2 t2 W2 LF2 KF2 := by rw [eh6]; exact nk_fr1 (by omega) k_c_h5
      have f_h6 : fr (fun q => (b ≤ q ∧ q < b + 15)) h h6 := by rw [eh6]; exact fr_set f_h5 (show (b ≤ (b + 4 + 3 * (v2.toNatClampNeg)) ∧ (b + 4 + 3 * (v2.toNatClampNeg)) < b + 15) by omega)
      obtain ⟨h7, eh7⟩ : ∃ z, z = hSet h6 (b + 5 + 3 * (v2.toNatClampNeg)) (arI 6 F3.2.2) := ⟨_, rfl⟩
      rw [← eh7]
      have k_b_h7 : nk h7 b x_b_r t (va_up x_b_W (v2.toNatClampNeg) F3.1) (va_up x_b_LF (v2.toNatClampNeg) F3.2.1) (va_up x_b_KF (v2.toNatClampNeg) F3.2.2) := by rw [eh7]; exact nk_ska k_b_h6 hj4
      have k_c_h7 : nk h7 c r2 t2 W2 LF2 KF2 := by rw [eh7]; exact nk_fr1 (by omega) k_c_h6
      have f_h7 : fr (fun q => (b ≤ q ∧ q < b + 15)) h h7 := by rw [eh7]; exact fr_set f_h6 (show (b ≤ (b + 5 + 3 * (v2.toNatClampNeg)) ∧ (b + 5 + 3 * (v2.toNatClampNeg)) < b + 15) by omega)
      refine x_iinc (pc := 36) (v := (v2 + (1 : Int32))) (L' := [(2, .int (v2 + (1 : Int32))), (0, .ref b), (1, .ref c)]) dX0_copy_36 rfl rfl rfl rfl ?_
      refine x_goto (pc := 39) (tgt := 13) dX0_copy_39 (by decide) ?_
      subst er
      exact ih x_b_r (v2 + (1 : Int32)) (va_up x_b_W (v2.toNatClampNeg) F3.1) (va_up x_b_LF (v2.toNatClampNeg) F3.2.1) (va_up x_b_KF (v2.toNatClampNeg) F3.2.2) h7 hp k_b_h7 k_c_h7 f_h7 kk
def f_X0_copy (r : (Nat → Int32)) (t : (Nat → Int32)) (W : (Nat → Nat → Int32)) (LF : (Nat → Nat → Int32)) (KF : (Nat → Nat → Int32)) (r2 : (Nat → Int32)) (t2 : (Nat → Int32)) (W2 : (Nat → Nat → Int32)) (LF2 : (Nat → Nat → Int32)) (KF2 : (Nat → Nat → Int32)) : (Nat → Int32) × (Nat → Int32) × (Nat → Nat → Int32) × (Nat → Nat → Int32) × (Nat → Nat → Int32) := ((l_X0_copy_13 xK r t W LF KF r2 t2 W2 LF2 KF2 (f_X1_copy r r2) (0 : Int32) W LF KF).1, (upd (upd t 0 (t2 0)) 1 (t2 1)), (l_X0_copy_13 xK r t W LF KF r2 t2 W2 LF2 KF2 (f_X1_copy r r2) (0 : Int32) W LF KF).2.2.1, (l_X0_copy_13 xK r t W LF KF r2 t2 W2 LF2 KF2 (f_X1_copy r r2) (0 : Int32) W LF KF).2.2.2.1, (l_X0_copy_13 xK r t W LF KF r2 t2 W2 LF2 KF2 (f_X1_copy r r2) (0 : Int32) W LF KF).2.2.2.2)
def p_X0_copy (r : (Nat → Int32)) (t : (Nat → Int32)) (W : (Nat → Nat → Int32)) (LF : (Nat → Nat → Int32)) (KF : (Nat → Nat → Int32)) (r2 : (Nat → Int32)) (t2 : (Nat → Int32)) (W2 : (Nat → Nat → Int32)) (LF2 : (Nat → Nat → Int32)) (KF2 : (Nat → Nat → Int32)) : Prop := ((q_X0_copy_13 xK r t W LF KF r2 t2 W2 LF2 KF2 (f_X1_copy r r2) (0 : Int32) W LF KF) ∧ True)
set_option maxRecDepth 100000 in
set_option maxHeartbeats 4000000 in
theorem C_X0_copy (G : xG) (h : xH) (b c : Nat) (r : (Nat → Int32)) (t : (Nat → Int32)) (W : (Nat → Nat → Int32)) (LF : (Nat → Nat → Int32)) (KF : (Nat → Nat → Int32)) (r2 : (Nat → Int32)) (t2 : (Nat → Int32)) (W2 : (Nat → Nat → Int32)) (LF2 : (Nat → Nat → Int32)) (KF2 : (Nat → Nat → Int32)) (k_b : nk h b r t W LF KF) (k_c : nk h c r2 t2 W2 LF2 KF2) (o0 : b + 15 ≤ c ∨ c + 15 ≤ b) (hp : p_X0_copy r t W LF KF r2 t2 W2 LF2 KF2) : Ct G 2 0 0 yX0_copy cX0_copy 3 none [.ref b, .ref c] h (fun v' h' => v' = none ∧ (nk h' b (f_X0_copy r t W LF KF r2 t2 W2 LF2 KF2).1 (f_X0_copy r t W LF KF r2 t2 W2 LF2 KF2).2.1 (f_X0_copy r t W LF KF r2 t2 W2 LF2 KF2).2.2.1 (f_X0_copy r t W LF KF r2 t2 W2 LF2 KF2).2.2.2.1 (f_X0_copy r t W LF KF r2 t2 W2 LF2 KF2).2.2.2.2) ∧ fr (fun q => (b ≤ q ∧ q < b + 15)) h h') := by
  refine Ct.of (by decide) (by rfl) ?_
  refine Wp.eqs (L' := [(0, .ref b), (1, .ref c)]) (st' := []) rfl rfl ?_
  obtain ⟨R, er⟩ : ∃ R, f_X0_copy r t W LF KF r2 t2 W2 LF2 KF2 = R := ⟨_, rfl⟩
  rw [er]
  unfold f_X0_copy at er
  unfold p_X0_copy at hp
  refine x_aload_n (pc := 0) dX0_copy_0 rfl ?_
  refine x_getf (pc := 1) (v := .ref (b + 1)) dX0_copy_1 xf_X0_12 (nk_nt k_b) rfl ?_
  refine x_aload_n (pc := 4) dX0_copy_4 rfl ?_
  refine x_getf (pc := 5) (v := .ref (c + 1)) dX0_copy_5 xf_X0_12 (nk_nt k_c) rfl ?_
  refine x_cV1v (pc := 8) dX0_copy_8 xl_X0_25 xv_X1_copy (nk_ru k_b) rfl (C_X1_copy G _ (b + 1) (c + 1) r r2 (nk_ru k_b) (nk_ru k_c) (by omega)) rfl rfl rfl ?_
  obtain ⟨F1, eF1⟩ : ∃ F, f_X1_copy r r2 = F := ⟨_, rfl⟩
  rw [eF1]
  try rw [eF1] at er
  try rw [eF1] at hp
  obtain ⟨h1, eh1⟩ : ∃ z, z = hSet h (b + 1) (ruC F1) := ⟨_, rfl⟩
  rw [← eh1]
  have k_b_h1 : nk h1 b F1 t W LF KF := by rw [eh1]; exact nk_sru k_b
  have k_c_h1 : nk h1 c r2 t2 W2 LF2 KF2 := by rw [eh1]; exact nk_fr1 (by omega) k_c
  have f_h1 : fr (fun q => (b ≤ q ∧ q < b + 15)) h h1 := by rw [eh1]; exact fr_set fr_refl (show (b ≤ (b + 1) ∧ (b + 1) < b + 15) by omega)
  refine x_iconst (pc := 11) (v := (0 : Int32)) dX0_copy_11 (by decide) ?_
  refine x_istore_n (pc := 12) (L' := [(2, .int (0 : Int32)), (0, .ref b), (1, .ref c)]) dX0_copy_12 rfl rfl ?_
  obtain ⟨ql13, hp⟩ := hp
  refine L_X0_copy_13 G h b c r t W LF KF r2 t2 W2 LF2 KF2 k_b k_c o0 xK F1 (0 : Int32) W LF KF h1 ql13 k_b_h1 k_c_h1 f_h1 (fun h8 k_b_h8 k_c_h8 f_h8 => ?_)
  obtain ⟨F4, eF4⟩ : ∃ F, l_X0_copy_13 xK r t W LF KF r2 t2 W2 LF2 KF2 F1 (0 : Int32) W LF KF = F := ⟨_, rfl⟩
  try rw [eF4]
  try rw [eF4] at er
  try rw [eF4] at hp
  try rw [eF4] at k_b_h8
  try rw [eF4] at k_c_h8
  refine x_aload_n (pc := 42) dX0_copy_42 rfl ?_
  refine x_aload_n (pc := 43) dX0_copy_43 rfl ?_
  refine x_getf (pc := 44) (v := .int (t2 0)) dX0_copy_44 xf_X0_29 (nk_nt k_c_h8) rfl ?_
  refine x_putf (pc := 47) (e' := ntC (b + 1) (b + 2) (upd t 0 (t2 0))) dX0_copy_47 xf_X0_29 (nk_nt k_b_h8) rfl rfl rfl rfl ?_
  obtain ⟨h9, eh9⟩ : ∃ z, z = hSet h8 b (ntC (b + 1) (b + 2) (upd t 0 (t2 0))) := ⟨_, rfl⟩
  rw [← eh9]
  have k_b_h9 : nk h9 b F4.1 (upd t 0 (t2 0)) F4.2.2.1 F4.2.2.2.1 F4.2.2.2.2 := by rw [eh9]; exact nk_snt k_b_h8
  have k_c_h9 : nk h9 c r2 t2 W2 LF2 KF2 := by rw [eh9]; exact nk_fr1 (by omega) k_c_h8
  have f_h9 : fr (fun q => (b ≤ q ∧ q < b + 15)) h h9 := by rw [eh9]; exact fr_set f_h8 (show (b ≤ b ∧ b < b + 15) by omega)
  refine x_aload_n (pc := 50) dX0_copy_50 rfl ?_
  refine x_aload_n (pc := 51) dX0_copy_51 rfl ?_
  refine x_getf (pc := 52) (v := .int (t2 1)) dX0_copy_52 xf_X0_36 (nk_nt k_c_h9) rfl ?_
  refine x_putf (pc := 55) (e' := ntC (b + 1) (b + 2) (upd (upd t 0 (t2 0)) 1 (t2 1))) dX0_copy_55 xf_X0_36 (nk_nt k_b_h9) rfl rfl rfl rfl ?_
  obtain ⟨h10, eh10⟩ : ∃ z, z = hSet h9 b (ntC (b + 1) (b + 2) (upd (upd t 0 (t2 0)) 1 (t2 1))) := ⟨_, rfl⟩
  rw [← eh10]
  have k_b_h10 : nk h10 b F4.1 (upd (upd t 0 (t2 0)) 1 (t2 1)) F4.2.2.1 F4.2.2.2.1 F4.2.2.2.2 := by rw [eh10]; exact nk_snt k_b_h9
  have k_c_h10 : nk h10 c r2 t2 W2 LF2 KF2 := by rw [eh10]; exact nk_fr1 (by omega) k_c_h9
  have f_h10 : fr (fun q => (b ≤ q ∧ q < b + 15)) h h10 := by rw [eh10]; exact fr_set f_h9 (show (b ≤ b ∧ b < b + 15) by omega)
  subst er
  exact x_vret (pc := 58) dX0_copy_58 rfl rfl rfl ⟨rfl, k_b_h10, f_h10⟩
