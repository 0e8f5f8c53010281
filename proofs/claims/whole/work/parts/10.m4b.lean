def f_X0_addWay (r : (Nat → Int32)) (t : (Nat → Int32)) (W : (Nat → Nat → Int32)) (LF : (Nat → Nat → Int32)) (KF : (Nat → Nat → Int32)) : Int32 × (Nat → Int32) × (Nat → Nat → Int32) := (if (t 0) < (4 : Int32) then ((1 : Int32), (upd t 0 ((t 0) + (1 : Int32))), (va_up W ((t 0).toNatClampNeg) (f_X3_clear (W ((t 0).toNatClampNeg)) (t 0)))) else ((0 : Int32), t, W))
def p_X0_addWay (r : (Nat → Int32)) (t : (Nat → Int32)) (W : (Nat → Nat → Int32)) (LF : (Nat → Nat → Int32)) (KF : (Nat → Nat → Int32)) : Prop := (((t 0) < (4 : Int32) → (vp_in (t 0) 4 ∧ True)) ∧ (¬ ((t 0) < (4 : Int32)) → True))
theorem B_X0_addWay (r : (Nat → Int32)) (t : (Nat → Int32)) (W : (Nat → Nat → Int32)) (LF : (Nat → Nat → Int32)) (KF : (Nat → Nat → Int32)) : xB (f_X0_addWay r t W LF KF).1 := by
  unfold f_X0_addWay
  exact (xB_ite1 (xB_fst xB1) (xB_fst xB0))
set_option maxRecDepth 100000 in
set_option maxHeartbeats 4000000 in
theorem C_X0_addWay (G : xG) (h : xH) (b : Nat) (r : (Nat → Int32)) (t : (Nat → Int32)) (W : (Nat → Nat → Int32)) (LF : (Nat → Nat → Int32)) (KF : (Nat → Nat → Int32)) (k_b : nk h b r t W LF KF) (hp : p_X0_addWay r t W LF KF) : Ct G 1 0 0 yX0_addWay cX0_addWay 1 (some .boolean) [.ref b] h (fun v' h' => v' = (some (.int (f_X0_addWay r t W LF KF).1)) ∧ (nk h' b r (f_X0_addWay r t W LF KF).2.1 (f_X0_addWay r t W LF KF).2.2 LF KF) ∧ fr (fun q => (b ≤ q ∧ q < b + 15)) h h') := by
  refine Ct.of (by decide) (by rfl) ?_
  refine Wp.eqs (L' := [(0, .ref b)]) (st' := []) rfl rfl ?_
  obtain ⟨R, er⟩ : ∃ R, f_X0_addWay r t W LF KF = R := ⟨_, rfl⟩
  rw [er]
  unfold f_X0_addWay at er
  unfold p_X0_addWay at hp
  refine x_aload_n (pc := 0) dX0_addWay_0 rfl ?_
  refine x_getf (pc := 1) (v := .int (t 0)) dX0_addWay_1 xf_X0_29 (nk_nt k_b) rfl ?_
  refine x_iconst (pc := 4) (v := (4 : Int32)) dX0_addWay_4 (by decide) ?_
  refine x_icmp_lt (pc := 5) (tgt := 10) dX0_addWay_5 (by decide) (fun (c1 : (t 0) < (4 : Int32)) => ?_) (fun (c1 : ¬ ((t 0) < (4 : Int32))) => ?_)
  · rw [if_pos c1] at er
    replace hp := hp.1 c1
    refine x_aload_n (pc := 10) dX0_addWay_10 rfl ?_
    refine x_getf (pc := 11) (v := .ref (b + 2)) dX0_addWay_11 xf_X0_20 (nk_nt k_b) rfl ?_
    refine x_aload_n (pc := 14) dX0_addWay_14 rfl ?_
    refine x_getf (pc := 15) (v := .int (t 0)) dX0_addWay_15 xf_X0_29 (nk_nt k_b) rfl ?_
    obtain ⟨q18, hp⟩ := hp
    have hj1 : ((t 0).toNatClampNeg) < 4 := vp_lt q18
    refine x_aald (pc := 18) (t := 3) (Cn := RX3) (b := (b + 3 + 3 * ((t 0).toNatClampNeg))) rfl dX0_addWay_18 (nk_wy k_b) q18 rfl ?_
    refine x_aload_n (pc := 19) dX0_addWay_19 rfl ?_
    refine x_getf (pc := 20) (v := .int (t 0)) dX0_addWay_20 xf_X0_29 (nk_nt k_b) rfl ?_
    refine x_cV1v (pc := 23) dX0_addWay_23 xl_X0_100 xv_X3_clear (nk_wa k_b hj1) rfl (C_X3_clear G _ (b + 3 + 3 * ((t 0).toNatClampNeg)) (b + 4 + 3 * ((t 0).toNatClampNeg)) (b + 5 + 3 * ((t 0).toNatClampNeg)) (W ((t 0).toNatClampNeg)) (t 0) (nk_wa k_b hj1)) rfl rfl rfl ?_
    obtain ⟨F1, eF1⟩ : ∃ F, f_X3_clear (W ((t 0).toNatClampNeg)) (t 0) = F := ⟨_, rfl⟩
    rw [eF1]
    try rw [eF1] at er
    try rw [eF1] at hp
    obtain ⟨h1, eh1⟩ : ∃ z, z = hSet h (b + 3 + 3 * ((t 0).toNatClampNeg)) (waC (b + 4 + 3 * ((t 0).toNatClampNeg)) (b + 5 + 3 * ((t 0).toNatClampNeg)) F1) := ⟨_, rfl⟩
    rw [← eh1]
    have k_b_h1 : nk h1 b r t (va_up W ((t 0).toNatClampNeg) F1) LF KF := by rw [eh1]; exact nk_swa k_b hj1
    have f_h1 : fr (fun q => (b ≤ q ∧ q < b + 15)) h h1 := by rw [eh1]; exact fr_set fr_refl (show (b ≤ (b + 3 + 3 * ((t 0).toNatClampNeg)) ∧ (b + 3 + 3 * ((t 0).toNatClampNeg)) < b + 15) by omega)
    refine x_aload_n (pc := 26) dX0_addWay_26 rfl ?_
    refine x_dup (pc := 27) dX0_addWay_27 rfl ?_
    refine x_getf (pc := 28) (v := .int (t 0)) dX0_addWay_28 xf_X0_29 (nk_nt k_b_h1) rfl ?_
    refine x_iconst (pc := 31) (v := (1 : Int32)) dX0_addWay_31 (by decide) ?_
    refine x_iadd (pc := 32) dX0_addWay_32 ?_
    refine x_putf (pc := 33) (e' := ntC (b + 1) (b + 2) (upd t 0 ((t 0) + (1 : Int32)))) dX0_addWay_33 xf_X0_29 (nk_nt k_b_h1) rfl rfl rfl rfl ?_
    obtain ⟨h2, eh2⟩ : ∃ z, z = hSet h1 b (ntC (b + 1) (b + 2) (upd t 0 ((t 0) + (1 : Int32)))) := ⟨_, rfl⟩
    rw [← eh2]
    have k_b_h2 : nk h2 b r (upd t 0 ((t 0) + (1 : Int32))) (va_up W ((t 0).toNatClampNeg) F1) LF KF := by rw [eh2]; exact nk_snt k_b_h1
    have f_h2 : fr (fun q => (b ≤ q ∧ q < b + 15)) h h2 := by rw [eh2]; exact fr_set f_h1 (show (b ≤ b ∧ b < b + 15) by omega)
    refine x_iconst (pc := 36) (v := (1 : Int32)) dX0_addWay_36 (by decide) ?_
    subst er
    exact x_iret (pc := 37) dX0_addWay_37 rfl rfl rfl rfl ⟨rfl, k_b_h2, f_h2⟩
  · rw [if_neg c1] at er
    replace hp := hp.2 c1
    refine x_iconst (pc := 8) (v := (0 : Int32)) dX0_addWay_8 (by decide) ?_
    subst er
    exact x_iret (pc := 9) dX0_addWay_9 rfl rfl rfl rfl ⟨rfl, k_b, fr_refl⟩

def f_X0_readLoss (r : (Nat → Int32)) (t : (Nat → Int32)) (W : (Nat → Nat → Int32)) (LF : (Nat → Nat → Int32)) (KF : (Nat → Nat → Int32)) (x : (Nat → Int32)) (lf : (Nat → Int32)) : Int32 × (Nat → Nat → Int32) × (Nat → Int32) := (if (t 0) = 0 then ((0 : Int32), W, (f_X2_takeNumber x lf (0 : Int32) (99 : Int32)).2) else (if (f_X2_takeNumber x lf (0 : Int32) (99 : Int32)).1 = (-4 : Int32) then ((0 : Int32), W, (f_X2_takeNumber x lf (0 : Int32) (99 : Int32)).2) else ((1 : Int32), (va_up W (((t 0) - (1 : Int32)).toNatClampNeg) (upd (W (((t 0) - (1 : Int32)).toNatClampNeg)) 10 (f_X2_takeNumber x lf (0 : Int32) (99 : Int32)).1)), (f_X2_takeNumber x lf (0 : Int32) (99 : Int32)).2)))
def p_X0_readLoss (r : (Nat → Int32)) (t : (Nat → Int32)) (W : (Nat → Nat → Int32)) (LF : (Nat → Nat → Int32)) (KF : (Nat → Nat → Int32)) (x : (Nat → Int32)) (lf : (Nat → Int32)) : Prop := (p_X2_takeNumber x lf (0 : Int32) (99 : Int32) ∧ (((t 0) = 0 → True) ∧ (¬ ((t 0) = 0) → (((f_X2_takeNumber x lf (0 : Int32) (99 : Int32)).1 = (-4 : Int32) → True) ∧ (¬ ((f_X2_takeNumber x lf (0 : Int32) (99 : Int32)).1 = (-4 : Int32)) → (vp_in ((t 0) - (1 : Int32)) 4 ∧ True))))))
theorem B_X0_readLoss (r : (Nat → Int32)) (t : (Nat → Int32)) (W : (Nat → Nat → Int32)) (LF : (Nat → Nat → Int32)) (KF : (Nat → Nat → Int32)) (x : (Nat → Int32)) (lf : (Nat → Int32)) : xB (f_X0_readLoss r t W LF KF x lf).1 := by
  unfold f_X0_readLoss
  exact (xB_ite1 (xB_fst xB0) (xB_ite1 (xB_fst xB0) (xB_fst xB1)))
set_option maxRecDepth 100000 in
set_option maxHeartbeats 4000000 in
theorem C_X0_readLoss (G : xG) (h : xH) (b tx ca : Nat) (r : (Nat → Int32)) (t : (Nat → Int32)) (W : (Nat → Nat → Int32)) (LF : (Nat → Nat → Int32)) (KF : (Nat → Nat → Int32)) (x : (Nat → Int32)) (lf : (Nat → Int32)) (k_b : nk h b r t W LF KF) (k_tx : hAt h tx = some (txC ca x)) (k_ca : hAt h ca = some (arC 240 lf)) (o0 : tx < b ∨ b + 15 ≤ tx) (o1 : ca < b ∨ b + 15 ≤ ca) (hp : p_X0_readLoss r t W LF KF x lf) : Ct G 2 0 0 yX0_readLoss cX0_readLoss 3 (some .boolean) [.ref b, .ref tx] h (fun v' h' => v' = (some (.int (f_X0_readLoss r t W LF KF x lf).1)) ∧ (nk h' b r t (f_X0_readLoss r t W LF KF x lf).2.1 LF KF) ∧ (hAt h' tx = some (txC ca (f_X0_readLoss r t W LF KF x lf).2.2)) ∧ fr (fun q => (b ≤ q ∧ q < b + 15) ∨ q = tx) h h') := by
  have u_0_1 : tx ≠ ca := hne_k k_tx k_ca rfl
  refine Ct.of (by decide) (by rfl) ?_
  refine Wp.eqs (L' := [(0, .ref b), (1, .ref tx)]) (st' := []) rfl rfl ?_
  obtain ⟨R, er⟩ : ∃ R, f_X0_readLoss r t W LF KF x lf = R := ⟨_, rfl⟩
  rw [er]
  unfold f_X0_readLoss at er
  unfold p_X0_readLoss at hp
  refine x_aload_n (pc := 0) dX0_readLoss_0 rfl ?_
  refine x_iconst (pc := 1) (v := (0 : Int32)) dX0_readLoss_1 (by decide) ?_
  refine x_bipush (pc := 2) (v := (99 : Int32)) dX0_readLoss_2 (by decide) ?_
  obtain ⟨q4, hp⟩ := hp
  refine x_cV2i (pc := 4) dX0_readLoss_4 xl_X0_103 xv_X2_takeNumber k_tx rfl (C_X2_takeNumber G _ tx ca x lf (0 : Int32) (99 : Int32) k_tx k_ca q4) rfl rfl rfl ?_
  obtain ⟨F1, eF1⟩ : ∃ F, f_X2_takeNumber x lf (0 : Int32) (99 : Int32) = F := ⟨_, rfl⟩
  rw [eF1]
  try rw [eF1] at er
  try rw [eF1] at hp
  obtain ⟨h1, eh1⟩ : ∃ z, z = hSet h tx (txC ca F1.2) := ⟨_, rfl⟩
  rw [← eh1]
  have k_b_h1 : nk h1 b r t W LF KF := by rw [eh1]; exact nk_fr1 (by omega) k_b
  have k_tx_h1 : hAt h1 tx = some (txC ca F1.2) := by rw [eh1]; exact hAt_same
  have k_ca_h1 : hAt h1 ca = some (arC 240 lf) := by rw [eh1]; exact hAt_n (by omega) k_ca
  have f_h1 : fr (fun q => (b ≤ q ∧ q < b + 15) ∨ q = tx) h h1 := by rw [eh1]; exact fr_set fr_refl (show (b ≤ tx ∧ tx < b + 15) ∨ tx = tx by omega)
  refine x_istore_n (pc := 7) (L' := [(2, .int F1.1), (0, .ref b), (1, .ref tx)]) dX0_readLoss_7 rfl rfl ?_
  refine x_aload_n (pc := 8) dX0_readLoss_8 rfl ?_
  refine x_getf (pc := 9) (v := .int (t 0)) dX0_readLoss_9 xf_X0_29 (nk_nt k_b_h1) rfl ?_
  refine x_if_eq (pc := 12) (tgt := 21) dX0_readLoss_12 (by decide) (fun (c1 : (t 0) = 0) => ?_) (fun (c1 : ¬ ((t 0) = 0)) => ?_)
  · rw [if_pos c1] at er
    replace hp := hp.1 c1
    refine x_iconst (pc := 21) (v := (0 : Int32)) dX0_readLoss_21 (by decide) ?_
    subst er
    exact x_iret (pc := 22) dX0_readLoss_22 rfl rfl rfl rfl ⟨rfl, k_b_h1, k_tx_h1, f_h1⟩
  · rw [if_neg c1] at er
    replace hp := hp.2 c1
    refine x_iload_n (pc := 15) dX0_readLoss_15 rfl ?_
    refine x_bipush (pc := 16) (v := (-4 : Int32)) dX0_readLoss_16 (by decide) ?_
    refine x_icmp_ne (pc := 18) (tgt := 23) dX0_readLoss_18 (by decide) (fun (c2 : ¬ (F1.1 = (-4 : Int32))) => ?_) (fun (c2 : F1.1 = (-4 : Int32)) => ?_)
    · rw [if_neg c2] at er
      replace hp := hp.2 c2
      refine x_aload_n (pc := 23) dX0_readLoss_23 rfl ?_
      refine x_getf (pc := 24) (v := .ref (b + 2)) dX0_readLoss_24 xf_X0_20 (nk_nt k_b_h1) rfl ?_
      refine x_aload_n (pc := 27) dX0_readLoss_27 rfl ?_
      refine x_getf (pc := 28) (v := .int (t 0)) dX0_readLoss_28 xf_X0_29 (nk_nt k_b_h1) rfl ?_
      refine x_iconst (pc := 31) (v := (1 : Int32)) dX0_readLoss_31 (by decide) ?_
      refine x_isub (pc := 32) dX0_readLoss_32 ?_
      obtain ⟨q33, hp⟩ := hp
      have hj1 : (((t 0) - (1 : Int32)).toNatClampNeg) < 4 := vp_lt q33
      refine x_aald (pc := 33) (t := 3) (Cn := RX3) (b := (b + 3 + 3 * (((t 0) - (1 : Int32)).toNatClampNeg))) rfl dX0_readLoss_33 (nk_wy k_b_h1) q33 rfl ?_
      refine x_iload_n (pc := 34) dX0_readLoss_34 rfl ?_
      refine x_putf (pc := 35) (e' := waC (b + 4 + 3 * (((t 0) - (1 : Int32)).toNatClampNeg)) (b + 5 + 3 * (((t 0) - (1 : Int32)).toNatClampNeg)) (upd (W (((t 0) - (1 : Int32)).toNatClampNeg)) 10 F1.1)) dX0_readLoss_35 xf_X0_116 (nk_wa k_b_h1 hj1) rfl rfl rfl rfl ?_
      obtain ⟨h2, eh2⟩ : ∃ z, z = hSet h1 (b + 3 + 3 * (((t 0) - (1 : Int32)).toNatClampNeg)) (waC (b + 4 + 3 * (((t 0) - (1 : Int32)).toNatClampNeg)) (b + 5 + 3 * (((t 0) - (1 : Int32)).toNatClampNeg)) (upd (W (((t 0) - (1 : Int32)).toNatClampNeg)) 10 F1.1)) := ⟨_, rfl⟩
      rw [← eh2]
      have k_b_h2 : nk h2 b r t (va_up W (((t 0) - (1 : Int32)).toNatClampNeg) (upd (W (((t 0) - (1 : Int32)).toNatClampNeg)) 10 F1.1)) LF KF := by rw [eh2]; exact nk_swa k_b_h1 hj1
      have k_tx_h2 : hAt h2 tx = some (txC ca F1.2) := by rw [eh2]; exact hAt_n (by omega) k_tx_h1
      have k_ca_h2 : hAt h2 ca = some (arC 240 lf) := by rw [eh2]; exact hAt_n (by omega) k_ca_h1
      have f_h2 : fr (fun q => (b ≤ q ∧ q < b + 15) ∨ q = tx) h h2 := by rw [eh2]; exact fr_set f_h1 (show (b ≤ (b + 3 + 3 * (((t 0) - (1 : Int32)).toNatClampNeg)) ∧ (b + 3 + 3 * (((t 0) - (1 : Int32)).toNatClampNeg)) < b + 15) ∨ (b + 3 + 3 * (((t 0) - (1 : Int32)).toNatClampNeg)) = tx by omega)
      refine x_iconst (pc := 38) (v := (1 : Int32)) dX0_readLoss_38 (by decide) ?_
      subst er
      exact x_iret (pc := 39) dX0_readLoss_39 rfl rfl rfl rfl ⟨rfl, k_b_h2, k_tx_h2, f_h2⟩
    · rw [if_pos c2] at er
      replace hp := hp.1 c2
      refine x_iconst (pc := 21) (v := (0 : Int32)) dX0_readLoss_21 (by decide) ?_
      subst er
      exact x_iret (pc := 22) dX0_readLoss_22 rfl rfl rfl rfl ⟨rfl, k_b_h1, k_tx_h1, f_h1⟩

def g_X0_readHop_42 (t : (Nat → Int32)) (W : (Nat → Nat → Int32)) (LF : (Nat → Nat → Int32)) (KF : (Nat → Nat → Int32)) (v3 : Int32) (v2 : Int32) : Int32 × (Nat → Nat → Int32) × (Nat → Nat → Int32) × (Nat → Nat → Int32) := (if v3 = (-4 : Int32) then ((0 : Int32), W, LF, KF) else (if (f_X3_addHop (W (((t 0) - (1 : Int32)).toNatClampNeg)) (LF (((t 0) - (1 : Int32)).toNatClampNeg)) (KF (((t 0) - (1 : Int32)).toNatClampNeg)) v2 v3).1 = 0 then ((0 : Int32), (va_up W (((t 0) - (1 : Int32)).toNatClampNeg) (f_X3_addHop (W (((t 0) - (1 : Int32)).toNatClampNeg)) (LF (((t 0) - (1 : Int32)).toNatClampNeg)) (KF (((t 0) - (1 : Int32)).toNatClampNeg)) v2 v3).2.1), (va_up LF (((t 0) - (1 : Int32)).toNatClampNeg) (f_X3_addHop (W (((t 0) - (1 : Int32)).toNatClampNeg)) (LF (((t 0) - (1 : Int32)).toNatClampNeg)) (KF (((t 0) - (1 : Int32)).toNatClampNeg)) v2 v3).2.2.1), (va_up KF (((t 0) - (1 : Int32)).toNatClampNeg) (f_X3_addHop (W (((t 0) - (1 : Int32)).toNatClampNeg)) (LF (((t 0) - (1 : Int32)).toNatClampNeg)) (KF (((t 0) - (1 : Int32)).toNatClampNeg)) v2 v3).2.2.2)) else ((1 : Int32), (va_up W (((t 0) - (1 : Int32)).toNatClampNeg) (f_X3_addHop (W (((t 0) - (1 : Int32)).toNatClampNeg)) (LF (((t 0) - (1 : Int32)).toNatClampNeg)) (KF (((t 0) - (1 : Int32)).toNatClampNeg)) v2 v3).2.1), (va_up LF (((t 0) - (1 : Int32)).toNatClampNeg) (f_X3_addHop (W (((t 0) - (1 : Int32)).toNatClampNeg)) (LF (((t 0) - (1 : Int32)).toNatClampNeg)) (KF (((t 0) - (1 : Int32)).toNatClampNeg)) v2 v3).2.2.1), (va_up KF (((t 0) - (1 : Int32)).toNatClampNeg) (f_X3_addHop (W (((t 0) - (1 : Int32)).toNatClampNeg)) (LF (((t 0) - (1 : Int32)).toNatClampNeg)) (KF (((t 0) - (1 : Int32)).toNatClampNeg)) v2 v3).2.2.2))))
def h_X0_readHop_42 (t : (Nat → Int32)) (W : (Nat → Nat → Int32)) (LF : (Nat → Nat → Int32)) (KF : (Nat → Nat → Int32)) (v3 : Int32) (v2 : Int32) : Prop := ((v3 = (-4 : Int32) → True) ∧ (¬ (v3 = (-4 : Int32)) → (vp_in ((t 0) - (1 : Int32)) 4 ∧ (p_X3_addHop (W (((t 0) - (1 : Int32)).toNatClampNeg)) (LF (((t 0) - (1 : Int32)).toNatClampNeg)) (KF (((t 0) - (1 : Int32)).toNatClampNeg)) v2 v3 ∧ (((f_X3_addHop (W (((t 0) - (1 : Int32)).toNatClampNeg)) (LF (((t 0) - (1 : Int32)).toNatClampNeg)) (KF (((t 0) - (1 : Int32)).toNatClampNeg)) v2 v3).1 = 0 → True) ∧ (¬ ((f_X3_addHop (W (((t 0) - (1 : Int32)).toNatClampNeg)) (LF (((t 0) - (1 : Int32)).toNatClampNeg)) (KF (((t 0) - (1 : Int32)).toNatClampNeg)) v2 v3).1 = 0) → True))))))
theorem Bg_X0_readHop_42 (t : (Nat → Int32)) (W : (Nat → Nat → Int32)) (LF : (Nat → Nat → Int32)) (KF : (Nat → Nat → Int32)) (v3 : Int32) (v2 : Int32) : xB (g_X0_readHop_42 t W LF KF v3 v2).1 := by
  unfold g_X0_readHop_42
  exact (xB_ite1 (xB_fst xB0) (xB_ite1 (xB_fst xB0) (xB_fst xB1)))
def f_X0_readHop (r : (Nat → Int32)) (t : (Nat → Int32)) (W : (Nat → Nat → Int32)) (LF : (Nat → Nat → Int32)) (KF : (Nat → Nat → Int32)) (x : (Nat → Int32)) (lf : (Nat → Int32)) : Int32 × (Nat → Nat → Int32) × (Nat → Nat → Int32) × (Nat → Nat → Int32) × (Nat → Int32) := (if (t 0) = 0 then ((0 : Int32), W, LF, KF, (f_X2_takeNumber x lf (20 : Int32) (999 : Int32)).2) else (if (f_X2_takeNumber x lf (20 : Int32) (999 : Int32)).1 = (-4 : Int32) then ((0 : Int32), W, LF, KF, (f_X2_takeNumber x lf (20 : Int32) (999 : Int32)).2) else (if (f_X2_take (f_X2_takeNumber x lf (20 : Int32) (999 : Int32)).2 lf 3).1 = 0 then ((0 : Int32), W, LF, KF, (f_X2_take (f_X2_takeNumber x lf (20 : Int32) (999 : Int32)).2 lf 3).2) else ((g_X0_readHop_42 t W LF KF (f_X2_takeKind (f_X2_take (f_X2_takeNumber x lf (20 : Int32) (999 : Int32)).2 lf 3).2 lf).1 (f_X2_takeNumber x lf (20 : Int32) (999 : Int32)).1).1, (g_X0_readHop_42 t W LF KF (f_X2_takeKind (f_X2_take (f_X2_takeNumber x lf (20 : Int32) (999 : Int32)).2 lf 3).2 lf).1 (f_X2_takeNumber x lf (20 : Int32) (999 : Int32)).1).2.1, (g_X0_readHop_42 t W LF KF (f_X2_takeKind (f_X2_take (f_X2_takeNumber x lf (20 : Int32) (999 : Int32)).2 lf 3).2 lf).1 (f_X2_takeNumber x lf (20 : Int32) (999 : Int32)).1).2.2.1, (g_X0_readHop_42 t W LF KF (f_X2_takeKind (f_X2_take (f_X2_takeNumber x lf (20 : Int32) (999 : Int32)).2 lf 3).2 lf).1 (f_X2_takeNumber x lf (20 : Int32) (999 : Int32)).1).2.2.2, (f_X2_takeKind (f_X2_take (f_X2_takeNumber x lf (20 : Int32) (999 : Int32)).2 lf 3).2 lf).2))))
def p_X0_readHop (r : (Nat → Int32)) (t : (Nat → Int32)) (W : (Nat → Nat → Int32)) (LF : (Nat → Nat → Int32)) (KF : (Nat → Nat → Int32)) (x : (Nat → Int32)) (lf : (Nat → Int32)) : Prop := (p_X2_takeNumber x lf (20 : Int32) (999 : Int32) ∧ (((t 0) = 0 → True) ∧ (¬ ((t 0) = 0) → (((f_X2_takeNumber x lf (20 : Int32) (999 : Int32)).1 = (-4 : Int32) → True) ∧ (¬ ((f_X2_takeNumber x lf (20 : Int32) (999 : Int32)).1 = (-4 : Int32)) → (p_X2_take (f_X2_takeNumber x lf (20 : Int32) (999 : Int32)).2 lf 3 ∧ (((f_X2_take (f_X2_takeNumber x lf (20 : Int32) (999 : Int32)).2 lf 3).1 = 0 → True) ∧ (¬ ((f_X2_take (f_X2_takeNumber x lf (20 : Int32) (999 : Int32)).2 lf 3).1 = 0) → (p_X2_takeKind (f_X2_take (f_X2_takeNumber x lf (20 : Int32) (999 : Int32)).2 lf 3).2 lf ∧ ((h_X0_readHop_42 t W LF KF (f_X2_takeKind (f_X2_take (f_X2_takeNumber x lf (20 : Int32) (999 : Int32)).2 lf 3).2 lf).1 (f_X2_takeNumber x lf (20 : Int32) (999 : Int32)).1) ∧ True))))))))))
theorem B_X0_readHop (r : (Nat → Int32)) (t : (Nat → Int32)) (W : (Nat → Nat → Int32)) (LF : (Nat → Nat → Int32)) (KF : (Nat → Nat → Int32)) (x : (Nat → Int32)) (lf : (Nat → Int32)) : xB (f_X0_readHop r t W LF KF x lf).1 := by
  unfold f_X0_readHop
  exact (xB_ite1 (xB_fst xB0) (xB_ite1 (xB_fst xB0) (xB_ite1 (xB_fst xB0) (xB_fst (Bg_X0_readHop_42 _ _ _ _ _ _)))))
set_option maxRecDepth 100000 in
set_option maxHeartbeats 4000000 in
theorem C_X0_readHop (G : xG) (h : xH) (b tx ca : Nat) (r : (Nat → Int32)) (t : (Nat → Int32)) (W : (Nat → Nat → Int32)) (LF : (Nat → Nat → Int32)) (KF : (Nat → Nat → Int32)) (x : (Nat → Int32)) (lf : (Nat → Int32)) (k_b : nk h b r t W LF KF) (k_tx : hAt h tx = some (txC ca x)) (k_ca : hAt h ca = some (arC 240 lf)) (o0 : tx < b ∨ b + 15 ≤ tx) (o1 : ca < b ∨ b + 15 ≤ ca) (hp : p_X0_readHop r t W LF KF x lf) : Ct G 6 0 0 yX0_readHop cX0_readHop 4 (some .boolean) [.ref b, .ref tx] h (fun v' h' => v' = (some (.int (f_X0_readHop r t W LF KF x lf).1)) ∧ (nk h' b r t (f_X0_readHop r t W LF KF x lf).2.1 (f_X0_readHop r t W LF KF x lf).2.2.1 (f_X0_readHop r t W LF KF x lf).2.2.2.1) ∧ (hAt h' tx = some (txC ca (f_X0_readHop r t W LF KF x lf).2.2.2.2)) ∧ fr (fun q => (b ≤ q ∧ q < b + 15) ∨ q = tx) h h') := by
  have u_0_1 : tx ≠ ca := hne_k k_tx k_ca rfl
  refine Ct.of (by decide) (by rfl) ?_
  refine Wp.eqs (L' := [(0, .ref b), (1, .ref tx)]) (st' := []) rfl rfl ?_
  obtain ⟨R, er⟩ : ∃ R, f_X0_readHop r t W LF KF x lf = R := ⟨_, rfl⟩
  rw [er]
  unfold f_X0_readHop at er
  unfold p_X0_readHop at hp
  refine x_aload_n (pc := 0) dX0_readHop_0 rfl ?_
  refine x_bipush (pc := 1) (v := (20 : Int32)) dX0_readHop_1 (by decide) ?_
  refine x_sipush (pc := 3) (v := (999 : Int32)) dX0_readHop_3 (by decide) ?_
  obtain ⟨q6, hp⟩ := hp
  refine x_cV2i (pc := 6) dX0_readHop_6 xl_X0_103 xv_X2_takeNumber k_tx rfl (C_X2_takeNumber G _ tx ca x lf (20 : Int32) (999 : Int32) k_tx k_ca q6) rfl rfl rfl ?_
  obtain ⟨F1, eF1⟩ : ∃ F, f_X2_takeNumber x lf (20 : Int32) (999 : Int32) = F := ⟨_, rfl⟩
  rw [eF1]
  try rw [eF1] at er
  try rw [eF1] at hp
  obtain ⟨h1, eh1⟩ : ∃ z, z = hSet h tx (txC ca F1.2) := ⟨_, rfl⟩
  rw [← eh1]
  have k_b_h1 : nk h1 b r t W LF KF := by rw [eh1]; exact nk_fr1 (by omega) k_b
  have k_tx_h1 : hAt h1 tx = some (txC ca F1.2) := by rw [eh1]; exact hAt_same
  have k_ca_h1 : hAt h1 ca = some (arC 240 lf) := by rw [eh1]; exact hAt_n (by omega) k_ca
  have f_h1 : fr (fun q => (b ≤ q ∧ q < b + 15) ∨ q = tx) h h1 := by rw [eh1]; exact fr_set fr_refl (show (b ≤ tx ∧ tx < b + 15) ∨ tx = tx by omega)
  refine x_istore_n (pc := 9) (L' := [(2, .int F1.1), (0, .ref b), (1, .ref tx)]) dX0_readHop_9 rfl rfl ?_
  refine x_aload_n (pc := 10) dX0_readHop_10 rfl ?_
  refine x_getf (pc := 11) (v := .int (t 0)) dX0_readHop_11 xf_X0_29 (nk_nt k_b_h1) rfl ?_
  refine x_if_eq (pc := 14) (tgt := 32) dX0_readHop_14 (by decide) (fun (c1 : (t 0) = 0) => ?_) (fun (c1 : ¬ ((t 0) = 0)) => ?_)
  · rw [if_pos c1] at er
    replace hp := hp.1 c1
    refine x_iconst (pc := 32) (v := (0 : Int32)) dX0_readHop_32 (by decide) ?_
    subst er
    exact x_iret (pc := 33) dX0_readHop_33 rfl rfl rfl rfl ⟨rfl, k_b_h1, k_tx_h1, f_h1⟩
  · rw [if_neg c1] at er
    replace hp := hp.2 c1
    refine x_iload_n (pc := 17) dX0_readHop_17 rfl ?_
    refine x_bipush (pc := 18) (v := (-4 : Int32)) dX0_readHop_18 (by decide) ?_
    refine x_icmp_eq (pc := 20) (tgt := 32) dX0_readHop_20 (by decide) (fun (c2 : F1.1 = (-4 : Int32)) => ?_) (fun (c2 : ¬ (F1.1 = (-4 : Int32))) => ?_)
    · rw [if_pos c2] at er
      replace hp := hp.1 c2
      refine x_iconst (pc := 32) (v := (0 : Int32)) dX0_readHop_32 (by decide) ?_
      subst er
      exact x_iret (pc := 33) dX0_readHop_33 rfl rfl rfl rfl ⟨rfl, k_b_h1, k_tx_h1, f_h1⟩
    · rw [if_neg c2] at er
      replace hp := hp.2 c2
      refine x_aload_n (pc := 23) dX0_readHop_23 rfl ?_
      refine x_ldcS (pc := 24) (i := 3) (tx := " ") dX0_readHop_24 rfl ?_
      obtain ⟨q26, hp⟩ := hp
      refine x_cV1i (pc := 26) dX0_readHop_26 xl_X0_74 xv_X2_take k_tx_h1 rfl (C_X2_take G _ tx ca F1.2 lf 3 k_tx_h1 k_ca_h1 q26) rfl rfl rfl ?_
      obtain ⟨F2, eF2⟩ : ∃ F, f_X2_take F1.2 lf 3 = F := ⟨_, rfl⟩
      rw [eF2]
      try rw [eF2] at er
      try rw [eF2] at hp
      have bF2_1 : xB F2.1 := by rw [← eF2]; exact (B_X2_take _ _ _)
      obtain ⟨h2, eh2⟩ : ∃ z, z = hSet h1 tx (txC ca F2.2) := ⟨_, rfl⟩
      rw [← eh2]
      have k_b_h2 : nk h2 b r t W LF KF := by rw [eh2]; exact nk_fr1 (by omega) k_b_h1
      have k_tx_h2 : hAt h2 tx = some (txC ca F2.2) := by rw [eh2]; exact hAt_same
      have k_ca_h2 : hAt h2 ca = some (arC 240 lf) := by rw [eh2]; exact hAt_n (by omega) k_ca_h1
      have f_h2 : fr (fun q => (b ≤ q ∧ q < b + 15) ∨ q = tx) h h2 := by rw [eh2]; exact fr_set f_h1 (show (b ≤ tx ∧ tx < b + 15) ∨ tx = tx by omega)
      refine x_if_ne (pc := 29) (tgt := 34) dX0_readHop_29 (by decide) (fun (c3 : ¬ (F2.1 = 0)) => ?_) (fun (c3 : F2.1 = 0) => ?_)
      · rw [if_neg c3] at er
        replace hp := hp.2 c3
        refine x_aload_n (pc := 34) dX0_readHop_34 rfl ?_
        obtain ⟨q35, hp⟩ := hp
        refine x_cV0i (pc := 35) dX0_readHop_35 xl_X0_108 xv_X2_takeKind k_tx_h2 rfl (C_X2_takeKind G _ tx ca F2.2 lf k_tx_h2 k_ca_h2 q35) rfl rfl rfl ?_
        obtain ⟨F3, eF3⟩ : ∃ F, f_X2_takeKind F2.2 lf = F := ⟨_, rfl⟩
        rw [eF3]
        try rw [eF3] at er
        try rw [eF3] at hp
        obtain ⟨h3, eh3⟩ : ∃ z, z = hSet h2 tx (txC ca F3.2) := ⟨_, rfl⟩
        rw [← eh3]
        have k_b_h3 : nk h3 b r t W LF KF := by rw [eh3]; exact nk_fr1 (by omega) k_b_h2
        have k_tx_h3 : hAt h3 tx = some (txC ca F3.2) := by rw [eh3]; exact hAt_same
        have k_ca_h3 : hAt h3 ca = some (arC 240 lf) := by rw [eh3]; exact hAt_n (by omega) k_ca_h2
        have f_h3 : fr (fun q => (b ≤ q ∧ q < b + 15) ∨ q = tx) h h3 := by rw [eh3]; exact fr_set f_h2 (show (b ≤ tx ∧ tx < b + 15) ∨ tx = tx by omega)
        refine x_istore_n (pc := 38) (L' := [(3, .int F3.1), (2, .int F1.1), (0, .ref b), (1, .ref tx)]) dX0_readHop_38 rfl rfl ?_
        refine x_iload_n (pc := 39) dX0_readHop_39 rfl ?_
        refine x_bipush (pc := 40) (v := (-4 : Int32)) dX0_readHop_40 (by decide) ?_
        obtain ⟨qr42, hp⟩ := hp
        obtain ⟨F6, eF6⟩ : ∃ F, g_X0_readHop_42 t W LF KF F3.1 F1.1 = F := ⟨_, rfl⟩
        try rw [eF6] at er
        try rw [eF6] at hp
        have bF6_1 : xB F6.1 := by rw [← eF6]; exact (Bg_X0_readHop_42 _ _ _ _ _ _)
        refine x_mrgR (pc' := 69) (L' := [(3, .int F3.1), (2, .int F1.1), (0, .ref b), (1, .ref tx)]) (st' := [.int F6.1]) (P := fun hh => (nk hh b r t F6.2.1 F6.2.2.1 F6.2.2.2) ∧ (hAt hh tx = some (txC ca F3.2)) ∧ (hAt hh ca = some (arC 240 lf)) ∧ (fr (fun q => (b ≤ q ∧ q < b + 15) ∨ q = tx) h hh)) (fun J => ?_) (fun h10 hk => ?_)
        · unfold g_X0_readHop_42 at eF6
          unfold h_X0_readHop_42 at qr42
          try rw [eF1] at eF6
          try rw [eF1] at qr42
          try rw [eF2] at eF6
          try rw [eF2] at qr42
          try rw [eF3] at eF6
          try rw [eF3] at qr42
          refine x_icmp_eq (pc := 42) (tgt := 68) dX0_readHop_42 (by decide) (fun (c6 : F3.1 = (-4 : Int32)) => ?_) (fun (c6 : ¬ (F3.1 = (-4 : Int32))) => ?_)
          · rw [if_pos c6] at eF6
            replace qr42 := qr42.1 c6
            refine x_iconst (pc := 68) (v := (0 : Int32)) dX0_readHop_68 (by decide) ?_
            subst eF6
            exact J h3 ⟨k_b_h3, k_tx_h3, k_ca_h3, f_h3⟩
          · rw [if_neg c6] at eF6
            replace qr42 := qr42.2 c6
            refine x_aload_n (pc := 45) dX0_readHop_45 rfl ?_
            refine x_getf (pc := 46) (v := .ref (b + 2)) dX0_readHop_46 xf_X0_20 (nk_nt k_b_h3) rfl ?_
            refine x_aload_n (pc := 49) dX0_readHop_49 rfl ?_
            refine x_getf (pc := 50) (v := .int (t 0)) dX0_readHop_50 xf_X0_29 (nk_nt k_b_h3) rfl ?_
            refine x_iconst (pc := 53) (v := (1 : Int32)) dX0_readHop_53 (by decide) ?_
            refine x_isub (pc := 54) dX0_readHop_54 ?_
            obtain ⟨q55, qr42⟩ := qr42
            have hj2 : (((t 0) - (1 : Int32)).toNatClampNeg) < 4 := vp_lt q55
            refine x_aald (pc := 55) (t := 3) (Cn := RX3) (b := (b + 3 + 3 * (((t 0) - (1 : Int32)).toNatClampNeg))) rfl dX0_readHop_55 (nk_wy k_b_h3) q55 rfl ?_
            refine x_iload_n (pc := 56) dX0_readHop_56 rfl ?_
            refine x_iload_n (pc := 57) dX0_readHop_57 rfl ?_
            obtain ⟨q58, qr42⟩ := qr42
            refine x_cV2i (pc := 58) dX0_readHop_58 xl_X0_112 xv_X3_addHop (nk_wa k_b_h3 hj2) rfl (C_X3_addHop G _ (b + 3 + 3 * (((t 0) - (1 : Int32)).toNatClampNeg)) (b + 4 + 3 * (((t 0) - (1 : Int32)).toNatClampNeg)) (b + 5 + 3 * (((t 0) - (1 : Int32)).toNatClampNeg)) (W (((t 0) - (1 : Int32)).toNatClampNeg)) (LF (((t 0) - (1 : Int32)).toNatClampNeg)) (KF (((t 0) - (1 : Int32)).toNatClampNeg)) F1.1 F3.1 (nk_wa k_b_h3 hj2) (nk_la k_b_h3 hj2) (nk_ka k_b_h3 hj2) (by omega) q58) rfl rfl rfl ?_
            obtain ⟨F5, eF5⟩ : ∃ F, f_X3_addHop (W (((t 0) - (1 : Int32)).toNatClampNeg)) (LF (((t 0) - (1 : Int32)).toNatClampNeg)) (KF (((t 0) - (1 : Int32)).toNatClampNeg)) F1.1 F3.1 = F := ⟨_, rfl⟩
            rw [eF5]
            try rw [eF5] at eF6
            try rw [eF5] at qr42
            have bF5_1 : xB F5.1 := by rw [← eF5]; exact (B_X3_addHop _ _ _ _ _)
            obtain ⟨h7, eh7⟩ : ∃ z, z = hSet h3 (b + 3 + 3 * (((t 0) - (1 : Int32)).toNatClampNeg)) (waC (b + 4 + 3 * (((t 0) - (1 : Int32)).toNatClampNeg)) (b + 5 + 3 * (((t 0) - (1 : Int32)).toNatClampNeg)) F5.2.1) := ⟨_, rfl⟩
            rw [← eh7]
            have k_b_h7 : nk h7 b r t (va_up W (((t 0) - (1 : Int32)).toNatClampNeg) F5.2.1) LF KF := by rw [eh7]; exact nk_swa k_b_h3 hj2
            have k_tx_h7 : hAt h7 tx = some (txC ca F3.2) := by rw [eh7]; exact hAt_n (by omega) k_tx_h3
            have k_ca_h7 : hAt h7 ca = some (arC 240 lf) := by rw [eh7]; exact hAt_n (by omega) k_ca_h3
            have f_h7 : fr (fun q => (b ≤ q ∧ q < b + 15) ∨ q = tx) h h7 := by rw [eh7]; exact fr_set f_h3 (show (b ≤ (b + 3 + 3 * (((t 0) - (1 : Int32)).toNatClampNeg)) ∧ (b + 3 + 3 * (((t 0) - (1 : Int32)).toNatClampNeg)) < b + 15) ∨ (b + 3 + 3 * (((t 0) - (1 : Int32)).toNatClampNeg)) = tx by omega)
            obtain ⟨h8, eh8⟩ : ∃ z, z = hSet h7 (b + 4 + 3 * (((t 0) - (1 : Int32)).toNatClampNeg)) (arI 6 F5.2.2.1) := ⟨_, rfl⟩
            rw [← eh8]
            have k_b_h8 : nk h8 b r t (va_up W (((t 0) - (1 : Int32)).toNatClampNeg) F5.2.1) (va_up LF (((t 0) - (1 : Int32)).toNatClampNeg) F5.2.2.1) KF := by rw [eh8]; exact nk_sla k_b_h7 hj2
            have k_tx_h8 : hAt h8 tx = some (txC ca F3.2) := by rw [eh8]; exact hAt_n (by omega) k_tx_h7
            have k_ca_h8 : hAt h8 ca = some (arC 240 lf) := by rw [eh8]; exact hAt_n (by omega) k_ca_h7
            have f_h8 : fr (fun q => (b ≤ q ∧ q < b + 15) ∨ q = tx) h h8 := by rw [eh8]; exact fr_set f_h7 (show (b ≤ (b + 4 + 3 * (((t 0) - (1 : Int32)).toNatClampNeg)) ∧ (b + 4 + 3 * (((t 0) - (1 : Int32)).toNatClampNeg)) < b + 15) ∨ (b + 4 + 3 * (((t 0) - (1 : Int32)).toNatClampNeg)) = tx by omega)
            obtain ⟨h9, eh9⟩ : ∃ z, z = hSet h8 (b + 5 + 3 * (((t 0) - (1 : Int32)).toNatClampNeg)) (arI 6 F5.2.2.2) := ⟨_, rfl⟩
            rw [← eh9]
            have k_b_h9 : nk h9 b r t (va_up W (((t 0) - (1 : Int32)).toNatClampNeg) F5.2.1) (va_up LF (((t 0) - (1 : Int32)).toNatClampNeg) F5.2.2.1) (va_up KF (((t 0) - (1 : Int32)).toNatClampNeg) F5.2.2.2) := by rw [eh9]; exact nk_ska k_b_h8 hj2
            have k_tx_h9 : hAt h9 tx = some (txC ca F3.2) := by rw [eh9]; exact hAt_n (by omega) k_tx_h8
            have k_ca_h9 : hAt h9 ca = some (arC 240 lf) := by rw [eh9]; exact hAt_n (by omega) k_ca_h8
            have f_h9 : fr (fun q => (b ≤ q ∧ q < b + 15) ∨ q = tx) h h9 := by rw [eh9]; exact fr_set f_h8 (show (b ≤ (b + 5 + 3 * (((t 0) - (1 : Int32)).toNatClampNeg)) ∧ (b + 5 + 3 * (((t 0) - (1 : Int32)).toNatClampNeg)) < b + 15) ∨ (b + 5 + 3 * (((t 0) - (1 : Int32)).toNatClampNeg)) = tx by omega)
            refine x_if_eq (pc := 61) (tgt := 68) dX0_readHop_61 (by decide) (fun (c7 : F5.1 = 0) => ?_) (fun (c7 : ¬ (F5.1 = 0)) => ?_)
            · rw [if_pos c7] at eF6
              replace qr42 := qr42.1 c7
              refine x_iconst (pc := 68) (v := (0 : Int32)) dX0_readHop_68 (by decide) ?_
              subst eF6
              exact J h9 ⟨k_b_h9, k_tx_h9, k_ca_h9, f_h9⟩
            · rw [if_neg c7] at eF6
              replace qr42 := qr42.2 c7
              refine x_iconst (pc := 64) (v := (1 : Int32)) dX0_readHop_64 (by decide) ?_
              refine x_goto (pc := 65) (tgt := 69) dX0_readHop_65 (by decide) ?_
              subst eF6
              exact J h9 ⟨k_b_h9, k_tx_h9, k_ca_h9, f_h9⟩
        obtain ⟨k_b_h10, k_tx_h10, k_ca_h10, f_h10⟩ := hk
        subst er
        exact x_iret (pc := 69) dX0_readHop_69 rfl (xb_nar bF6_1) rfl rfl ⟨rfl, k_b_h10, k_tx_h10, f_h10⟩
      · rw [if_pos c3] at er
        replace hp := hp.1 c3
        refine x_iconst (pc := 32) (v := (0 : Int32)) dX0_readHop_32 (by decide) ?_
        subst er
        exact x_iret (pc := 33) dX0_readHop_33 rfl rfl rfl rfl ⟨rfl, k_b_h2, k_tx_h2, f_h2⟩

def f_X0_readRule (r : (Nat → Int32)) (t : (Nat → Int32)) (W : (Nat → Nat → Int32)) (LF : (Nat → Nat → Int32)) (KF : (Nat → Nat → Int32)) (x : (Nat → Int32)) (lf : (Nat → Int32)) : Int32 × (Nat → Int32) × (Nat → Int32) := (if (f_X2_take x lf 9).1 = 0 then (if (f_X2_take (f_X2_take x lf 9).2 lf 10).1 = 0 then (if (f_X2_take (f_X2_take (f_X2_take x lf 9).2 lf 10).2 lf 11).1 = 0 then (if (f_X2_take (f_X2_take (f_X2_take (f_X2_take x lf 9).2 lf 10).2 lf 11).2 lf 12).1 = 0 then (if (f_X2_take (f_X2_take (f_X2_take (f_X2_take (f_X2_take x lf 9).2 lf 10).2 lf 11).2 lf 12).2 lf 16).1 = 0 then ((0 : Int32), r, (f_X2_take (f_X2_take (f_X2_take (f_X2_take (f_X2_take x lf 9).2 lf 10).2 lf 11).2 lf 12).2 lf 16).2) else (((if ((upd r 4 (f_X2_takeNumber (f_X2_take (f_X2_take (f_X2_take (f_X2_take (f_X2_take x lf 9).2 lf 10).2 lf 11).2 lf 12).2 lf 16).2 lf (0 : Int32) (9999 : Int32)).1) 4) = (-4 : Int32) then (0 : Int32) else (1 : Int32))), (upd r 4 (f_X2_takeNumber (f_X2_take (f_X2_take (f_X2_take (f_X2_take (f_X2_take x lf 9).2 lf 10).2 lf 11).2 lf 12).2 lf 16).2 lf (0 : Int32) (9999 : Int32)).1), (f_X2_takeNumber (f_X2_take (f_X2_take (f_X2_take (f_X2_take (f_X2_take x lf 9).2 lf 10).2 lf 11).2 lf 12).2 lf 16).2 lf (0 : Int32) (9999 : Int32)).2)) else (((if ((upd r 3 (f_X2_takeBelief (f_X2_take (f_X2_take (f_X2_take (f_X2_take x lf 9).2 lf 10).2 lf 11).2 lf 12).2 lf).1) 3) = (-4 : Int32) then (0 : Int32) else (1 : Int32))), (upd r 3 (f_X2_takeBelief (f_X2_take (f_X2_take (f_X2_take (f_X2_take x lf 9).2 lf 10).2 lf 11).2 lf 12).2 lf).1), (f_X2_takeBelief (f_X2_take (f_X2_take (f_X2_take (f_X2_take x lf 9).2 lf 10).2 lf 11).2 lf 12).2 lf).2)) else (((if ((upd r 2 (f_X2_takeNumber (f_X2_take (f_X2_take (f_X2_take x lf 9).2 lf 10).2 lf 11).2 lf (1 : Int32) (99 : Int32)).1) 2) = (-4 : Int32) then (0 : Int32) else (1 : Int32))), (upd r 2 (f_X2_takeNumber (f_X2_take (f_X2_take (f_X2_take x lf 9).2 lf 10).2 lf 11).2 lf (1 : Int32) (99 : Int32)).1), (f_X2_takeNumber (f_X2_take (f_X2_take (f_X2_take x lf 9).2 lf 10).2 lf 11).2 lf (1 : Int32) (99 : Int32)).2)) else (((if ((upd r 1 (f_X2_takeNumber (f_X2_take (f_X2_take x lf 9).2 lf 10).2 lf (200 : Int32) (999 : Int32)).1) 1) = (-4 : Int32) then (0 : Int32) else (1 : Int32))), (upd r 1 (f_X2_takeNumber (f_X2_take (f_X2_take x lf 9).2 lf 10).2 lf (200 : Int32) (999 : Int32)).1), (f_X2_takeNumber (f_X2_take (f_X2_take x lf 9).2 lf 10).2 lf (200 : Int32) (999 : Int32)).2)) else (((if ((upd r 0 (f_X2_takeNumber (f_X2_take x lf 9).2 lf (20 : Int32) (200 : Int32)).1) 0) = (-4 : Int32) then (0 : Int32) else (1 : Int32))), (upd r 0 (f_X2_takeNumber (f_X2_take x lf 9).2 lf (20 : Int32) (200 : Int32)).1), (f_X2_takeNumber (f_X2_take x lf 9).2 lf (20 : Int32) (200 : Int32)).2))
def p_X0_readRule (r : (Nat → Int32)) (t : (Nat → Int32)) (W : (Nat → Nat → Int32)) (LF : (Nat → Nat → Int32)) (KF : (Nat → Nat → Int32)) (x : (Nat → Int32)) (lf : (Nat → Int32)) : Prop := (p_X2_take x lf 9 ∧ (((f_X2_take x lf 9).1 = 0 → (p_X2_take (f_X2_take x lf 9).2 lf 10 ∧ (((f_X2_take (f_X2_take x lf 9).2 lf 10).1 = 0 → (p_X2_take (f_X2_take (f_X2_take x lf 9).2 lf 10).2 lf 11 ∧ (((f_X2_take (f_X2_take (f_X2_take x lf 9).2 lf 10).2 lf 11).1 = 0 → (p_X2_take (f_X2_take (f_X2_take (f_X2_take x lf 9).2 lf 10).2 lf 11).2 lf 12 ∧ (((f_X2_take (f_X2_take (f_X2_take (f_X2_take x lf 9).2 lf 10).2 lf 11).2 lf 12).1 = 0 → (p_X2_take (f_X2_take (f_X2_take (f_X2_take (f_X2_take x lf 9).2 lf 10).2 lf 11).2 lf 12).2 lf 16 ∧ (((f_X2_take (f_X2_take (f_X2_take (f_X2_take (f_X2_take x lf 9).2 lf 10).2 lf 11).2 lf 12).2 lf 16).1 = 0 → True) ∧ (¬ ((f_X2_take (f_X2_take (f_X2_take (f_X2_take (f_X2_take x lf 9).2 lf 10).2 lf 11).2 lf 12).2 lf 16).1 = 0) → (p_X2_takeNumber (f_X2_take (f_X2_take (f_X2_take (f_X2_take (f_X2_take x lf 9).2 lf 10).2 lf 11).2 lf 12).2 lf 16).2 lf (0 : Int32) (9999 : Int32) ∧ True))))) ∧ (¬ ((f_X2_take (f_X2_take (f_X2_take (f_X2_take x lf 9).2 lf 10).2 lf 11).2 lf 12).1 = 0) → (p_X2_takeBelief (f_X2_take (f_X2_take (f_X2_take (f_X2_take x lf 9).2 lf 10).2 lf 11).2 lf 12).2 lf ∧ True))))) ∧ (¬ ((f_X2_take (f_X2_take (f_X2_take x lf 9).2 lf 10).2 lf 11).1 = 0) → (p_X2_takeNumber (f_X2_take (f_X2_take (f_X2_take x lf 9).2 lf 10).2 lf 11).2 lf (1 : Int32) (99 : Int32) ∧ True))))) ∧ (¬ ((f_X2_take (f_X2_take x lf 9).2 lf 10).1 = 0) → (p_X2_takeNumber (f_X2_take (f_X2_take x lf 9).2 lf 10).2 lf (200 : Int32) (999 : Int32) ∧ True))))) ∧ (¬ ((f_X2_take x lf 9).1 = 0) → (p_X2_takeNumber (f_X2_take x lf 9).2 lf (20 : Int32) (200 : Int32) ∧ True))))
theorem B_X0_readRule (r : (Nat → Int32)) (t : (Nat → Int32)) (W : (Nat → Nat → Int32)) (LF : (Nat → Nat → Int32)) (KF : (Nat → Nat → Int32)) (x : (Nat → Int32)) (lf : (Nat → Int32)) : xB (f_X0_readRule r t W LF KF x lf).1 := by
  unfold f_X0_readRule
  exact (xB_ite1 (xB_ite1 (xB_ite1 (xB_ite1 (xB_ite1 (xB_fst xB0) (xB_fst (xB_ite xB0 xB1))) (xB_fst (xB_ite xB0 xB1))) (xB_fst (xB_ite xB0 xB1))) (xB_fst (xB_ite xB0 xB1))) (xB_fst (xB_ite xB0 xB1)))
set_option maxRecDepth 100000 in
set_option maxHeartbeats 4000000 in
theorem C_X0_readRule (G : xG) (h : xH) (b tx ca : Nat) (r : (Nat → Int32)) (t : (Nat → Int32)) (W : (Nat → Nat → Int32)) (LF : (Nat → Nat → Int32)) (KF : (Nat → Nat → Int32)) (x : (Nat → Int32)) (lf : (Nat → Int32)) (k_b : nk h b r t W LF KF) (k_tx : hAt h tx = some (txC ca x)) (k_ca : hAt h ca = some (arC 240 lf)) (o0 : tx < b ∨ b + 15 ≤ tx) (o1 : ca < b ∨ b + 15 ≤ ca) (hp : p_X0_readRule r t W LF KF x lf) : Ct G 6 0 0 yX0_readRule cX0_readRule 2 (some .boolean) [.ref b, .ref tx] h (fun v' h' => v' = (some (.int (f_X0_readRule r t W LF KF x lf).1)) ∧ (nk h' b (f_X0_readRule r t W LF KF x lf).2.1 t W LF KF) ∧ (hAt h' tx = some (txC ca (f_X0_readRule r t W LF KF x lf).2.2)) ∧ fr (fun q => (b ≤ q ∧ q < b + 15) ∨ q = tx) h h') := by
  have u_0_1 : tx ≠ ca := hne_k k_tx k_ca rfl
  refine Ct.of (by decide) (by rfl) ?_
  refine Wp.eqs (L' := [(0, .ref b), (1, .ref tx)]) (st' := []) rfl rfl ?_
  obtain ⟨R, er⟩ : ∃ R, f_X0_readRule r t W LF KF x lf = R := ⟨_, rfl⟩
  rw [er]
  unfold f_X0_readRule at er
  unfold p_X0_readRule at hp
  refine x_aload_n (pc := 0) dX0_readRule_0 rfl ?_
  refine x_ldcS (pc := 1) (i := 9) (tx := "base ") dX0_readRule_1 rfl ?_
  obtain ⟨q3, hp⟩ := hp
  refine x_cV1i (pc := 3) dX0_readRule_3 xl_X0_74 xv_X2_take k_tx rfl (C_X2_take G _ tx ca x lf 9 k_tx k_ca q3) rfl rfl rfl ?_
  obtain ⟨F1, eF1⟩ : ∃ F, f_X2_take x lf 9 = F := ⟨_, rfl⟩
  rw [eF1]
  try rw [eF1] at er
  try rw [eF1] at hp
  have bF1_1 : xB F1.1 := by rw [← eF1]; exact (B_X2_take _ _ _)
  obtain ⟨h1, eh1⟩ : ∃ z, z = hSet h tx (txC ca F1.2) := ⟨_, rfl⟩
  rw [← eh1]
  have k_b_h1 : nk h1 b r t W LF KF := by rw [eh1]; exact nk_fr1 (by omega) k_b
  have k_tx_h1 : hAt h1 tx = some (txC ca F1.2) := by rw [eh1]; exact hAt_same
  have k_ca_h1 : hAt h1 ca = some (arC 240 lf) := by rw [eh1]; exact hAt_n (by omega) k_ca
  have f_h1 : fr (fun q => (b ≤ q ∧ q < b + 15) ∨ q = tx) h h1 := by rw [eh1]; exact fr_set fr_refl (show (b ≤ tx ∧ tx < b + 15) ∨ tx = tx by omega)
  refine x_if_eq (pc := 6) (tgt := 43) dX0_readRule_6 (by decide) (fun (c1 : F1.1 = 0) => ?_) (fun (c1 : ¬ (F1.1 = 0)) => ?_)
  · rw [if_pos c1] at er
    replace hp := hp.1 c1
    refine x_aload_n (pc := 43) dX0_readRule_43 rfl ?_
    refine x_ldcS (pc := 44) (i := 10) (tx := "top ") dX0_readRule_44 rfl ?_
    obtain ⟨q46, hp⟩ := hp
    refine x_cV1i (pc := 46) dX0_readRule_46 xl_X0_74 xv_X2_take k_tx_h1 rfl (C_X2_take G _ tx ca F1.2 lf 10 k_tx_h1 k_ca_h1 q46) rfl rfl rfl ?_
    obtain ⟨F2, eF2⟩ : ∃ F, f_X2_take F1.2 lf 10 = F := ⟨_, rfl⟩
    rw [eF2]
    try rw [eF2] at er
    try rw [eF2] at hp
    have bF2_1 : xB F2.1 := by rw [← eF2]; exact (B_X2_take _ _ _)
    obtain ⟨h2, eh2⟩ : ∃ z, z = hSet h1 tx (txC ca F2.2) := ⟨_, rfl⟩
    rw [← eh2]
    have k_b_h2 : nk h2 b r t W LF KF := by rw [eh2]; exact nk_fr1 (by omega) k_b_h1
    have k_tx_h2 : hAt h2 tx = some (txC ca F2.2) := by rw [eh2]; exact hAt_same
    have k_ca_h2 : hAt h2 ca = some (arC 240 lf) := by rw [eh2]; exact hAt_n (by omega) k_ca_h1
    have f_h2 : fr (fun q => (b ≤ q ∧ q < b + 15) ∨ q = tx) h h2 := by rw [eh2]; exact fr_set f_h1 (show (b ≤ tx ∧ tx < b + 15) ∨ tx = tx by omega)
    refine x_if_eq (pc := 49) (tgt := 87) dX0_readRule_49 (by decide) (fun (c2 : F2.1 = 0) => ?_) (fun (c2 : ¬ (F2.1 = 0)) => ?_)
    · rw [if_pos c2] at er
      replace hp := hp.1 c2
      refine x_aload_n (pc := 87) dX0_readRule_87 rfl ?_
      refine x_ldcS (pc := 88) (i := 11) (tx := "age ") dX0_readRule_88 rfl ?_
      obtain ⟨q90, hp⟩ := hp
      refine x_cV1i (pc := 90) dX0_readRule_90 xl_X0_74 xv_X2_take k_tx_h2 rfl (C_X2_take G _ tx ca F2.2 lf 11 k_tx_h2 k_ca_h2 q90) rfl rfl rfl ?_
      obtain ⟨F3, eF3⟩ : ∃ F, f_X2_take F2.2 lf 11 = F := ⟨_, rfl⟩
      rw [eF3]
      try rw [eF3] at er
      try rw [eF3] at hp
      have bF3_1 : xB F3.1 := by rw [← eF3]; exact (B_X2_take _ _ _)
      obtain ⟨h3, eh3⟩ : ∃ z, z = hSet h2 tx (txC ca F3.2) := ⟨_, rfl⟩
      rw [← eh3]
      have k_b_h3 : nk h3 b r t W LF KF := by rw [eh3]; exact nk_fr1 (by omega) k_b_h2
      have k_tx_h3 : hAt h3 tx = some (txC ca F3.2) := by rw [eh3]; exact hAt_same
      have k_ca_h3 : hAt h3 ca = some (arC 240 lf) := by rw [eh3]; exact hAt_n (by omega) k_ca_h2
      have f_h3 : fr (fun q => (b ≤ q ∧ q < b + 15) ∨ q = tx) h h3 := by rw [eh3]; exact fr_set f_h2 (show (b ≤ tx ∧ tx < b + 15) ∨ tx = tx by omega)
      refine x_if_eq (pc := 93) (tgt := 128) dX0_readRule_93 (by decide) (fun (c3 : F3.1 = 0) => ?_) (fun (c3 : ¬ (F3.1 = 0)) => ?_)
      · rw [if_pos c3] at er
        replace hp := hp.1 c3
        refine x_aload_n (pc := 128) dX0_readRule_128 rfl ?_
        refine x_ldcS (pc := 129) (i := 12) (tx := "believe ") dX0_readRule_129 rfl ?_
        obtain ⟨q131, hp⟩ := hp
        refine x_cV1i (pc := 131) dX0_readRule_131 xl_X0_74 xv_X2_take k_tx_h3 rfl (C_X2_take G _ tx ca F3.2 lf 12 k_tx_h3 k_ca_h3 q131) rfl rfl rfl ?_
        obtain ⟨F4, eF4⟩ : ∃ F, f_X2_take F3.2 lf 12 = F := ⟨_, rfl⟩
        rw [eF4]
        try rw [eF4] at er
        try rw [eF4] at hp
        have bF4_1 : xB F4.1 := by rw [← eF4]; exact (B_X2_take _ _ _)
        obtain ⟨h4, eh4⟩ : ∃ z, z = hSet h3 tx (txC ca F4.2) := ⟨_, rfl⟩
        rw [← eh4]
        have k_b_h4 : nk h4 b r t W LF KF := by rw [eh4]; exact nk_fr1 (by omega) k_b_h3
        have k_tx_h4 : hAt h4 tx = some (txC ca F4.2) := by rw [eh4]; exact hAt_same
        have k_ca_h4 : hAt h4 ca = some (arC 240 lf) := by rw [eh4]; exact hAt_n (by omega) k_ca_h3
        have f_h4 : fr (fun q => (b ≤ q ∧ q < b + 15) ∨ q = tx) h h4 := by rw [eh4]; exact fr_set f_h3 (show (b ≤ tx ∧ tx < b + 15) ∨ tx = tx by omega)
        refine x_if_eq (pc := 134) (tgt := 166) dX0_readRule_134 (by decide) (fun (c4 : F4.1 = 0) => ?_) (fun (c4 : ¬ (F4.1 = 0)) => ?_)
        · rw [if_pos c4] at er
          replace hp := hp.1 c4
          refine x_aload_n (pc := 166) dX0_readRule_166 rfl ?_
          refine x_ldcS (pc := 167) (i := 16) (tx := "draws ") dX0_readRule_167 rfl ?_
          obtain ⟨q169, hp⟩ := hp
          refine x_cV1i (pc := 169) dX0_readRule_169 xl_X0_74 xv_X2_take k_tx_h4 rfl (C_X2_take G _ tx ca F4.2 lf 16 k_tx_h4 k_ca_h4 q169) rfl rfl rfl ?_
          obtain ⟨F5, eF5⟩ : ∃ F, f_X2_take F4.2 lf 16 = F := ⟨_, rfl⟩
          rw [eF5]
          try rw [eF5] at er
          try rw [eF5] at hp
          have bF5_1 : xB F5.1 := by rw [← eF5]; exact (B_X2_take _ _ _)
          obtain ⟨h5, eh5⟩ : ∃ z, z = hSet h4 tx (txC ca F5.2) := ⟨_, rfl⟩
          rw [← eh5]
          have k_b_h5 : nk h5 b r t W LF KF := by rw [eh5]; exact nk_fr1 (by omega) k_b_h4
          have k_tx_h5 : hAt h5 tx = some (txC ca F5.2) := by rw [eh5]; exact hAt_same
          have k_ca_h5 : hAt h5 ca = some (arC 240 lf) := by rw [eh5]; exact hAt_n (by omega) k_ca_h4
          have f_h5 : fr (fun q => (b ≤ q ∧ q < b + 15) ∨ q = tx) h h5 := by rw [eh5]; exact fr_set f_h4 (show (b ≤ tx ∧ tx < b + 15) ∨ tx = tx by omega)
          refine x_if_eq (pc := 172) (tgt := 208) dX0_readRule_172 (by decide) (fun (c5 : F5.1 = 0) => ?_) (fun (c5 : ¬ (F5.1 = 0)) => ?_)
          · rw [if_pos c5] at er
            replace hp := hp.1 c5
            refine x_iconst (pc := 208) (v := (0 : Int32)) dX0_readRule_208 (by decide) ?_
            subst er
            exact x_iret (pc := 209) dX0_readRule_209 rfl rfl rfl rfl ⟨rfl, k_b_h5, k_tx_h5, f_h5⟩
          · rw [if_neg c5] at er
            replace hp := hp.2 c5
            refine x_aload_n (pc := 175) dX0_readRule_175 rfl ?_
            refine x_getf (pc := 176) (v := .ref (b + 1)) dX0_readRule_176 xf_X0_12 (nk_nt k_b_h5) rfl ?_
            refine x_aload_n (pc := 179) dX0_readRule_179 rfl ?_
            refine x_iconst (pc := 180) (v := (0 : Int32)) dX0_readRule_180 (by decide) ?_
            refine x_sipush (pc := 181) (v := (9999 : Int32)) dX0_readRule_181 (by decide) ?_
            obtain ⟨q184, hp⟩ := hp
            refine x_cV2i (pc := 184) dX0_readRule_184 xl_X0_103 xv_X2_takeNumber k_tx_h5 rfl (C_X2_takeNumber G _ tx ca F5.2 lf (0 : Int32) (9999 : Int32) k_tx_h5 k_ca_h5 q184) rfl rfl rfl ?_
            obtain ⟨F6, eF6⟩ : ∃ F, f_X2_takeNumber F5.2 lf (0 : Int32) (9999 : Int32) = F := ⟨_, rfl⟩
            rw [eF6]
            try rw [eF6] at er
            try rw [eF6] at hp
            obtain ⟨h6, eh6⟩ : ∃ z, z = hSet h5 tx (txC ca F6.2) := ⟨_, rfl⟩
            rw [← eh6]
            have k_b_h6 : nk h6 b r t W LF KF := by rw [eh6]; exact nk_fr1 (by omega) k_b_h5
            have k_tx_h6 : hAt h6 tx = some (txC ca F6.2) := by rw [eh6]; exact hAt_same
            have k_ca_h6 : hAt h6 ca = some (arC 240 lf) := by rw [eh6]; exact hAt_n (by omega) k_ca_h5
            have f_h6 : fr (fun q => (b ≤ q ∧ q < b + 15) ∨ q = tx) h h6 := by rw [eh6]; exact fr_set f_h5 (show (b ≤ tx ∧ tx < b + 15) ∨ tx = tx by omega)
            refine x_putf (pc := 187) (e' := ruC (upd r 4 F6.1)) dX0_readRule_187 xf_X0_144 (nk_ru k_b_h6) rfl rfl rfl rfl ?_
            obtain ⟨h7, eh7⟩ : ∃ z, z = hSet h6 (b + 1) (ruC (upd r 4 F6.1)) := ⟨_, rfl⟩
            rw [← eh7]
            have k_b_h7 : nk h7 b (upd r 4 F6.1) t W LF KF := by rw [eh7]; exact nk_sru k_b_h6
            have k_tx_h7 : hAt h7 tx = some (txC ca F6.2) := by rw [eh7]; exact hAt_n (by omega) k_tx_h6
            have k_ca_h7 : hAt h7 ca = some (arC 240 lf) := by rw [eh7]; exact hAt_n (by omega) k_ca_h6
            have f_h7 : fr (fun q => (b ≤ q ∧ q < b + 15) ∨ q = tx) h h7 := by rw [eh7]; exact fr_set f_h6 (show (b ≤ (b + 1) ∧ (b + 1) < b + 15) ∨ (b + 1) = tx by omega)
            refine x_aload_n (pc := 190) dX0_readRule_190 rfl ?_
            refine x_getf (pc := 191) (v := .ref (b + 1)) dX0_readRule_191 xf_X0_12 (nk_nt k_b_h7) rfl ?_
            refine x_getf (pc := 194) (v := .int ((upd r 4 F6.1) 4)) dX0_readRule_194 xf_X0_144 (nk_ru k_b_h7) rfl ?_
            refine x_bipush (pc := 197) (v := (-4 : Int32)) dX0_readRule_197 (by decide) ?_
            obtain ⟨F7, eF7⟩ : ∃ F, (if ((upd r 4 F6.1) 4) = (-4 : Int32) then (0 : Int32) else (1 : Int32)) = F := ⟨_, rfl⟩
            try rw [eF7] at er
            try rw [eF7] at hp
            have bF7 : xB F7 := by rw [← eF7]; exact (xB_ite xB0 xB1)
            refine x_mrg (pc' := 207) (L' := [(0, .ref b), (1, .ref tx)]) (st' := [.int F7]) (h' := h7) (fun J => ?_) ?_
            · refine x_icmp_eq (pc := 199) (tgt := 206) dX0_readRule_199 (by decide) (fun (c6 : ((upd r 4 F6.1) 4) = (-4 : Int32)) => ?_) (fun (c6 : ¬ (((upd r 4 F6.1) 4) = (-4 : Int32))) => ?_)
              · refine x_iconst (pc := 206) (v := (0 : Int32)) dX0_readRule_206 (by decide) ?_
                rw [if_pos c6] at eF7
                subst eF7
                exact J
              · refine x_iconst (pc := 202) (v := (1 : Int32)) dX0_readRule_202 (by decide) ?_
                refine x_goto (pc := 203) (tgt := 207) dX0_readRule_203 (by decide) ?_
                rw [if_neg c6] at eF7
                subst eF7
                exact J
            subst er
            exact x_iret (pc := 207) dX0_readRule_207 rfl (xb_nar bF7) rfl rfl ⟨rfl, k_b_h7, k_tx_h7, f_h7⟩
        · rw [if_neg c4] at er
          replace hp := hp.2 c4
          refine x_aload_n (pc := 137) dX0_readRule_137 rfl ?_
          refine x_getf (pc := 138) (v := .ref (b + 1)) dX0_readRule_138 xf_X0_12 (nk_nt k_b_h4) rfl ?_
          refine x_aload_n (pc := 141) dX0_readRule_141 rfl ?_
          obtain ⟨q142, hp⟩ := hp
          refine x_cV0i (pc := 142) dX0_readRule_142 xl_X0_136 xv_X2_takeBelief k_tx_h4 rfl (C_X2_takeBelief G _ tx ca F4.2 lf k_tx_h4 k_ca_h4 q142) rfl rfl rfl ?_
          obtain ⟨F8, eF8⟩ : ∃ F, f_X2_takeBelief F4.2 lf = F := ⟨_, rfl⟩
          rw [eF8]
          try rw [eF8] at er
          try rw [eF8] at hp
          obtain ⟨h8, eh8⟩ : ∃ z, z = hSet h4 tx (txC ca F8.2) := ⟨_, rfl⟩
          rw [← eh8]
          have k_b_h8 : nk h8 b r t W LF KF := by rw [eh8]; exact nk_fr1 (by omega) k_b_h4
          have k_tx_h8 : hAt h8 tx = some (txC ca F8.2) := by rw [eh8]; exact hAt_same
          have k_ca_h8 : hAt h8 ca = some (arC 240 lf) := by rw [eh8]; exact hAt_n (by omega) k_ca_h4
          have f_h8 : fr (fun q => (b ≤ q ∧ q < b + 15) ∨ q = tx) h h8 := by rw [eh8]; exact fr_set f_h4 (show (b ≤ tx ∧ tx < b + 15) ∨ tx = tx by omega)
          refine x_putf (pc := 145) (e' := ruC (upd r 3 F8.1)) dX0_readRule_145 xf_X0_139 (nk_ru k_b_h8) rfl rfl rfl rfl ?_
          obtain ⟨h9, eh9⟩ : ∃ z, z = hSet h8 (b + 1) (ruC (upd r 3 F8.1)) := ⟨_, rfl⟩
          rw [← eh9]
          have k_b_h9 : nk h9 b (upd r 3 F8.1) t W LF KF := by rw [eh9]; exact nk_sru k_b_h8
          have k_tx_h9 : hAt h9 tx = some (txC ca F8.2) := by rw [eh9]; exact hAt_n (by omega) k_tx_h8
          have k_ca_h9 : hAt h9 ca = some (arC 240 lf) := by rw [eh9]; exact hAt_n (by omega) k_ca_h8
          have f_h9 : fr (fun q => (b ≤ q ∧ q < b + 15) ∨ q = tx) h h9 := by rw [eh9]; exact fr_set f_h8 (show (b ≤ (b + 1) ∧ (b + 1) < b + 15) ∨ (b + 1) = tx by omega)
          refine x_aload_n (pc := 148) dX0_readRule_148 rfl ?_
          refine x_getf (pc := 149) (v := .ref (b + 1)) dX0_readRule_149 xf_X0_12 (nk_nt k_b_h9) rfl ?_
          refine x_getf (pc := 152) (v := .int ((upd r 3 F8.1) 3)) dX0_readRule_152 xf_X0_139 (nk_ru k_b_h9) rfl ?_
          refine x_bipush (pc := 155) (v := (-4 : Int32)) dX0_readRule_155 (by decide) ?_
          obtain ⟨F9, eF9⟩ : ∃ F, (if ((upd r 3 F8.1) 3) = (-4 : Int32) then (0 : Int32) else (1 : Int32)) = F := ⟨_, rfl⟩
          try rw [eF9] at er
          try rw [eF9] at hp
          have bF9 : xB F9 := by rw [← eF9]; exact (xB_ite xB0 xB1)
          refine x_mrg (pc' := 165) (L' := [(0, .ref b), (1, .ref tx)]) (st' := [.int F9]) (h' := h9) (fun J => ?_) ?_
          · refine x_icmp_eq (pc := 157) (tgt := 164) dX0_readRule_157 (by decide) (fun (c7 : ((upd r 3 F8.1) 3) = (-4 : Int32)) => ?_) (fun (c7 : ¬ (((upd r 3 F8.1) 3) = (-4 : Int32))) => ?_)
            · refine x_iconst (pc := 164) (v := (0 : Int32)) dX0_readRule_164 (by decide) ?_
              rw [if_pos c7] at eF9
              subst eF9
              exact J
            · refine x_iconst (pc := 160) (v := (1 : Int32)) dX0_readRule_160 (by decide) ?_
              refine x_goto (pc := 161) (tgt := 165) dX0_readRule_161 (by decide) ?_
              rw [if_neg c7] at eF9
              subst eF9
              exact J
          subst er
          exact x_iret (pc := 165) dX0_readRule_165 rfl (xb_nar bF9) rfl rfl ⟨rfl, k_b_h9, k_tx_h9, f_h9⟩
      · rw [if_neg c3] at er
        replace hp := hp.2 c3
        refine x_aload_n (pc := 96) dX0_readRule_96 rfl ?_
        refine x_getf (pc := 97) (v := .ref (b + 1)) dX0_readRule_97 xf_X0_12 (nk_nt k_b_h3) rfl ?_
        refine x_aload_n (pc := 100) dX0_readRule_100 rfl ?_
        refine x_iconst (pc := 101) (v := (1 : Int32)) dX0_readRule_101 (by decide) ?_
        refine x_bipush (pc := 102) (v := (99 : Int32)) dX0_readRule_102 (by decide) ?_
        obtain ⟨q104, hp⟩ := hp
        refine x_cV2i (pc := 104) dX0_readRule_104 xl_X0_103 xv_X2_takeNumber k_tx_h3 rfl (C_X2_takeNumber G _ tx ca F3.2 lf (1 : Int32) (99 : Int32) k_tx_h3 k_ca_h3 q104) rfl rfl rfl ?_
        obtain ⟨F10, eF10⟩ : ∃ F, f_X2_takeNumber F3.2 lf (1 : Int32) (99 : Int32) = F := ⟨_, rfl⟩
        rw [eF10]
        try rw [eF10] at er
        try rw [eF10] at hp
        obtain ⟨h10, eh10⟩ : ∃ z, z = hSet h3 tx (txC ca F10.2) := ⟨_, rfl⟩
        rw [← eh10]
        have k_b_h10 : nk h10 b r t W LF KF := by rw [eh10]; exact nk_fr1 (by omega) k_b_h3
        have k_tx_h10 : hAt h10 tx = some (txC ca F10.2) := by rw [eh10]; exact hAt_same
        have k_ca_h10 : hAt h10 ca = some (arC 240 lf) := by rw [eh10]; exact hAt_n (by omega) k_ca_h3
        have f_h10 : fr (fun q => (b ≤ q ∧ q < b + 15) ∨ q = tx) h h10 := by rw [eh10]; exact fr_set f_h3 (show (b ≤ tx ∧ tx < b + 15) ∨ tx = tx by omega)
        refine x_putf (pc := 107) (e' := ruC (upd r 2 F10.1)) dX0_readRule_107 xf_X0_131 (nk_ru k_b_h10) rfl rfl rfl rfl ?_
        obtain ⟨h11, eh11⟩ : ∃ z, z = hSet h10 (b + 1) (ruC (upd r 2 F10.1)) := ⟨_, rfl⟩
        rw [← eh11]
        have k_b_h11 : nk h11 b (upd r 2 F10.1) t W LF KF := by rw [eh11]; exact nk_sru k_b_h10
        have k_tx_h11 : hAt h11 tx = some (txC ca F10.2) := by rw [eh11]; exact hAt_n (by omega) k_tx_h10
        have k_ca_h11 : hAt h11 ca = some (arC 240 lf) := by rw [eh11]; exact hAt_n (by omega) k_ca_h10
        have f_h11 : fr (fun q => (b ≤ q ∧ q < b + 15) ∨ q = tx) h h11 := by rw [eh11]; exact fr_set f_h10 (show (b ≤ (b + 1) ∧ (b + 1) < b + 15) ∨ (b + 1) = tx by omega)
        refine x_aload_n (pc := 110) dX0_readRule_110 rfl ?_
        refine x_getf (pc := 111) (v := .ref (b + 1)) dX0_readRule_111 xf_X0_12 (nk_nt k_b_h11) rfl ?_
        refine x_getf (pc := 114) (v := .int ((upd r 2 F10.1) 2)) dX0_readRule_114 xf_X0_131 (nk_ru k_b_h11) rfl ?_
        refine x_bipush (pc := 117) (v := (-4 : Int32)) dX0_readRule_117 (by decide) ?_
        obtain ⟨F11, eF11⟩ : ∃ F, (if ((upd r 2 F10.1) 2) = (-4 : Int32) then (0 : Int32) else (1 : Int32)) = F := ⟨_, rfl⟩
        try rw [eF11] at er
        try rw [eF11] at hp
        have bF11 : xB F11 := by rw [← eF11]; exact (xB_ite xB0 xB1)
        refine x_mrg (pc' := 127) (L' := [(0, .ref b), (1, .ref tx)]) (st' := [.int F11]) (h' := h11) (fun J => ?_) ?_
        · refine x_icmp_eq (pc := 119) (tgt := 126) dX0_readRule_119 (by decide) (fun (c8 : ((upd r 2 F10.1) 2) = (-4 : Int32)) => ?_) (fun (c8 : ¬ (((upd r 2 F10.1) 2) = (-4 : Int32))) => ?_)
          · refine x_iconst (pc := 126) (v := (0 : Int32)) dX0_readRule_126 (by decide) ?_
            rw [if_pos c8] at eF11
            subst eF11
            exact J
          · refine x_iconst (pc := 122) (v := (1 : Int32)) dX0_readRule_122 (by decide) ?_
            refine x_goto (pc := 123) (tgt := 127) dX0_readRule_123 (by decide) ?_
            rw [if_neg c8] at eF11
            subst eF11
            exact J
        subst er
        exact x_iret (pc := 127) dX0_readRule_127 rfl (xb_nar bF11) rfl rfl ⟨rfl, k_b_h11, k_tx_h11, f_h11⟩
    · rw [if_neg c2] at er
      replace hp := hp.2 c2
      refine x_aload_n (pc := 52) dX0_readRule_52 rfl ?_
      refine x_getf (pc := 53) (v := .ref (b + 1)) dX0_readRule_53 xf_X0_12 (nk_nt k_b_h2) rfl ?_
      refine x_aload_n (pc := 56) dX0_readRule_56 rfl ?_
      refine x_sipush (pc := 57) (v := (200 : Int32)) dX0_readRule_57 (by decide) ?_
      refine x_sipush (pc := 60) (v := (999 : Int32)) dX0_readRule_60 (by decide) ?_
      obtain ⟨q63, hp⟩ := hp
      refine x_cV2i (pc := 63) dX0_readRule_63 xl_X0_103 xv_X2_takeNumber k_tx_h2 rfl (C_X2_takeNumber G _ tx ca F2.2 lf (200 : Int32) (999 : Int32) k_tx_h2 k_ca_h2 q63) rfl rfl rfl ?_
      obtain ⟨F12, eF12⟩ : ∃ F, f_X2_takeNumber F2.2 lf (200 : Int32) (999 : Int32) = F := ⟨_, rfl⟩
      rw [eF12]
      try rw [eF12] at er
      try rw [eF12] at hp
      obtain ⟨h12, eh12⟩ : ∃ z, z = hSet h2 tx (txC ca F12.2) := ⟨_, rfl⟩
      rw [← eh12]
      have k_b_h12 : nk h12 b r t W LF KF := by rw [eh12]; exact nk_fr1 (by omega) k_b_h2
      have k_tx_h12 : hAt h12 tx = some (txC ca F12.2) := by rw [eh12]; exact hAt_same
      have k_ca_h12 : hAt h12 ca = some (arC 240 lf) := by rw [eh12]; exact hAt_n (by omega) k_ca_h2
      have f_h12 : fr (fun q => (b ≤ q ∧ q < b + 15) ∨ q = tx) h h12 := by rw [eh12]; exact fr_set f_h2 (show (b ≤ tx ∧ tx < b + 15) ∨ tx = tx by omega)
      refine x_putf (pc := 66) (e' := ruC (upd r 1 F12.1)) dX0_readRule_66 xf_X0_126 (nk_ru k_b_h12) rfl rfl rfl rfl ?_
      obtain ⟨h13, eh13⟩ : ∃ z, z = hSet h12 (b + 1) (ruC (upd r 1 F12.1)) := ⟨_, rfl⟩
      rw [← eh13]
      have k_b_h13 : nk h13 b (upd r 1 F12.1) t W LF KF := by rw [eh13]; exact nk_sru k_b_h12
      have k_tx_h13 : hAt h13 tx = some (txC ca F12.2) := by rw [eh13]; exact hAt_n (by omega) k_tx_h12
      have k_ca_h13 : hAt h13 ca = some (arC 240 lf) := by rw [eh13]; exact hAt_n (by omega) k_ca_h12
      have f_h13 : fr (fun q => (b ≤ q ∧ q < b + 15) ∨ q = tx) h h13 := by rw [eh13]; exact fr_set f_h12 (show (b ≤ (b + 1) ∧ (b + 1) < b + 15) ∨ (b + 1) = tx by omega)
      refine x_aload_n (pc := 69) dX0_readRule_69 rfl ?_
      refine x_getf (pc := 70) (v := .ref (b + 1)) dX0_readRule_70 xf_X0_12 (nk_nt k_b_h13) rfl ?_
      refine x_getf (pc := 73) (v := .int ((upd r 1 F12.1) 1)) dX0_readRule_73 xf_X0_126 (nk_ru k_b_h13) rfl ?_
      refine x_bipush (pc := 76) (v := (-4 : Int32)) dX0_readRule_76 (by decide) ?_
      obtain ⟨F13, eF13⟩ : ∃ F, (if ((upd r 1 F12.1) 1) = (-4 : Int32) then (0 : Int32) else (1 : Int32)) = F := ⟨_, rfl⟩
      try rw [eF13] at er
      try rw [eF13] at hp
      have bF13 : xB F13 := by rw [← eF13]; exact (xB_ite xB0 xB1)
      refine x_mrg (pc' := 86) (L' := [(0, .ref b), (1, .ref tx)]) (st' := [.int F13]) (h' := h13) (fun J => ?_) ?_
      · refine x_icmp_eq (pc := 78) (tgt := 85) dX0_readRule_78 (by decide) (fun (c9 : ((upd r 1 F12.1) 1) = (-4 : Int32)) => ?_) (fun (c9 : ¬ (((upd r 1 F12.1) 1) = (-4 : Int32))) => ?_)
        · refine x_iconst (pc := 85) (v := (0 : Int32)) dX0_readRule_85 (by decide) ?_
          rw [if_pos c9] at eF13
          subst eF13
          exact J
        · refine x_iconst (pc := 81) (v := (1 : Int32)) dX0_readRule_81 (by decide) ?_
          refine x_goto (pc := 82) (tgt := 86) dX0_readRule_82 (by decide) ?_
          rw [if_neg c9] at eF13
          subst eF13
          exact J
      subst er
      exact x_iret (pc := 86) dX0_readRule_86 rfl (xb_nar bF13) rfl rfl ⟨rfl, k_b_h13, k_tx_h13, f_h13⟩
  · rw [if_neg c1] at er
    replace hp := hp.2 c1
    refine x_aload_n (pc := 9) dX0_readRule_9 rfl ?_
    refine x_getf (pc := 10) (v := .ref (b + 1)) dX0_readRule_10 xf_X0_12 (nk_nt k_b_h1) rfl ?_
    refine x_aload_n (pc := 13) dX0_readRule_13 rfl ?_
    refine x_bipush (pc := 14) (v := (20 : Int32)) dX0_readRule_14 (by decide) ?_
    refine x_sipush (pc := 16) (v := (200 : Int32)) dX0_readRule_16 (by decide) ?_
    obtain ⟨q19, hp⟩ := hp
    refine x_cV2i (pc := 19) dX0_readRule_19 xl_X0_103 xv_X2_takeNumber k_tx_h1 rfl (C_X2_takeNumber G _ tx ca F1.2 lf (20 : Int32) (200 : Int32) k_tx_h1 k_ca_h1 q19) rfl rfl rfl ?_
    obtain ⟨F14, eF14⟩ : ∃ F, f_X2_takeNumber F1.2 lf (20 : Int32) (200 : Int32) = F := ⟨_, rfl⟩
    rw [eF14]
    try rw [eF14] at er
    try rw [eF14] at hp
    obtain ⟨h14, eh14⟩ : ∃ z, z = hSet h1 tx (txC ca F14.2) := ⟨_, rfl⟩
    rw [← eh14]
    have k_b_h14 : nk h14 b r t W LF KF := by rw [eh14]; exact nk_fr1 (by omega) k_b_h1
    have k_tx_h14 : hAt h14 tx = some (txC ca F14.2) := by rw [eh14]; exact hAt_same
    have k_ca_h14 : hAt h14 ca = some (arC 240 lf) := by rw [eh14]; exact hAt_n (by omega) k_ca_h1
    have f_h14 : fr (fun q => (b ≤ q ∧ q < b + 15) ∨ q = tx) h h14 := by rw [eh14]; exact fr_set f_h1 (show (b ≤ tx ∧ tx < b + 15) ∨ tx = tx by omega)
    refine x_putf (pc := 22) (e' := ruC (upd r 0 F14.1)) dX0_readRule_22 xf_X0_121 (nk_ru k_b_h14) rfl rfl rfl rfl ?_
    obtain ⟨h15, eh15⟩ : ∃ z, z = hSet h14 (b + 1) (ruC (upd r 0 F14.1)) := ⟨_, rfl⟩
    rw [← eh15]
    have k_b_h15 : nk h15 b (upd r 0 F14.1) t W LF KF := by rw [eh15]; exact nk_sru k_b_h14
    have k_tx_h15 : hAt h15 tx = some (txC ca F14.2) := by rw [eh15]; exact hAt_n (by omega) k_tx_h14
    have k_ca_h15 : hAt h15 ca = some (arC 240 lf) := by rw [eh15]; exact hAt_n (by omega) k_ca_h14
    have f_h15 : fr (fun q => (b ≤ q ∧ q < b + 15) ∨ q = tx) h h15 := by rw [eh15]; exact fr_set f_h14 (show (b ≤ (b + 1) ∧ (b + 1) < b + 15) ∨ (b + 1) = tx by omega)
    refine x_aload_n (pc := 25) dX0_readRule_25 rfl ?_
    refine x_getf (pc := 26) (v := .ref (b + 1)) dX0_readRule_26 xf_X0_12 (nk_nt k_b_h15) rfl ?_
    refine x_getf (pc := 29) (v := .int ((upd r 0 F14.1) 0)) dX0_readRule_29 xf_X0_121 (nk_ru k_b_h15) rfl ?_
    refine x_bipush (pc := 32) (v := (-4 : Int32)) dX0_readRule_32 (by decide) ?_
    obtain ⟨F15, eF15⟩ : ∃ F, (if ((upd r 0 F14.1) 0) = (-4 : Int32) then (0 : Int32) else (1 : Int32)) = F := ⟨_, rfl⟩
    try rw [eF15] at er
    try rw [eF15] at hp
    have bF15 : xB F15 := by rw [← eF15]; exact (xB_ite xB0 xB1)
    refine x_mrg (pc' := 42) (L' := [(0, .ref b), (1, .ref tx)]) (st' := [.int F15]) (h' := h15) (fun J => ?_) ?_
    · refine x_icmp_eq (pc := 34) (tgt := 41) dX0_readRule_34 (by decide) (fun (c10 : ((upd r 0 F14.1) 0) = (-4 : Int32)) => ?_) (fun (c10 : ¬ (((upd r 0 F14.1) 0) = (-4 : Int32))) => ?_)
      · refine x_iconst (pc := 41) (v := (0 : Int32)) dX0_readRule_41 (by decide) ?_
        rw [if_pos c10] at eF15
        subst eF15
        exact J
      · refine x_iconst (pc := 37) (v := (1 : Int32)) dX0_readRule_37 (by decide) ?_
        refine x_goto (pc := 38) (tgt := 42) dX0_readRule_38 (by decide) ?_
        rw [if_neg c10] at eF15
        subst eF15
        exact J
    subst er
    exact x_iret (pc := 42) dX0_readRule_42 rfl (xb_nar bF15) rfl rfl ⟨rfl, k_b_h15, k_tx_h15, f_h15⟩

def f_X0_readItem (r : (Nat → Int32)) (t : (Nat → Int32)) (W : (Nat → Nat → Int32)) (LF : (Nat → Nat → Int32)) (KF : (Nat → Nat → Int32)) (x : (Nat → Int32)) (lf : (Nat → Int32)) : Int32 × (Nat → Int32) × (Nat → Int32) × (Nat → Nat → Int32) × (Nat → Nat → Int32) × (Nat → Nat → Int32) × (Nat → Int32) := (if (f_X2_take x lf 1).1 = 0 then (if (f_X2_take (f_X2_take x lf 1).2 lf 2).1 = 0 then (if (f_X2_take (f_X2_take (f_X2_take x lf 1).2 lf 2).2 lf 8).1 = 0 then ((f_X0_readRule r t W LF KF (f_X2_take (f_X2_take (f_X2_take x lf 1).2 lf 2).2 lf 8).2 lf).1, (f_X0_readRule r t W LF KF (f_X2_take (f_X2_take (f_X2_take x lf 1).2 lf 2).2 lf 8).2 lf).2.1, t, W, LF, KF, (f_X0_readRule r t W LF KF (f_X2_take (f_X2_take (f_X2_take x lf 1).2 lf 2).2 lf 8).2 lf).2.2) else ((f_X0_readLoss r t W LF KF (f_X2_take (f_X2_take (f_X2_take x lf 1).2 lf 2).2 lf 8).2 lf).1, r, t, (f_X0_readLoss r t W LF KF (f_X2_take (f_X2_take (f_X2_take x lf 1).2 lf 2).2 lf 8).2 lf).2.1, LF, KF, (f_X0_readLoss r t W LF KF (f_X2_take (f_X2_take (f_X2_take x lf 1).2 lf 2).2 lf 8).2 lf).2.2)) else ((f_X0_readHop r t W LF KF (f_X2_take (f_X2_take x lf 1).2 lf 2).2 lf).1, r, t, (f_X0_readHop r t W LF KF (f_X2_take (f_X2_take x lf 1).2 lf 2).2 lf).2.1, (f_X0_readHop r t W LF KF (f_X2_take (f_X2_take x lf 1).2 lf 2).2 lf).2.2.1, (f_X0_readHop r t W LF KF (f_X2_take (f_X2_take x lf 1).2 lf 2).2 lf).2.2.2.1, (f_X0_readHop r t W LF KF (f_X2_take (f_X2_take x lf 1).2 lf 2).2 lf).2.2.2.2)) else ((f_X0_addWay r t W LF KF).1, r, (f_X0_addWay r t W LF KF).2.1, (f_X0_addWay r t W LF KF).2.2, LF, KF, (f_X2_take x lf 1).2))
def p_X0_readItem (r : (Nat → Int32)) (t : (Nat → Int32)) (W : (Nat → Nat → Int32)) (LF : (Nat → Nat → Int32)) (KF : (Nat → Nat → Int32)) (x : (Nat → Int32)) (lf : (Nat → Int32)) : Prop := (p_X2_take x lf 1 ∧ (((f_X2_take x lf 1).1 = 0 → (p_X2_take (f_X2_take x lf 1).2 lf 2 ∧ (((f_X2_take (f_X2_take x lf 1).2 lf 2).1 = 0 → (p_X2_take (f_X2_take (f_X2_take x lf 1).2 lf 2).2 lf 8 ∧ (((f_X2_take (f_X2_take (f_X2_take x lf 1).2 lf 2).2 lf 8).1 = 0 → (p_X0_readRule r t W LF KF (f_X2_take (f_X2_take (f_X2_take x lf 1).2 lf 2).2 lf 8).2 lf ∧ True)) ∧ (¬ ((f_X2_take (f_X2_take (f_X2_take x lf 1).2 lf 2).2 lf 8).1 = 0) → (p_X0_readLoss r t W LF KF (f_X2_take (f_X2_take (f_X2_take x lf 1).2 lf 2).2 lf 8).2 lf ∧ True))))) ∧ (¬ ((f_X2_take (f_X2_take x lf 1).2 lf 2).1 = 0) → (p_X0_readHop r t W LF KF (f_X2_take (f_X2_take x lf 1).2 lf 2).2 lf ∧ True))))) ∧ (¬ ((f_X2_take x lf 1).1 = 0) → (p_X0_addWay r t W LF KF ∧ True))))
theorem B_X0_readItem (r : (Nat → Int32)) (t : (Nat → Int32)) (W : (Nat → Nat → Int32)) (LF : (Nat → Nat → Int32)) (KF : (Nat → Nat → Int32)) (x : (Nat → Int32)) (lf : (Nat → Int32)) : xB (f_X0_readItem r t W LF KF x lf).1 := by
  unfold f_X0_readItem
  exact (xB_ite1 (xB_ite1 (xB_ite1 (xB_fst (B_X0_readRule _ _ _ _ _ _ _)) (xB_fst (B_X0_readLoss _ _ _ _ _ _ _))) (xB_fst (B_X0_readHop _ _ _ _ _ _ _))) (xB_fst (B_X0_addWay _ _ _ _ _)))
set_option maxRecDepth 100000 in
set_option maxHeartbeats 4000000 in
theorem C_X0_readItem (G : xG) (h : xH) (b tx ca : Nat) (r : (Nat → Int32)) (t : (Nat → Int32)) (W : (Nat → Nat → Int32)) (LF : (Nat → Nat → Int32)) (KF : (Nat → Nat → Int32)) (x : (Nat → Int32)) (lf : (Nat → Int32)) (k_b : nk h b r t W LF KF) (k_tx : hAt h tx = some (txC ca x)) (k_ca : hAt h ca = some (arC 240 lf)) (o0 : tx < b ∨ b + 15 ≤ tx) (o1 : ca < b ∨ b + 15 ≤ ca) (hp : p_X0_readItem r t W LF KF x lf) : Ct G 7 0 0 yX0_readItem cX0_readItem 2 (some .boolean) [.ref b, .ref tx] h (fun v' h' => v' = (some (.int (f_X0_readItem r t W LF KF x lf).1)) ∧ (nk h' b (f_X0_readItem r t W LF KF x lf).2.1 (f_X0_readItem r t W LF KF x lf).2.2.1 (f_X0_readItem r t W LF KF x lf).2.2.2.1 (f_X0_readItem r t W LF KF x lf).2.2.2.2.1 (f_X0_readItem r t W LF KF x lf).2.2.2.2.2.1) ∧ (hAt h' tx = some (txC ca (f_X0_readItem r t W LF KF x lf).2.2.2.2.2.2)) ∧ fr (fun q => (b ≤ q ∧ q < b + 15) ∨ q = tx) h h') := by
  have u_0_1 : tx ≠ ca := hne_k k_tx k_ca rfl
  refine Ct.of (by decide) (by rfl) ?_
  refine Wp.eqs (L' := [(0, .ref b), (1, .ref tx)]) (st' := []) rfl rfl ?_
  obtain ⟨R, er⟩ : ∃ R, f_X0_readItem r t W LF KF x lf = R := ⟨_, rfl⟩
  rw [er]
  unfold f_X0_readItem at er
  unfold p_X0_readItem at hp
  refine x_aload_n (pc := 0) dX0_readItem_0 rfl ?_
  refine x_ldcS (pc := 1) (i := 1) (tx := "way") dX0_readItem_1 rfl ?_
  obtain ⟨q3, hp⟩ := hp
  refine x_cV1i (pc := 3) dX0_readItem_3 xl_X0_74 xv_X2_take k_tx rfl (C_X2_take G _ tx ca x lf 1 k_tx k_ca q3) rfl rfl rfl ?_
  obtain ⟨F1, eF1⟩ : ∃ F, f_X2_take x lf 1 = F := ⟨_, rfl⟩
  rw [eF1]
  try rw [eF1] at er
  try rw [eF1] at hp
  have bF1_1 : xB F1.1 := by rw [← eF1]; exact (B_X2_take _ _ _)
  obtain ⟨h1, eh1⟩ : ∃ z, z = hSet h tx (txC ca F1.2) := ⟨_, rfl⟩
  rw [← eh1]
  have k_b_h1 : nk h1 b r t W LF KF := by rw [eh1]; exact nk_fr1 (by omega) k_b
  have k_tx_h1 : hAt h1 tx = some (txC ca F1.2) := by rw [eh1]; exact hAt_same
  have k_ca_h1 : hAt h1 ca = some (arC 240 lf) := by rw [eh1]; exact hAt_n (by omega) k_ca
  have f_h1 : fr (fun q => (b ≤ q ∧ q < b + 15) ∨ q = tx) h h1 := by rw [eh1]; exact fr_set fr_refl (show (b ≤ tx ∧ tx < b + 15) ∨ tx = tx by omega)
  refine x_if_eq (pc := 6) (tgt := 14) dX0_readItem_6 (by decide) (fun (c1 : F1.1 = 0) => ?_) (fun (c1 : ¬ (F1.1 = 0)) => ?_)
  · rw [if_pos c1] at er
    replace hp := hp.1 c1
    refine x_aload_n (pc := 14) dX0_readItem_14 rfl ?_
    refine x_ldcS (pc := 15) (i := 2) (tx := "hop ") dX0_readItem_15 rfl ?_
    obtain ⟨q17, hp⟩ := hp
    refine x_cV1i (pc := 17) dX0_readItem_17 xl_X0_74 xv_X2_take k_tx_h1 rfl (C_X2_take G _ tx ca F1.2 lf 2 k_tx_h1 k_ca_h1 q17) rfl rfl rfl ?_
    obtain ⟨F2, eF2⟩ : ∃ F, f_X2_take F1.2 lf 2 = F := ⟨_, rfl⟩
    rw [eF2]
    try rw [eF2] at er
    try rw [eF2] at hp
    have bF2_1 : xB F2.1 := by rw [← eF2]; exact (B_X2_take _ _ _)
    obtain ⟨h2, eh2⟩ : ∃ z, z = hSet h1 tx (txC ca F2.2) := ⟨_, rfl⟩
    rw [← eh2]
    have k_b_h2 : nk h2 b r t W LF KF := by rw [eh2]; exact nk_fr1 (by omega) k_b_h1
    have k_tx_h2 : hAt h2 tx = some (txC ca F2.2) := by rw [eh2]; exact hAt_same
    have k_ca_h2 : hAt h2 ca = some (arC 240 lf) := by rw [eh2]; exact hAt_n (by omega) k_ca_h1
    have f_h2 : fr (fun q => (b ≤ q ∧ q < b + 15) ∨ q = tx) h h2 := by rw [eh2]; exact fr_set f_h1 (show (b ≤ tx ∧ tx < b + 15) ∨ tx = tx by omega)
    refine x_if_eq (pc := 20) (tgt := 29) dX0_readItem_20 (by decide) (fun (c2 : F2.1 = 0) => ?_) (fun (c2 : ¬ (F2.1 = 0)) => ?_)
    · rw [if_pos c2] at er
      replace hp := hp.1 c2
      refine x_aload_n (pc := 29) dX0_readItem_29 rfl ?_
      refine x_ldcS (pc := 30) (i := 8) (tx := "loss ") dX0_readItem_30 rfl ?_
      obtain ⟨q32, hp⟩ := hp
      refine x_cV1i (pc := 32) dX0_readItem_32 xl_X0_74 xv_X2_take k_tx_h2 rfl (C_X2_take G _ tx ca F2.2 lf 8 k_tx_h2 k_ca_h2 q32) rfl rfl rfl ?_
      obtain ⟨F3, eF3⟩ : ∃ F, f_X2_take F2.2 lf 8 = F := ⟨_, rfl⟩
      rw [eF3]
      try rw [eF3] at er
      try rw [eF3] at hp
      have bF3_1 : xB F3.1 := by rw [← eF3]; exact (B_X2_take _ _ _)
      obtain ⟨h3, eh3⟩ : ∃ z, z = hSet h2 tx (txC ca F3.2) := ⟨_, rfl⟩
      rw [← eh3]
      have k_b_h3 : nk h3 b r t W LF KF := by rw [eh3]; exact nk_fr1 (by omega) k_b_h2
      have k_tx_h3 : hAt h3 tx = some (txC ca F3.2) := by rw [eh3]; exact hAt_same
      have k_ca_h3 : hAt h3 ca = some (arC 240 lf) := by rw [eh3]; exact hAt_n (by omega) k_ca_h2
      have f_h3 : fr (fun q => (b ≤ q ∧ q < b + 15) ∨ q = tx) h h3 := by rw [eh3]; exact fr_set f_h2 (show (b ≤ tx ∧ tx < b + 15) ∨ tx = tx by omega)
      refine x_if_eq (pc := 35) (tgt := 44) dX0_readItem_35 (by decide) (fun (c3 : F3.1 = 0) => ?_) (fun (c3 : ¬ (F3.1 = 0)) => ?_)
      · rw [if_pos c3] at er
        replace hp := hp.1 c3
        refine x_aload_n (pc := 44) dX0_readItem_44 rfl ?_
        refine x_aload_n (pc := 45) dX0_readItem_45 rfl ?_
        obtain ⟨q46, hp⟩ := hp
        refine x_cVQ (pc := 46) (As := [.ref tx]) (rest := []) dX0_readItem_46 xl_X0_97 xv_X0_readRule (nk_nt k_b_h3) rfl rfl rfl rfl rfl rfl (C_X0_readRule G _ b tx ca r t W LF KF F3.2 lf k_b_h3 k_tx_h3 k_ca_h3 (by omega) (by omega) q46) (fun v h4 hq => ?_)
        obtain ⟨ev, z0_h4, z1_h4, g_h4⟩ := hq
        subst ev
        refine Wp.eqs (L' := [(0, .ref b), (1, .ref tx)]) (st' := [.int (f_X0_readRule r t W LF KF F3.2 lf).1]) rfl rfl ?_
        obtain ⟨F4, eF4⟩ : ∃ F, f_X0_readRule r t W LF KF F3.2 lf = F := ⟨_, rfl⟩
        try rw [eF4] at er
        try rw [eF4] at hp
        try rw [eF4]
        try rw [eF4] at z0_h4
        try rw [eF4] at z1_h4
        have bF4_1 : xB F4.1 := by rw [← eF4]; exact (B_X0_readRule _ _ _ _ _ _ _)
        have k_b_h4 : nk h4 b F4.2.1 t W LF KF := z0_h4
        have k_tx_h4 : hAt h4 tx = some (txC ca F4.2.2) := z1_h4
        have k_ca_h4 : hAt h4 ca = some (arC 240 lf) := (g_h4.2 ca (show ¬ ((b ≤ ca ∧ ca < b + 15) ∨ ca = tx) by omega)).trans k_ca_h3
        have f_h4 : fr (fun q => (b ≤ q ∧ q < b + 15) ∨ q = tx) h h4 := fr_trans f_h3 (fr_mono (fun q (u : (b ≤ q ∧ q < b + 15) ∨ q = tx) => show (b ≤ q ∧ q < b + 15) ∨ q = tx by omega) g_h4)
        subst er
        exact x_iret (pc := 49) dX0_readItem_49 rfl (xb_nar bF4_1) rfl rfl ⟨rfl, k_b_h4, k_tx_h4, f_h4⟩
      · rw [if_neg c3] at er
        replace hp := hp.2 c3
        refine x_aload_n (pc := 38) dX0_readItem_38 rfl ?_
        refine x_aload_n (pc := 39) dX0_readItem_39 rfl ?_
        obtain ⟨q40, hp⟩ := hp
        refine x_cVQ (pc := 40) (As := [.ref tx]) (rest := []) dX0_readItem_40 xl_X0_94 xv_X0_readLoss (nk_nt k_b_h3) rfl rfl rfl rfl rfl rfl (C_X0_readLoss G _ b tx ca r t W LF KF F3.2 lf k_b_h3 k_tx_h3 k_ca_h3 (by omega) (by omega) q40) (fun v h5 hq => ?_)
        obtain ⟨ev, z0_h5, z1_h5, g_h5⟩ := hq
        subst ev
        refine Wp.eqs (L' := [(0, .ref b), (1, .ref tx)]) (st' := [.int (f_X0_readLoss r t W LF KF F3.2 lf).1]) rfl rfl ?_
        obtain ⟨F5, eF5⟩ : ∃ F, f_X0_readLoss r t W LF KF F3.2 lf = F := ⟨_, rfl⟩
        try rw [eF5] at er
        try rw [eF5] at hp
        try rw [eF5]
        try rw [eF5] at z0_h5
        try rw [eF5] at z1_h5
        have bF5_1 : xB F5.1 := by rw [← eF5]; exact (B_X0_readLoss _ _ _ _ _ _ _)
        have k_b_h5 : nk h5 b r t F5.2.1 LF KF := z0_h5
        have k_tx_h5 : hAt h5 tx = some (txC ca F5.2.2) := z1_h5
        have k_ca_h5 : hAt h5 ca = some (arC 240 lf) := (g_h5.2 ca (show ¬ ((b ≤ ca ∧ ca < b + 15) ∨ ca = tx) by omega)).trans k_ca_h3
        have f_h5 : fr (fun q => (b ≤ q ∧ q < b + 15) ∨ q = tx) h h5 := fr_trans f_h3 (fr_mono (fun q (u : (b ≤ q ∧ q < b + 15) ∨ q = tx) => show (b ≤ q ∧ q < b + 15) ∨ q = tx by omega) g_h5)
        subst er
        exact x_iret (pc := 43) dX0_readItem_43 rfl (xb_nar bF5_1) rfl rfl ⟨rfl, k_b_h5, k_tx_h5, f_h5⟩
    · rw [if_neg c2] at er
      replace hp := hp.2 c2
      refine x_aload_n (pc := 23) dX0_readItem_23 rfl ?_
      refine x_aload_n (pc := 24) dX0_readItem_24 rfl ?_
      obtain ⟨q25, hp⟩ := hp
      refine x_cVQ (pc := 25) (As := [.ref tx]) (rest := []) dX0_readItem_25 xl_X0_89 xv_X0_readHop (nk_nt k_b_h2) rfl rfl rfl rfl rfl rfl (C_X0_readHop G _ b tx ca r t W LF KF F2.2 lf k_b_h2 k_tx_h2 k_ca_h2 (by omega) (by omega) q25) (fun v h6 hq => ?_)
      obtain ⟨ev, z0_h6, z1_h6, g_h6⟩ := hq
      subst ev
      refine Wp.eqs (L' := [(0, .ref b), (1, .ref tx)]) (st' := [.int (f_X0_readHop r t W LF KF F2.2 lf).1]) rfl rfl ?_
      obtain ⟨F6, eF6⟩ : ∃ F, f_X0_readHop r t W LF KF F2.2 lf = F := ⟨_, rfl⟩
      try rw [eF6] at er
      try rw [eF6] at hp
      try rw [eF6]
      try rw [eF6] at z0_h6
      try rw [eF6] at z1_h6
      have bF6_1 : xB F6.1 := by rw [← eF6]; exact (B_X0_readHop _ _ _ _ _ _ _)
      have k_b_h6 : nk h6 b r t F6.2.1 F6.2.2.1 F6.2.2.2.1 := z0_h6
      have k_tx_h6 : hAt h6 tx = some (txC ca F6.2.2.2.2) := z1_h6
      have k_ca_h6 : hAt h6 ca = some (arC 240 lf) := (g_h6.2 ca (show ¬ ((b ≤ ca ∧ ca < b + 15) ∨ ca = tx) by omega)).trans k_ca_h2
      have f_h6 : fr (fun q => (b ≤ q ∧ q < b + 15) ∨ q = tx) h h6 := fr_trans f_h2 (fr_mono (fun q (u : (b ≤ q ∧ q < b + 15) ∨ q = tx) => show (b ≤ q ∧ q < b + 15) ∨ q = tx by omega) g_h6)
      subst er
      exact x_iret (pc := 28) dX0_readItem_28 rfl (xb_nar bF6_1) rfl rfl ⟨rfl, k_b_h6, k_tx_h6, f_h6⟩
  · rw [if_neg c1] at er
    replace hp := hp.2 c1
    refine x_aload_n (pc := 9) dX0_readItem_9 rfl ?_
    obtain ⟨q10, hp⟩ := hp
    refine x_cVQ (pc := 10) (As := []) (rest := []) dX0_readItem_10 xl_X0_83 xv_X0_addWay (nk_nt k_b_h1) rfl rfl rfl rfl rfl rfl (C_X0_addWay G _ b r t W LF KF k_b_h1 q10) (fun v h7 hq => ?_)
    obtain ⟨ev, z0_h7, g_h7⟩ := hq
    subst ev
    refine Wp.eqs (L' := [(0, .ref b), (1, .ref tx)]) (st' := [.int (f_X0_addWay r t W LF KF).1]) rfl rfl ?_
    obtain ⟨F7, eF7⟩ : ∃ F, f_X0_addWay r t W LF KF = F := ⟨_, rfl⟩
    try rw [eF7] at er
    try rw [eF7] at hp
    try rw [eF7]
    try rw [eF7] at z0_h7
    have bF7_1 : xB F7.1 := by rw [← eF7]; exact (B_X0_addWay _ _ _ _ _)
    have k_b_h7 : nk h7 b r F7.2.1 F7.2.2 LF KF := z0_h7
    have k_tx_h7 : hAt h7 tx = some (txC ca F1.2) := (g_h7.2 tx (show ¬ ((b ≤ tx ∧ tx < b + 15)) by omega)).trans k_tx_h1
    have k_ca_h7 : hAt h7 ca = some (arC 240 lf) := (g_h7.2 ca (show ¬ ((b ≤ ca ∧ ca < b + 15)) by omega)).trans k_ca_h1
    have f_h7 : fr (fun q => (b ≤ q ∧ q < b + 15) ∨ q = tx) h h7 := fr_trans f_h1 (fr_mono (fun q (u : (b ≤ q ∧ q < b + 15)) => show (b ≤ q ∧ q < b + 15) ∨ q = tx by omega) g_h7)
    subst er
    exact x_iret (pc := 13) dX0_readItem_13 rfl (xb_nar bF7_1) rfl rfl ⟨rfl, k_b_h7, k_tx_h7, f_h7⟩

def l_X0_read_74 : Nat → (Nat → Int32) → (Nat → Int32) → (Nat → Nat → Int32) → (Nat → Nat → Int32) → (Nat → Nat → Int32) → (Nat → Int32) → (Nat → Int32) → (Nat → Int32) → (Nat → Int32) → (Nat → Nat → Int32) → (Nat → Nat → Int32) → (Nat → Nat → Int32) → (Nat → Int32) → Int32 → (Nat → Int32) × (Nat → Int32) × (Nat → Nat → Int32) × (Nat → Nat → Int32) × (Nat → Nat → Int32) × (Nat → Int32) × Int32
  | 0, _, _, _, _, _, _, _, _, _, _, _, _, _, _ => ((fun _ => 0), (fun _ => 0), (fun _ _ => 0), (fun _ _ => 0), (fun _ _ => 0), (fun _ => 0), 0)
  | n + 1, r, t, W, LF, KF, x, lf, x_b_r, x_b_t, x_b_W, x_b_LF, x_b_KF, x_tx, v2 => (if (x_b_t 0) ≤ v2 then (x_b_r, x_b_t, x_b_W, x_b_LF, x_b_KF, x_tx, v2) else (l_X0_read_74 n r t W LF KF x lf x_b_r x_b_t (va_up x_b_W (v2.toNatClampNeg) (f_X3_begin (x_b_W (v2.toNatClampNeg)) x_b_r)) x_b_LF x_b_KF x_tx (v2 + (1 : Int32))))
def q_X0_read_74 : Nat → (Nat → Int32) → (Nat → Int32) → (Nat → Nat → Int32) → (Nat → Nat → Int32) → (Nat → Nat → Int32) → (Nat → Int32) → (Nat → Int32) → (Nat → Int32) → (Nat → Int32) → (Nat → Nat → Int32) → (Nat → Nat → Int32) → (Nat → Nat → Int32) → (Nat → Int32) → Int32 → Prop
  | 0, _, _, _, _, _, _, _, _, _, _, _, _, _, _ => False
  | n + 1, r, t, W, LF, KF, x, lf, x_b_r, x_b_t, x_b_W, x_b_LF, x_b_KF, x_tx, v2 => (((x_b_t 0) ≤ v2 → True) ∧ (¬ ((x_b_t 0) ≤ v2) → (vp_in v2 4 ∧ (q_X0_read_74 n r t W LF KF x lf x_b_r x_b_t (va_up x_b_W (v2.toNatClampNeg) (f_X3_begin (x_b_W (v2.toNatClampNeg)) x_b_r)) x_b_LF x_b_KF x_tx (v2 + (1 : Int32))))))
set_option maxRecDepth 100000 in
set_option maxHeartbeats 4000000 in
theorem L_X0_read_74 (G : xG) (h : xH) (b tx ca : Nat) (r : (Nat → Int32)) (t : (Nat → Int32)) (W : (Nat → Nat → Int32)) (LF : (Nat → Nat → Int32)) (KF : (Nat → Nat → Int32)) (x : (Nat → Int32)) (lf : (Nat → Int32)) (k_b : nk h b r t W LF KF) (k_tx : hAt h tx = some (txC ca x)) (k_ca : hAt h ca = some (arC 240 lf)) (o0 : tx < b ∨ b + 15 ≤ tx) (o1 : ca < b ∨ b + 15 ≤ ca) {Z : xZ} : ∀ (n : Nat) (x_b_r : (Nat → Int32)) (x_b_t : (Nat → Int32)) (x_b_W : (Nat → Nat → Int32)) (x_b_LF : (Nat → Nat → Int32)) (x_b_KF : (Nat → Nat → Int32)) (x_tx : (Nat → Int32)) (v2 : Int32), ∀ (hh : xH), q_X0_read_74 n r t W LF KF x lf x_b_r x_b_t x_b_W x_b_LF x_b_KF x_tx v2 → nk hh b x_b_r x_b_t x_b_W x_b_LF x_b_KF → hAt hh tx = some (txC ca x_tx) → hAt hh ca = some (arC 240 lf) → fr (fun q => (b ≤ q ∧ q < b + 15) ∨ q = tx) h hh → (∀ h2 : xH, nk h2 b (l_X0_read_74 n r t W LF KF x lf x_b_r x_b_t x_b_W x_b_LF x_b_KF x_tx v2).1 (l_X0_read_74 n r t W LF KF x lf x_b_r x_b_t x_b_W x_b_LF x_b_KF x_tx v2).2.1 (l_X0_read_74 n r t W LF KF x lf x_b_r x_b_t x_b_W x_b_LF x_b_KF x_tx v2).2.2.1 (l_X0_read_74 n r t W LF KF x lf x_b_r x_b_t x_b_W x_b_LF x_b_KF x_tx v2).2.2.2.1 (l_X0_read_74 n r t W LF KF x lf x_b_r x_b_t x_b_W x_b_LF x_b_KF x_tx v2).2.2.2.2.1 → hAt h2 tx = some (txC ca (l_X0_read_74 n r t W LF KF x lf x_b_r x_b_t x_b_W x_b_LF x_b_KF x_tx v2).2.2.2.2.2.1) → hAt h2 ca = some (arC 240 lf) → fr (fun q => (b ≤ q ∧ q < b + 15) ∨ q = tx) h h2 → Wp G yX0_read.cls cX0_read 4 yX0_read.name (some .int) (xR 8 0 0) Z 0 0 101 [(2, .int (l_X0_read_74 n r t W LF KF x lf x_b_r x_b_t x_b_W x_b_LF x_b_KF x_tx v2).2.2.2.2.2.2), (0, .ref b), (1, .ref tx)] [] h2) → Wp G yX0_read.cls cX0_read 4 yX0_read.name (some .int) (xR 8 0 0) Z 0 0 74 [(2, .int v2), (0, .ref b), (1, .ref tx)] [] hh := by
  have u_0_1 : tx ≠ ca := hne_k k_tx k_ca rfl
  intro n
  induction n with
  | zero => intro x_b_r x_b_t x_b_W x_b_LF x_b_KF x_tx v2 hh hp; exact absurd hp id
  | succ n ih =>
    intro x_b_r x_b_t x_b_W x_b_LF x_b_KF x_tx v2 hh hp k_b_hh k_tx_hh k_ca_hh f_hh kk
    obtain ⟨R, er⟩ : ∃ R, l_X0_read_74 (n + 1) r t W LF KF x lf x_b_r x_b_t x_b_W x_b_LF x_b_KF x_tx v2 = R := ⟨_, rfl⟩
    rw [er] at kk
    rw [l_X0_read_74] at er
    rw [q_X0_read_74] at hp
    refine x_iload_n (pc := 74) dX0_read_74 rfl ?_
    refine x_aload_n (pc := 75) dX0_read_75 rfl ?_
    refine x_getf (pc := 76) (v := .int (x_b_t 0)) dX0_read_76 xf_X0_29 (nk_nt k_b_hh) rfl ?_
    refine x_icmp_ge (pc := 79) (tgt := 101) dX0_read_79 (by decide) (fun (c2 : (x_b_t 0) ≤ v2) => ?_) (fun (c2 : ¬ ((x_b_t 0) ≤ v2)) => ?_)
    · rw [if_pos c2] at er
      replace hp := hp.1 c2
      subst er
      exact kk hh k_b_hh k_tx_hh k_ca_hh f_hh
    · rw [if_neg c2] at er
      replace hp := hp.2 c2
      refine x_aload_n (pc := 82) dX0_read_82 rfl ?_
      refine x_getf (pc := 83) (v := .ref (b + 2)) dX0_read_83 xf_X0_20 (nk_nt k_b_hh) rfl ?_
      refine x_iload_n (pc := 86) dX0_read_86 rfl ?_
      obtain ⟨q87, hp⟩ := hp
      have hj4 : (v2.toNatClampNeg) < 4 := vp_lt q87
      refine x_aald (pc := 87) (t := 3) (Cn := RX3) (b := (b + 3 + 3 * (v2.toNatClampNeg))) rfl dX0_read_87 (nk_wy k_b_hh) q87 rfl ?_
      refine x_aload_n (pc := 88) dX0_read_88 rfl ?_
      refine x_getf (pc := 89) (v := .ref (b + 1)) dX0_read_89 xf_X0_12 (nk_nt k_b_hh) rfl ?_
      refine x_cV1v (pc := 92) dX0_read_92 xl_X0_78 xv_X3_begin (nk_wa k_b_hh hj4) rfl (C_X3_begin G _ (b + 3 + 3 * (v2.toNatClampNeg)) (b + 1) (b + 4 + 3 * (v2.toNatClampNeg)) (b + 5 + 3 * (v2.toNatClampNeg)) (x_b_W (v2.toNatClampNeg)) x_b_r (nk_wa k_b_hh hj4) (nk_ru k_b_hh)) rfl rfl rfl ?_
      obtain ⟨F8, eF8⟩ : ∃ F, f_X3_begin (x_b_W (v2.toNatClampNeg)) x_b_r = F := ⟨_, rfl⟩
      rw [eF8]
      try rw [eF8] at er
      try rw [eF8] at hp
      obtain ⟨h11, eh11⟩ : ∃ z, z = hSet hh (b + 3 + 3 * (v2.toNatClampNeg)) (waC (b + 4 + 3 * (v2.toNatClampNeg)) (b + 5 + 3 * (v2.toNatClampNeg)) F8) := ⟨_, rfl⟩
      rw [← eh11]
      have k_b_h11 : nk h11 b x_b_r x_b_t (va_up x_b_W (v2.toNatClampNeg) F8) x_b_LF x_b_KF := by rw [eh11]; exact nk_swa k_b_hh hj4
      have k_tx_h11 : hAt h11 tx = some (txC ca x_tx) := by rw [eh11]; exact hAt_n (by omega) k_tx_hh
      have k_ca_h11 : hAt h11 ca = some (arC 240 lf) := by rw [eh11]; exact hAt_n (by omega) k_ca_hh
      have f_h11 : fr (fun q => (b ≤ q ∧ q < b + 15) ∨ q = tx) h h11 := by rw [eh11]; exact fr_set f_hh (show (b ≤ (b + 3 + 3 * (v2.toNatClampNeg)) ∧ (b + 3 + 3 * (v2.toNatClampNeg)) < b + 15) ∨ (b + 3 + 3 * (v2.toNatClampNeg)) = tx by omega)
      refine x_iinc (pc := 95) (v := (v2 + (1 : Int32))) (L' := [(2, .int (v2 + (1 : Int32))), (0, .ref b), (1, .ref tx)]) dX0_read_95 rfl rfl rfl rfl ?_
      refine x_goto (pc := 98) (tgt := 74) dX0_read_98 (by decide) ?_
      subst er
      exact ih x_b_r x_b_t (va_up x_b_W (v2.toNatClampNeg) F8) x_b_LF x_b_KF x_tx (v2 + (1 : Int32)) h11 hp k_b_h11 k_tx_h11 k_ca_h11 f_h11 kk
def l_X0_read_24 : Nat → (Nat → Int32) → (Nat → Int32) → (Nat → Nat → Int32) → (Nat → Nat → Int32) → (Nat → Nat → Int32) → (Nat → Int32) → (Nat → Int32) → (Nat → Int32) → (Nat → Int32) → (Nat → Int32) → Int32 → (Nat → Nat → Int32) → (Nat → Nat → Int32) → (Nat → Nat → Int32) → Int32 × (Nat → Int32) × (Nat → Int32) × (Nat → Nat → Int32) × (Nat → Nat → Int32) × (Nat → Nat → Int32) × (Nat → Int32)
  | 0, _, _, _, _, _, _, _, _, _, _, _, _, _, _ => (0, (fun _ => 0), (fun _ => 0), (fun _ _ => 0), (fun _ _ => 0), (fun _ _ => 0), (fun _ => 0))
  | n + 1, r, t, W, LF, KF, x, lf, x_b_r, x_b_t, x_tx, v2, x_b_W, x_b_LF, x_b_KF => (if (240 : Int32) ≤ v2 then ((-4 : Int32), (l_X0_read_74 xK r t W LF KF x lf x_b_r x_b_t x_b_W x_b_LF x_b_KF x_tx (0 : Int32)).1, (l_X0_read_74 xK r t W LF KF x lf x_b_r x_b_t x_b_W x_b_LF x_b_KF x_tx (0 : Int32)).2.1, (l_X0_read_74 xK r t W LF KF x lf x_b_r x_b_t x_b_W x_b_LF x_b_KF x_tx (0 : Int32)).2.2.1, (l_X0_read_74 xK r t W LF KF x lf x_b_r x_b_t x_b_W x_b_LF x_b_KF x_tx (0 : Int32)).2.2.2.1, (l_X0_read_74 xK r t W LF KF x lf x_b_r x_b_t x_b_W x_b_LF x_b_KF x_tx (0 : Int32)).2.2.2.2.1, (l_X0_read_74 xK r t W LF KF x lf x_b_r x_b_t x_b_W x_b_LF x_b_KF x_tx (0 : Int32)).2.2.2.2.2.1) else (if (x_tx 0) ≤ (x_tx 1) then ((-4 : Int32), (l_X0_read_74 xK r t W LF KF x lf x_b_r x_b_t x_b_W x_b_LF x_b_KF x_tx (0 : Int32)).1, (l_X0_read_74 xK r t W LF KF x lf x_b_r x_b_t x_b_W x_b_LF x_b_KF x_tx (0 : Int32)).2.1, (l_X0_read_74 xK r t W LF KF x lf x_b_r x_b_t x_b_W x_b_LF x_b_KF x_tx (0 : Int32)).2.2.1, (l_X0_read_74 xK r t W LF KF x lf x_b_r x_b_t x_b_W x_b_LF x_b_KF x_tx (0 : Int32)).2.2.2.1, (l_X0_read_74 xK r t W LF KF x lf x_b_r x_b_t x_b_W x_b_LF x_b_KF x_tx (0 : Int32)).2.2.2.2.1, (l_X0_read_74 xK r t W LF KF x lf x_b_r x_b_t x_b_W x_b_LF x_b_KF x_tx (0 : Int32)).2.2.2.2.2.1) else (if (f_X0_readItem x_b_r x_b_t x_b_W x_b_LF x_b_KF x_tx lf).1 = 0 then ((x_tx 1), (f_X0_readItem x_b_r x_b_t x_b_W x_b_LF x_b_KF x_tx lf).2.1, (f_X0_readItem x_b_r x_b_t x_b_W x_b_LF x_b_KF x_tx lf).2.2.1, (f_X0_readItem x_b_r x_b_t x_b_W x_b_LF x_b_KF x_tx lf).2.2.2.1, (f_X0_readItem x_b_r x_b_t x_b_W x_b_LF x_b_KF x_tx lf).2.2.2.2.1, (f_X0_readItem x_b_r x_b_t x_b_W x_b_LF x_b_KF x_tx lf).2.2.2.2.2.1, (f_X0_readItem x_b_r x_b_t x_b_W x_b_LF x_b_KF x_tx lf).2.2.2.2.2.2) else (if (f_X2_take (f_X0_readItem x_b_r x_b_t x_b_W x_b_LF x_b_KF x_tx lf).2.2.2.2.2.2 lf 17).1 = 0 then ((x_tx 1), (f_X0_readItem x_b_r x_b_t x_b_W x_b_LF x_b_KF x_tx lf).2.1, (f_X0_readItem x_b_r x_b_t x_b_W x_b_LF x_b_KF x_tx lf).2.2.1, (f_X0_readItem x_b_r x_b_t x_b_W x_b_LF x_b_KF x_tx lf).2.2.2.1, (f_X0_readItem x_b_r x_b_t x_b_W x_b_LF x_b_KF x_tx lf).2.2.2.2.1, (f_X0_readItem x_b_r x_b_t x_b_W x_b_LF x_b_KF x_tx lf).2.2.2.2.2.1, (f_X2_take (f_X0_readItem x_b_r x_b_t x_b_W x_b_LF x_b_KF x_tx lf).2.2.2.2.2.2 lf 17).2) else (l_X0_read_24 n r t W LF KF x lf (f_X0_readItem x_b_r x_b_t x_b_W x_b_LF x_b_KF x_tx lf).2.1 (f_X0_readItem x_b_r x_b_t x_b_W x_b_LF x_b_KF x_tx lf).2.2.1 (f_X2_take (f_X0_readItem x_b_r x_b_t x_b_W x_b_LF x_b_KF x_tx lf).2.2.2.2.2.2 lf 17).2 (v2 + (1 : Int32)) (f_X0_readItem x_b_r x_b_t x_b_W x_b_LF x_b_KF x_tx lf).2.2.2.1 (f_X0_readItem x_b_r x_b_t x_b_W x_b_LF x_b_KF x_tx lf).2.2.2.2.1 (f_X0_readItem x_b_r x_b_t x_b_W x_b_LF x_b_KF x_tx lf).2.2.2.2.2.1)))))
def q_X0_read_24 : Nat → (Nat → Int32) → (Nat → Int32) → (Nat → Nat → Int32) → (Nat → Nat → Int32) → (Nat → Nat → Int32) → (Nat → Int32) → (Nat → Int32) → (Nat → Int32) → (Nat → Int32) → (Nat → Int32) → Int32 → (Nat → Nat → Int32) → (Nat → Nat → Int32) → (Nat → Nat → Int32) → Prop
  | 0, _, _, _, _, _, _, _, _, _, _, _, _, _, _ => False
  | n + 1, r, t, W, LF, KF, x, lf, x_b_r, x_b_t, x_tx, v2, x_b_W, x_b_LF, x_b_KF => (((240 : Int32) ≤ v2 → ((q_X0_read_74 xK r t W LF KF x lf x_b_r x_b_t x_b_W x_b_LF x_b_KF x_tx (0 : Int32)) ∧ True)) ∧ (¬ ((240 : Int32) ≤ v2) → (((x_tx 0) ≤ (x_tx 1) → ((q_X0_read_74 xK r t W LF KF x lf x_b_r x_b_t x_b_W x_b_LF x_b_KF x_tx (0 : Int32)) ∧ True)) ∧ (¬ ((x_tx 0) ≤ (x_tx 1)) → (p_X0_readItem x_b_r x_b_t x_b_W x_b_LF x_b_KF x_tx lf ∧ (((f_X0_readItem x_b_r x_b_t x_b_W x_b_LF x_b_KF x_tx lf).1 = 0 → True) ∧ (¬ ((f_X0_readItem x_b_r x_b_t x_b_W x_b_LF x_b_KF x_tx lf).1 = 0) → (p_X2_take (f_X0_readItem x_b_r x_b_t x_b_W x_b_LF x_b_KF x_tx lf).2.2.2.2.2.2 lf 17 ∧ (((f_X2_take (f_X0_readItem x_b_r x_b_t x_b_W x_b_LF x_b_KF x_tx lf).2.2.2.2.2.2 lf 17).1 = 0 → True) ∧ (¬ ((f_X2_take (f_X0_readItem x_b_r x_b_t x_b_W x_b_LF x_b_KF x_tx lf).2.2.2.2.2.2 lf 17).1 = 0) → (q_X0_read_24 n r t W LF KF x lf (f_X0_readItem x_b_r x_b_t x_b_W x_b_LF x_b_KF x_tx lf).2.1 (f_X0_readItem x_b_r x_b_t x_b_W x_b_LF x_b_KF x_tx lf).2.2.1 (f_X2_take (f_X0_readItem x_b_r x_b_t x_b_W x_b_LF x_b_KF x_tx lf).2.2.2.2.2.2 lf 17).2 (v2 + (1 : Int32)) (f_X0_readItem x_b_r x_b_t x_b_W x_b_LF x_b_KF x_tx lf).2.2.2.1 (f_X0_readItem x_b_r x_b_t x_b_W x_b_LF x_b_KF x_tx lf).2.2.2.2.1 (f_X0_readItem x_b_r x_b_t x_b_W x_b_LF x_b_KF x_tx lf).2.2.2.2.2.1)))))))))))
set_option maxRecDepth 100000 in
set_option maxHeartbeats 4000000 in
theorem L_X0_read_24 (G : xG) (h : xH) (b tx ca : Nat) (r : (Nat → Int32)) (t : (Nat → Int32)) (W : (Nat → Nat → Int32)) (LF : (Nat → Nat → Int32)) (KF : (Nat → Nat → Int32)) (x : (Nat → Int32)) (lf : (Nat → Int32)) (k_b : nk h b r t W LF KF) (k_tx : hAt h tx = some (txC ca x)) (k_ca : hAt h ca = some (arC 240 lf)) (o0 : tx < b ∨ b + 15 ≤ tx) (o1 : ca < b ∨ b + 15 ≤ ca) : ∀ (n : Nat) (x_b_r : (Nat → Int32)) (x_b_t : (Nat → Int32)) (x_tx : (Nat → Int32)) (v2 : Int32) (x_b_W : (Nat → Nat → Int32)) (x_b_LF : (Nat → Nat → Int32)) (x_b_KF : (Nat → Nat → Int32)), ∀ (hh : xH), q_X0_read_24 n r t W LF KF x lf x_b_r x_b_t x_tx v2 x_b_W x_b_LF x_b_KF → nk hh b x_b_r x_b_t x_b_W x_b_LF x_b_KF → hAt hh tx = some (txC ca x_tx) → hAt hh ca = some (arC 240 lf) → fr (fun q => (b ≤ q ∧ q < b + 15) ∨ q = tx) h hh → Wp G yX0_read.cls cX0_read 4 yX0_read.name (some .int) (xR 8 0 0) (xZm G 0 0 (fun v' h' => v' = (some (.int (l_X0_read_24 n r t W LF KF x lf x_b_r x_b_t x_tx v2 x_b_W x_b_LF x_b_KF).1)) ∧ (nk h' b (l_X0_read_24 n r t W LF KF x lf x_b_r x_b_t x_tx v2 x_b_W x_b_LF x_b_KF).2.1 (l_X0_read_24 n r t W LF KF x lf x_b_r x_b_t x_tx v2 x_b_W x_b_LF x_b_KF).2.2.1 (l_X0_read_24 n r t W LF KF x lf x_b_r x_b_t x_tx v2 x_b_W x_b_LF x_b_KF).2.2.2.1 (l_X0_read_24 n r t W LF KF x lf x_b_r x_b_t x_tx v2 x_b_W x_b_LF x_b_KF).2.2.2.2.1 (l_X0_read_24 n r t W LF KF x lf x_b_r x_b_t x_tx v2 x_b_W x_b_LF x_b_KF).2.2.2.2.2.1) ∧ (hAt h' tx = some (txC ca (l_X0_read_24 n r t W LF KF x lf x_b_r x_b_t x_tx v2 x_b_W x_b_LF x_b_KF).2.2.2.2.2.2)) ∧ fr (fun q => (b ≤ q ∧ q < b + 15) ∨ q = tx) h h')) 0 0 24 [(2, .int v2), (0, .ref b), (1, .ref tx)] [] hh := by
  have u_0_1 : tx ≠ ca := hne_k k_tx k_ca rfl
  intro n
  induction n with
  | zero => intro x_b_r x_b_t x_tx v2 x_b_W x_b_LF x_b_KF hh hp; exact absurd hp id
  | succ n ih =>
    intro x_b_r x_b_t x_tx v2 x_b_W x_b_LF x_b_KF hh hp k_b_hh k_tx_hh k_ca_hh f_hh
    obtain ⟨R, er⟩ : ∃ R, l_X0_read_24 (n + 1) r t W LF KF x lf x_b_r x_b_t x_tx v2 x_b_W x_b_LF x_b_KF = R := ⟨_, rfl⟩
    rw [er]
    rw [l_X0_read_24] at er
    rw [q_X0_read_24] at hp
    refine x_iload_n (pc := 24) dX0_read_24 rfl ?_
    refine x_sipush (pc := 25) (v := (240 : Int32)) dX0_read_25 (by decide) ?_
    refine x_icmp_ge (pc := 28) (tgt := 72) dX0_read_28 (by decide) (fun (c1 : (240 : Int32) ≤ v2) => ?_) (fun (c1 : ¬ ((240 : Int32) ≤ v2)) => ?_)
    · rw [if_pos c1] at er
      replace hp := hp.1 c1
      refine x_iconst (pc := 72) (v := (0 : Int32)) dX0_read_72 (by decide) ?_
      refine x_istore_n (pc := 73) (L' := [(2, .int (0 : Int32)), (0, .ref b), (1, .ref tx)]) dX0_read_73 rfl rfl ?_
      obtain ⟨ql74, hp⟩ := hp
      refine L_X0_read_74 G h b tx ca r t W LF KF x lf k_b k_tx k_ca o0 o1 xK x_b_r x_b_t x_b_W x_b_LF x_b_KF x_tx (0 : Int32) hh ql74 k_b_hh k_tx_hh k_ca_hh f_hh (fun h12 k_b_h12 k_tx_h12 k_ca_h12 f_h12 => ?_)
      obtain ⟨F9, eF9⟩ : ∃ F, l_X0_read_74 xK r t W LF KF x lf x_b_r x_b_t x_b_W x_b_LF x_b_KF x_tx (0 : Int32) = F := ⟨_, rfl⟩
      try rw [eF9]
      try rw [eF9] at er
      try rw [eF9] at hp
      try rw [eF9] at k_b_h12
      try rw [eF9] at k_tx_h12
      try rw [eF9] at k_ca_h12
      refine x_bipush (pc := 101) (v := (-4 : Int32)) dX0_read_101 (by decide) ?_
      subst er
      exact x_iret (pc := 103) dX0_read_103 rfl rfl rfl rfl ⟨rfl, k_b_h12, k_tx_h12, f_h12⟩
    · rw [if_neg c1] at er
      replace hp := hp.2 c1
      refine x_aload_n (pc := 31) dX0_read_31 rfl ?_
      refine x_getf (pc := 32) (v := .int (x_tx 1)) dX0_read_32 xf_X0_60 k_tx_hh rfl ?_
      refine x_aload_n (pc := 35) dX0_read_35 rfl ?_
      refine x_getf (pc := 36) (v := .int (x_tx 0)) dX0_read_36 xf_X0_65 k_tx_hh rfl ?_
      refine x_icmp_ge (pc := 39) (tgt := 72) dX0_read_39 (by decide) (fun (c3 : (x_tx 0) ≤ (x_tx 1)) => ?_) (fun (c3 : ¬ ((x_tx 0) ≤ (x_tx 1))) => ?_)
      · rw [if_pos c3] at er
        replace hp := hp.1 c3
        refine x_iconst (pc := 72) (v := (0 : Int32)) dX0_read_72 (by decide) ?_
        refine x_istore_n (pc := 73) (L' := [(2, .int (0 : Int32)), (0, .ref b), (1, .ref tx)]) dX0_read_73 rfl rfl ?_
        obtain ⟨ql74, hp⟩ := hp
        refine L_X0_read_74 G h b tx ca r t W LF KF x lf k_b k_tx k_ca o0 o1 xK x_b_r x_b_t x_b_W x_b_LF x_b_KF x_tx (0 : Int32) hh ql74 k_b_hh k_tx_hh k_ca_hh f_hh (fun h13 k_b_h13 k_tx_h13 k_ca_h13 f_h13 => ?_)
        obtain ⟨F10, eF10⟩ : ∃ F, l_X0_read_74 xK r t W LF KF x lf x_b_r x_b_t x_b_W x_b_LF x_b_KF x_tx (0 : Int32) = F := ⟨_, rfl⟩
        try rw [eF10]
        try rw [eF10] at er
        try rw [eF10] at hp
        try rw [eF10] at k_b_h13
        try rw [eF10] at k_tx_h13
        try rw [eF10] at k_ca_h13
        refine x_bipush (pc := 101) (v := (-4 : Int32)) dX0_read_101 (by decide) ?_
        subst er
        exact x_iret (pc := 103) dX0_read_103 rfl rfl rfl rfl ⟨rfl, k_b_h13, k_tx_h13, f_h13⟩
      · rw [if_neg c3] at er
        replace hp := hp.2 c3
        refine x_aload_n (pc := 42) dX0_read_42 rfl ?_
        refine x_getf (pc := 43) (v := .int (x_tx 1)) dX0_read_43 xf_X0_60 k_tx_hh rfl ?_
        refine x_istore_n (pc := 46) (L' := [(3, .int (x_tx 1)), (2, .int v2), (0, .ref b), (1, .ref tx)]) dX0_read_46 rfl rfl ?_
        refine x_aload_n (pc := 47) dX0_read_47 rfl ?_
        refine x_aload_n (pc := 48) dX0_read_48 rfl ?_
        obtain ⟨q49, hp⟩ := hp
        refine x_cVQ (pc := 49) (As := [.ref tx]) (rest := []) dX0_read_49 xl_X0_68 xv_X0_readItem (nk_nt k_b_hh) rfl rfl rfl rfl rfl rfl (C_X0_readItem G _ b tx ca x_b_r x_b_t x_b_W x_b_LF x_b_KF x_tx lf k_b_hh k_tx_hh k_ca_hh (by omega) (by omega) q49) (fun v h14 hq => ?_)
        obtain ⟨ev, z0_h14, z1_h14, g_h14⟩ := hq
        subst ev
        refine Wp.eqs (L' := [(3, .int (x_tx 1)), (2, .int v2), (0, .ref b), (1, .ref tx)]) (st' := [.int (f_X0_readItem x_b_r x_b_t x_b_W x_b_LF x_b_KF x_tx lf).1]) rfl rfl ?_
        obtain ⟨F11, eF11⟩ : ∃ F, f_X0_readItem x_b_r x_b_t x_b_W x_b_LF x_b_KF x_tx lf = F := ⟨_, rfl⟩
        try rw [eF11] at er
        try rw [eF11] at hp
        try rw [eF11]
        try rw [eF11] at z0_h14
        try rw [eF11] at z1_h14
        have bF11_1 : xB F11.1 := by rw [← eF11]; exact (B_X0_readItem _ _ _ _ _ _ _)
        have k_b_h14 : nk h14 b F11.2.1 F11.2.2.1 F11.2.2.2.1 F11.2.2.2.2.1 F11.2.2.2.2.2.1 := z0_h14
        have k_tx_h14 : hAt h14 tx = some (txC ca F11.2.2.2.2.2.2) := z1_h14
        have k_ca_h14 : hAt h14 ca = some (arC 240 lf) := (g_h14.2 ca (show ¬ ((b ≤ ca ∧ ca < b + 15) ∨ ca = tx) by omega)).trans k_ca_hh
        have f_h14 : fr (fun q => (b ≤ q ∧ q < b + 15) ∨ q = tx) h h14 := fr_trans f_hh (fr_mono (fun q (u : (b ≤ q ∧ q < b + 15) ∨ q = tx) => show (b ≤ q ∧ q < b + 15) ∨ q = tx by omega) g_h14)
        refine x_if_eq (pc := 52) (tgt := 64) dX0_read_52 (by decide) (fun (c4 : F11.1 = 0) => ?_) (fun (c4 : ¬ (F11.1 = 0)) => ?_)
        · rw [if_pos c4] at er
          replace hp := hp.1 c4
          refine x_iload_n (pc := 64) dX0_read_64 rfl ?_
          subst er
          exact x_iret (pc := 65) dX0_read_65 rfl rfl rfl rfl ⟨rfl, k_b_h14, k_tx_h14, f_h14⟩
        · rw [if_neg c4] at er
          replace hp := hp.2 c4
          refine x_aload_n (pc := 55) dX0_read_55 rfl ?_
          refine x_ldcS (pc := 56) (i := 17) (tx := ";") dX0_read_56 rfl ?_
          obtain ⟨q58, hp⟩ := hp
          refine x_cV1i (pc := 58) dX0_read_58 xl_X0_74 xv_X2_take k_tx_h14 rfl (C_X2_take G _ tx ca F11.2.2.2.2.2.2 lf 17 k_tx_h14 k_ca_h14 q58) rfl rfl rfl ?_
          obtain ⟨F12, eF12⟩ : ∃ F, f_X2_take F11.2.2.2.2.2.2 lf 17 = F := ⟨_, rfl⟩
          rw [eF12]
          try rw [eF12] at er
          try rw [eF12] at hp
          have bF12_1 : xB F12.1 := by rw [← eF12]; exact (B_X2_take _ _ _)
          obtain ⟨h15, eh15⟩ : ∃ z, z = hSet h14 tx (txC ca F12.2) := ⟨_, rfl⟩
          rw [← eh15]
          have k_b_h15 : nk h15 b F11.2.1 F11.2.2.1 F11.2.2.2.1 F11.2.2.2.2.1 F11.2.2.2.2.2.1 := by rw [eh15]; exact nk_fr1 (by omega) k_b_h14
          have k_tx_h15 : hAt h15 tx = some (txC ca F12.2) := by rw [eh15]; exact hAt_same
          have k_ca_h15 : hAt h15 ca = some (arC 240 lf) := by rw [eh15]; exact hAt_n (by omega) k_ca_h14
          have f_h15 : fr (fun q => (b ≤ q ∧ q < b + 15) ∨ q = tx) h h15 := by rw [eh15]; exact fr_set f_h14 (show (b ≤ tx ∧ tx < b + 15) ∨ tx = tx by omega)
          refine x_if_ne (pc := 61) (tgt := 66) dX0_read_61 (by decide) (fun (c5 : ¬ (F12.1 = 0)) => ?_) (fun (c5 : F12.1 = 0) => ?_)
          · rw [if_neg c5] at er
            replace hp := hp.2 c5
            refine x_iinc (pc := 66) (v := (v2 + (1 : Int32))) (L' := [(2, .int (v2 + (1 : Int32))), (3, .int (x_tx 1)), (0, .ref b), (1, .ref tx)]) dX0_read_66 rfl rfl rfl rfl ?_
            refine x_goto (pc := 69) (tgt := 24) dX0_read_69 (by decide) ?_
            subst er
            refine Wp.sub [0, 2, 3] (L' := [(2, .int (v2 + (1 : Int32))), (0, .ref b), (1, .ref tx)]) rfl ?_
            exact ih F11.2.1 F11.2.2.1 F12.2 (v2 + (1 : Int32)) F11.2.2.2.1 F11.2.2.2.2.1 F11.2.2.2.2.2.1 h15 hp k_b_h15 k_tx_h15 k_ca_h15 f_h15
          · rw [if_pos c5] at er
            replace hp := hp.1 c5
            refine x_iload_n (pc := 64) dX0_read_64 rfl ?_
            subst er
            exact x_iret (pc := 65) dX0_read_65 rfl rfl rfl rfl ⟨rfl, k_b_h15, k_tx_h15, f_h15⟩
def f_X0_read (r : (Nat → Int32)) (t : (Nat → Int32)) (W : (Nat → Nat → Int32)) (LF : (Nat → Nat → Int32)) (KF : (Nat → Nat → Int32)) (x : (Nat → Int32)) (lf : (Nat → Int32)) : Int32 × (Nat → Int32) × (Nat → Int32) × (Nat → Nat → Int32) × (Nat → Nat → Int32) × (Nat → Nat → Int32) × (Nat → Int32) := (l_X0_read_24 xK r t W LF KF x lf (f_X1_clear r) (upd (upd t 0 (0 : Int32)) 1 (0 : Int32)) (upd x 1 (0 : Int32)) (0 : Int32) W LF KF)
def p_X0_read (r : (Nat → Int32)) (t : (Nat → Int32)) (W : (Nat → Nat → Int32)) (LF : (Nat → Nat → Int32)) (KF : (Nat → Nat → Int32)) (x : (Nat → Int32)) (lf : (Nat → Int32)) : Prop := (q_X0_read_24 xK r t W LF KF x lf (f_X1_clear r) (upd (upd t 0 (0 : Int32)) 1 (0 : Int32)) (upd x 1 (0 : Int32)) (0 : Int32) W LF KF)
set_option maxRecDepth 100000 in
set_option maxHeartbeats 4000000 in
theorem C_X0_read (G : xG) (h : xH) (b tx ca : Nat) (r : (Nat → Int32)) (t : (Nat → Int32)) (W : (Nat → Nat → Int32)) (LF : (Nat → Nat → Int32)) (KF : (Nat → Nat → Int32)) (x : (Nat → Int32)) (lf : (Nat → Int32)) (k_b : nk h b r t W LF KF) (k_tx : hAt h tx = some (txC ca x)) (k_ca : hAt h ca = some (arC 240 lf)) (o0 : tx < b ∨ b + 15 ≤ tx) (o1 : ca < b ∨ b + 15 ≤ ca) (hp : p_X0_read r t W LF KF x lf) : Ct G 8 0 0 yX0_read cX0_read 4 (some .int) [.ref b, .ref tx] h (fun v' h' => v' = (some (.int (f_X0_read r t W LF KF x lf).1)) ∧ (nk h' b (f_X0_read r t W LF KF x lf).2.1 (f_X0_read r t W LF KF x lf).2.2.1 (f_X0_read r t W LF KF x lf).2.2.2.1 (f_X0_read r t W LF KF x lf).2.2.2.2.1 (f_X0_read r t W LF KF x lf).2.2.2.2.2.1) ∧ (hAt h' tx = some (txC ca (f_X0_read r t W LF KF x lf).2.2.2.2.2.2)) ∧ fr (fun q => (b ≤ q ∧ q < b + 15) ∨ q = tx) h h') := by
  have u_0_1 : tx ≠ ca := hne_k k_tx k_ca rfl
  refine Ct.of (by decide) (by rfl) ?_
  refine Wp.eqs (L' := [(0, .ref b), (1, .ref tx)]) (st' := []) rfl rfl ?_
  obtain ⟨R, er⟩ : ∃ R, f_X0_read r t W LF KF x lf = R := ⟨_, rfl⟩
  rw [er]
  unfold f_X0_read at er
  unfold p_X0_read at hp
  refine x_aload_n (pc := 0) dX0_read_0 rfl ?_
  refine x_getf (pc := 1) (v := .ref (b + 1)) dX0_read_1 xf_X0_12 (nk_nt k_b) rfl ?_
  refine x_cV0v (pc := 4) dX0_read_4 xl_X0_57 xv_X1_clear (nk_ru k_b) rfl (C_X1_clear G _ (b + 1) r (nk_ru k_b)) rfl rfl rfl ?_
  obtain ⟨F1, eF1⟩ : ∃ F, f_X1_clear r = F := ⟨_, rfl⟩
  rw [eF1]
  try rw [eF1] at er
  try rw [eF1] at hp
  obtain ⟨h1, eh1⟩ : ∃ z, z = hSet h (b + 1) (ruC F1) := ⟨_, rfl⟩
  rw [← eh1]
  have k_b_h1 : nk h1 b F1 t W LF KF := by rw [eh1]; exact nk_sru k_b
  have k_tx_h1 : hAt h1 tx = some (txC ca x) := by rw [eh1]; exact hAt_n (by omega) k_tx
  have k_ca_h1 : hAt h1 ca = some (arC 240 lf) := by rw [eh1]; exact hAt_n (by omega) k_ca
  have f_h1 : fr (fun q => (b ≤ q ∧ q < b + 15) ∨ q = tx) h h1 := by rw [eh1]; exact fr_set fr_refl (show (b ≤ (b + 1) ∧ (b + 1) < b + 15) ∨ (b + 1) = tx by omega)
  refine x_aload_n (pc := 7) dX0_read_7 rfl ?_
  refine x_iconst (pc := 8) (v := (0 : Int32)) dX0_read_8 (by decide) ?_
  refine x_putf (pc := 9) (e' := ntC (b + 1) (b + 2) (upd t 0 (0 : Int32))) dX0_read_9 xf_X0_29 (nk_nt k_b_h1) rfl rfl rfl rfl ?_
  obtain ⟨h2, eh2⟩ : ∃ z, z = hSet h1 b (ntC (b + 1) (b + 2) (upd t 0 (0 : Int32))) := ⟨_, rfl⟩
  rw [← eh2]
  have k_b_h2 : nk h2 b F1 (upd t 0 (0 : Int32)) W LF KF := by rw [eh2]; exact nk_snt k_b_h1
  have k_tx_h2 : hAt h2 tx = some (txC ca x) := by rw [eh2]; exact hAt_n (by omega) k_tx_h1
  have k_ca_h2 : hAt h2 ca = some (arC 240 lf) := by rw [eh2]; exact hAt_n (by omega) k_ca_h1
  have f_h2 : fr (fun q => (b ≤ q ∧ q < b + 15) ∨ q = tx) h h2 := by rw [eh2]; exact fr_set f_h1 (show (b ≤ b ∧ b < b + 15) ∨ b = tx by omega)
  refine x_aload_n (pc := 12) dX0_read_12 rfl ?_
  refine x_iconst (pc := 13) (v := (0 : Int32)) dX0_read_13 (by decide) ?_
  refine x_putf (pc := 14) (e' := ntC (b + 1) (b + 2) (upd (upd t 0 (0 : Int32)) 1 (0 : Int32))) dX0_read_14 xf_X0_36 (nk_nt k_b_h2) rfl rfl rfl rfl ?_
  obtain ⟨h3, eh3⟩ : ∃ z, z = hSet h2 b (ntC (b + 1) (b + 2) (upd (upd t 0 (0 : Int32)) 1 (0 : Int32))) := ⟨_, rfl⟩
  rw [← eh3]
  have k_b_h3 : nk h3 b F1 (upd (upd t 0 (0 : Int32)) 1 (0 : Int32)) W LF KF := by rw [eh3]; exact nk_snt k_b_h2
  have k_tx_h3 : hAt h3 tx = some (txC ca x) := by rw [eh3]; exact hAt_n (by omega) k_tx_h2
  have k_ca_h3 : hAt h3 ca = some (arC 240 lf) := by rw [eh3]; exact hAt_n (by omega) k_ca_h2
  have f_h3 : fr (fun q => (b ≤ q ∧ q < b + 15) ∨ q = tx) h h3 := by rw [eh3]; exact fr_set f_h2 (show (b ≤ b ∧ b < b + 15) ∨ b = tx by omega)
  refine x_aload_n (pc := 17) dX0_read_17 rfl ?_
  refine x_iconst (pc := 18) (v := (0 : Int32)) dX0_read_18 (by decide) ?_
  refine x_putf (pc := 19) (e' := txC ca (upd x 1 (0 : Int32))) dX0_read_19 xf_X0_60 k_tx_h3 rfl rfl rfl rfl ?_
  obtain ⟨h4, eh4⟩ : ∃ z, z = hSet h3 tx (txC ca (upd x 1 (0 : Int32))) := ⟨_, rfl⟩
  rw [← eh4]
  have k_b_h4 : nk h4 b F1 (upd (upd t 0 (0 : Int32)) 1 (0 : Int32)) W LF KF := by rw [eh4]; exact nk_fr1 (by omega) k_b_h3
  have k_tx_h4 : hAt h4 tx = some (txC ca (upd x 1 (0 : Int32))) := by rw [eh4]; exact hAt_same
  have k_ca_h4 : hAt h4 ca = some (arC 240 lf) := by rw [eh4]; exact hAt_n (by omega) k_ca_h3
  have f_h4 : fr (fun q => (b ≤ q ∧ q < b + 15) ∨ q = tx) h h4 := by rw [eh4]; exact fr_set f_h3 (show (b ≤ tx ∧ tx < b + 15) ∨ tx = tx by omega)
  refine x_iconst (pc := 22) (v := (0 : Int32)) dX0_read_22 (by decide) ?_
  refine x_istore_n (pc := 23) (L' := [(2, .int (0 : Int32)), (0, .ref b), (1, .ref tx)]) dX0_read_23 rfl rfl ?_
  subst er
  exact L_X0_read_24 G h b tx ca r t W LF KF x lf k_b k_tx k_ca o0 o1 xK F1 (upd (upd t 0 (0 : Int32)) 1 (0 : Int32)) (upd x 1 (0 : Int32)) (0 : Int32) W LF KF h4 hp k_b_h4 k_tx_h4 k_ca_h4 f_h4
