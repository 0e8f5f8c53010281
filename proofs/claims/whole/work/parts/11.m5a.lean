def f_X4_isWay (s : (Nat → Int32)) (r : (Nat → Int32)) (t : (Nat → Int32)) (W : (Nat → Nat → Int32)) (LF : (Nat → Nat → Int32)) (KF : (Nat → Nat → Int32)) (i : Int32) : Int32 := ((if i < 0 then (0 : Int32) else (if (t 0) ≤ i then (0 : Int32) else (1 : Int32))))
theorem B_X4_isWay (s : (Nat → Int32)) (r : (Nat → Int32)) (t : (Nat → Int32)) (W : (Nat → Nat → Int32)) (LF : (Nat → Nat → Int32)) (KF : (Nat → Nat → Int32)) (i : Int32) : xB (f_X4_isWay s r t W LF KF i) := by
  unfold f_X4_isWay
  exact (xB_ite xB0 (xB_ite xB0 xB1))
set_option maxRecDepth 100000 in
set_option maxHeartbeats 4000000 in
theorem C_X4_isWay (G : xG) (h : xH) (g : Nat) (s : (Nat → Int32)) (r : (Nat → Int32)) (t : (Nat → Int32)) (W : (Nat → Nat → Int32)) (LF : (Nat → Nat → Int32)) (KF : (Nat → Nat → Int32)) (i : Int32) (k_g : hAt h g = some (gpC (g + 1) (g + 3) (g + 18) (g + 33) (g + 34) (g + 37) s)) (k_g3 : nk h (g + 3) r t W LF KF) : Ct G 0 0 0 yX4_isWay cX4_isWay 2 (some .boolean) [.ref g, .int i] h (fun v' h' => v' = (some (.int (f_X4_isWay s r t W LF KF i))) ∧ h' = h) := by
  refine Ct.of (by decide) (by rfl) ?_
  refine Wp.eqs (L' := [(0, .ref g), (1, .int i)]) (st' := []) rfl rfl ?_
  obtain ⟨R, er⟩ : ∃ R, f_X4_isWay s r t W LF KF i = R := ⟨_, rfl⟩
  rw [er]
  unfold f_X4_isWay at er
  refine x_iload_n (pc := 0) dX4_isWay_0 rfl ?_
  obtain ⟨F1, eF1⟩ : ∃ F, (if i < 0 then (0 : Int32) else (if (t 0) ≤ i then (0 : Int32) else (1 : Int32))) = F := ⟨_, rfl⟩
  try rw [eF1] at er
  have bF1 : xB F1 := by rw [← eF1]; exact (xB_ite xB0 (xB_ite xB0 xB1))
  refine x_mrg (pc' := 20) (L' := [(0, .ref g), (1, .int i)]) (st' := [.int F1]) (h' := h) (fun J => ?_) ?_
  · refine x_if_lt (pc := 1) (tgt := 19) dX4_isWay_1 (by decide) (fun (c1 : i < 0) => ?_) (fun (c1 : ¬ (i < 0)) => ?_)
    · refine x_iconst (pc := 19) (v := (0 : Int32)) dX4_isWay_19 (by decide) ?_
      rw [if_pos c1] at eF1
      subst eF1
      exact J
    · refine x_iload_n (pc := 4) dX4_isWay_4 rfl ?_
      refine x_aload_n (pc := 5) dX4_isWay_5 rfl ?_
      refine x_getf (pc := 6) (v := .ref (g + 3)) dX4_isWay_6 xf_X4_19 k_g rfl ?_
      refine x_getf (pc := 9) (v := .int (t 0)) dX4_isWay_9 xf_X4_71 (nk_nt k_g3) rfl ?_
      refine x_icmp_ge (pc := 12) (tgt := 19) dX4_isWay_12 (by decide) (fun (c2 : (t 0) ≤ i) => ?_) (fun (c2 : ¬ ((t 0) ≤ i)) => ?_)
      · refine x_iconst (pc := 19) (v := (0 : Int32)) dX4_isWay_19 (by decide) ?_
        rw [if_neg c1, if_pos c2] at eF1
        subst eF1
        exact J
      · refine x_iconst (pc := 15) (v := (1 : Int32)) dX4_isWay_15 (by decide) ?_
        refine x_goto (pc := 16) (tgt := 20) dX4_isWay_16 (by decide) ?_
        rw [if_neg c1, if_neg c2] at eF1
        subst eF1
        exact J
  subst er
  exact x_iret (pc := 20) dX4_isWay_20 rfl (xb_nar bF1) rfl rfl ⟨rfl, rfl⟩

def g_X4_isHop_5 (W : (Nat → Nat → Int32)) (i : Int32) (hh_ : Int32) (y0 : Int32) : Int32 := (if y0 = 0 then (0 : Int32) else (if hh_ < 0 then (0 : Int32) else (if ((W (i.toNatClampNeg)) 11) ≤ hh_ then (0 : Int32) else (1 : Int32))))
def h_X4_isHop_5 (W : (Nat → Nat → Int32)) (i : Int32) (hh_ : Int32) (y0 : Int32) : Prop := ((y0 = 0 → True) ∧ (¬ (y0 = 0) → ((hh_ < 0 → True) ∧ (¬ (hh_ < 0) → (vp_in i 4 ∧ ((((W (i.toNatClampNeg)) 11) ≤ hh_ → True) ∧ (¬ (((W (i.toNatClampNeg)) 11) ≤ hh_) → True)))))))
theorem Bg_X4_isHop_5 (W : (Nat → Nat → Int32)) (i : Int32) (hh_ : Int32) (y0 : Int32) : xB (g_X4_isHop_5 W i hh_ y0) := by
  unfold g_X4_isHop_5
  exact (xB_ite xB0 (xB_ite xB0 (xB_ite xB0 xB1)))
def f_X4_isHop (s : (Nat → Int32)) (r : (Nat → Int32)) (t : (Nat → Int32)) (W : (Nat → Nat → Int32)) (LF : (Nat → Nat → Int32)) (KF : (Nat → Nat → Int32)) (i hh_ : Int32) : Int32 := (g_X4_isHop_5 W i hh_ (f_X4_isWay s r t W LF KF i))
def p_X4_isHop (s : (Nat → Int32)) (r : (Nat → Int32)) (t : (Nat → Int32)) (W : (Nat → Nat → Int32)) (LF : (Nat → Nat → Int32)) (KF : (Nat → Nat → Int32)) (i hh_ : Int32) : Prop := ((h_X4_isHop_5 W i hh_ (f_X4_isWay s r t W LF KF i)) ∧ True)
theorem B_X4_isHop (s : (Nat → Int32)) (r : (Nat → Int32)) (t : (Nat → Int32)) (W : (Nat → Nat → Int32)) (LF : (Nat → Nat → Int32)) (KF : (Nat → Nat → Int32)) (i hh_ : Int32) : xB (f_X4_isHop s r t W LF KF i hh_) := by
  unfold f_X4_isHop
  exact (Bg_X4_isHop_5 _ _ _ _)
set_option maxRecDepth 100000 in
set_option maxHeartbeats 4000000 in
theorem C_X4_isHop (G : xG) (h : xH) (g : Nat) (s : (Nat → Int32)) (r : (Nat → Int32)) (t : (Nat → Int32)) (W : (Nat → Nat → Int32)) (LF : (Nat → Nat → Int32)) (KF : (Nat → Nat → Int32)) (i hh_ : Int32) (k_g : hAt h g = some (gpC (g + 1) (g + 3) (g + 18) (g + 33) (g + 34) (g + 37) s)) (k_g3 : nk h (g + 3) r t W LF KF) (hp : p_X4_isHop s r t W LF KF i hh_) : Ct G 1 0 0 yX4_isHop cX4_isHop 3 (some .boolean) [.ref g, .int i, .int hh_] h (fun v' h' => v' = (some (.int (f_X4_isHop s r t W LF KF i hh_))) ∧ h' = h) := by
  refine Ct.of (by decide) (by rfl) ?_
  refine Wp.eqs (L' := [(0, .ref g), (1, .int i), (2, .int hh_)]) (st' := []) rfl rfl ?_
  obtain ⟨R, er⟩ : ∃ R, f_X4_isHop s r t W LF KF i hh_ = R := ⟨_, rfl⟩
  rw [er]
  unfold f_X4_isHop at er
  unfold p_X4_isHop at hp
  refine x_aload_n (pc := 0) dX4_isHop_0 rfl ?_
  refine x_iload_n (pc := 1) dX4_isHop_1 rfl ?_
  refine x_cV1i (pc := 2) dX4_isHop_2 xl_X4_101 xv_X4_isWay k_g rfl (C_X4_isWay G _ g s r t W LF KF i k_g k_g3) rfl rfl rfl ?_
  obtain ⟨F1, eF1⟩ : ∃ F, f_X4_isWay s r t W LF KF i = F := ⟨_, rfl⟩
  rw [eF1]
  try rw [eF1] at er
  try rw [eF1] at hp
  have bF1 : xB F1 := by rw [← eF1]; exact (B_X4_isWay _ _ _ _ _ _ _)
  obtain ⟨qr5, hp⟩ := hp
  obtain ⟨F2, eF2⟩ : ∃ F, g_X4_isHop_5 W i hh_ F1 = F := ⟨_, rfl⟩
  try rw [eF2] at er
  try rw [eF2] at hp
  have bF2 : xB F2 := by rw [← eF2]; exact (Bg_X4_isHop_5 _ _ _ _)
  refine x_mrg (pc' := 33) (L' := [(0, .ref g), (1, .int i), (2, .int hh_)]) (st' := [.int F2]) (h' := h) (fun J => ?_) ?_
  · unfold g_X4_isHop_5 at eF2
    unfold h_X4_isHop_5 at qr5
    try rw [eF1] at eF2
    try rw [eF1] at qr5
    refine x_if_eq (pc := 5) (tgt := 32) dX4_isHop_5 (by decide) (fun (c4 : F1 = 0) => ?_) (fun (c4 : ¬ (F1 = 0)) => ?_)
    · rw [if_pos c4] at eF2
      replace qr5 := qr5.1 c4
      refine x_iconst (pc := 32) (v := (0 : Int32)) dX4_isHop_32 (by decide) ?_
      subst eF2
      exact J
    · rw [if_neg c4] at eF2
      replace qr5 := qr5.2 c4
      refine x_iload_n (pc := 8) dX4_isHop_8 rfl ?_
      refine x_if_lt (pc := 9) (tgt := 32) dX4_isHop_9 (by decide) (fun (c5 : hh_ < 0) => ?_) (fun (c5 : ¬ (hh_ < 0)) => ?_)
      · rw [if_pos c5] at eF2
        replace qr5 := qr5.1 c5
        refine x_iconst (pc := 32) (v := (0 : Int32)) dX4_isHop_32 (by decide) ?_
        subst eF2
        exact J
      · rw [if_neg c5] at eF2
        replace qr5 := qr5.2 c5
        refine x_iload_n (pc := 12) dX4_isHop_12 rfl ?_
        refine x_aload_n (pc := 13) dX4_isHop_13 rfl ?_
        refine x_getf (pc := 14) (v := .ref (g + 3)) dX4_isHop_14 xf_X4_19 k_g rfl ?_
        refine x_getf (pc := 17) (v := .ref ((g + 3) + 2)) dX4_isHop_17 xf_X4_90 (nk_nt k_g3) rfl ?_
        refine x_iload_n (pc := 20) dX4_isHop_20 rfl ?_
        obtain ⟨q21, qr5⟩ := qr5
        have hj2 : (i.toNatClampNeg) < 4 := vp_lt q21
        refine x_aald (pc := 21) (t := 3) (Cn := RX3) (b := ((g + 3) + 3 + 3 * (i.toNatClampNeg))) rfl dX4_isHop_21 (nk_wy k_g3) q21 rfl ?_
        refine x_getf (pc := 22) (v := .int ((W (i.toNatClampNeg)) 11)) dX4_isHop_22 xf_X4_194 (nk_wa k_g3 hj2) rfl ?_
        refine x_icmp_ge (pc := 25) (tgt := 32) dX4_isHop_25 (by decide) (fun (c6 : ((W (i.toNatClampNeg)) 11) ≤ hh_) => ?_) (fun (c6 : ¬ (((W (i.toNatClampNeg)) 11) ≤ hh_)) => ?_)
        · rw [if_pos c6] at eF2
          replace qr5 := qr5.1 c6
          refine x_iconst (pc := 32) (v := (0 : Int32)) dX4_isHop_32 (by decide) ?_
          subst eF2
          exact J
        · rw [if_neg c6] at eF2
          replace qr5 := qr5.2 c6
          refine x_iconst (pc := 28) (v := (1 : Int32)) dX4_isHop_28 (by decide) ?_
          refine x_goto (pc := 29) (tgt := 33) dX4_isHop_29 (by decide) ?_
          subst eF2
          exact J
  subst er
  exact x_iret (pc := 33) dX4_isHop_33 rfl (xb_nar bF2) rfl rfl ⟨rfl, rfl⟩

def g_X4_remember_43 (x_g : (Nat → Int32)) (y1 : Int32) : (Nat → Int32) := (if (4 : Int32) ≤ y1 then x_g else (upd x_g 1 ((x_g 1) + (1 : Int32))))
def f_X4_remember (s : (Nat → Int32)) (r : (Nat → Int32)) (t : (Nat → Int32)) (W : (Nat → Nat → Int32)) (LF : (Nat → Nat → Int32)) (KF : (Nat → Nat → Int32)) (ER : (Nat → Nat → Int32)) (ET : (Nat → Nat → Int32)) (EW : (Nat → Nat → Nat → Int32)) (EL : (Nat → Nat → Nat → Int32)) (EK : (Nat → Nat → Nat → Int32)) : (Nat → Int32) × (Nat → Nat → Int32) × (Nat → Nat → Int32) × (Nat → Nat → Nat → Int32) × (Nat → Nat → Nat → Int32) × (Nat → Nat → Nat → Int32) := ((g_X4_remember_43 (upd s 0 ((if (s 0) = (3 : Int32) then (0 : Int32) else ((s 0) + (1 : Int32))))) ((upd s 0 ((if (s 0) = (3 : Int32) then (0 : Int32) else ((s 0) + (1 : Int32))))) 1)), (va_up ER ((s 0).toNatClampNeg) (f_X0_copy (ER ((s 0).toNatClampNeg)) (ET ((s 0).toNatClampNeg)) (EW ((s 0).toNatClampNeg)) (EL ((s 0).toNatClampNeg)) (EK ((s 0).toNatClampNeg)) r t W LF KF).1), (va_up ET ((s 0).toNatClampNeg) (f_X0_copy (ER ((s 0).toNatClampNeg)) (ET ((s 0).toNatClampNeg)) (EW ((s 0).toNatClampNeg)) (EL ((s 0).toNatClampNeg)) (EK ((s 0).toNatClampNeg)) r t W LF KF).2.1), (va_up EW ((s 0).toNatClampNeg) (f_X0_copy (ER ((s 0).toNatClampNeg)) (ET ((s 0).toNatClampNeg)) (EW ((s 0).toNatClampNeg)) (EL ((s 0).toNatClampNeg)) (EK ((s 0).toNatClampNeg)) r t W LF KF).2.2.1), (va_up EL ((s 0).toNatClampNeg) (f_X0_copy (ER ((s 0).toNatClampNeg)) (ET ((s 0).toNatClampNeg)) (EW ((s 0).toNatClampNeg)) (EL ((s 0).toNatClampNeg)) (EK ((s 0).toNatClampNeg)) r t W LF KF).2.2.2.1), (va_up EK ((s 0).toNatClampNeg) (f_X0_copy (ER ((s 0).toNatClampNeg)) (ET ((s 0).toNatClampNeg)) (EW ((s 0).toNatClampNeg)) (EL ((s 0).toNatClampNeg)) (EK ((s 0).toNatClampNeg)) r t W LF KF).2.2.2.2))
def p_X4_remember (s : (Nat → Int32)) (r : (Nat → Int32)) (t : (Nat → Int32)) (W : (Nat → Nat → Int32)) (LF : (Nat → Nat → Int32)) (KF : (Nat → Nat → Int32)) (ER : (Nat → Nat → Int32)) (ET : (Nat → Nat → Int32)) (EW : (Nat → Nat → Nat → Int32)) (EL : (Nat → Nat → Nat → Int32)) (EK : (Nat → Nat → Nat → Int32)) : Prop := (vp_in (s 0) 4 ∧ (p_X0_copy (ER ((s 0).toNatClampNeg)) (ET ((s 0).toNatClampNeg)) (EW ((s 0).toNatClampNeg)) (EL ((s 0).toNatClampNeg)) (EK ((s 0).toNatClampNeg)) r t W LF KF ∧ True))
set_option maxRecDepth 100000 in
set_option maxHeartbeats 4000000 in
theorem C_X4_remember (G : xG) (h : xH) (g : Nat) (s : (Nat → Int32)) (r : (Nat → Int32)) (t : (Nat → Int32)) (W : (Nat → Nat → Int32)) (LF : (Nat → Nat → Int32)) (KF : (Nat → Nat → Int32)) (ER : (Nat → Nat → Int32)) (ET : (Nat → Nat → Int32)) (EW : (Nat → Nat → Nat → Int32)) (EL : (Nat → Nat → Nat → Int32)) (EK : (Nat → Nat → Nat → Int32)) (k_g : hAt h g = some (gpC (g + 1) (g + 3) (g + 18) (g + 33) (g + 34) (g + 37) s)) (k_g3 : nk h (g + 3) r t W LF KF) (k_g33 : hAt h (g + 33) = some (arR 2 4 (fun j => some ((g + 38) + 15 * j)))) (k_g38 : ek h (g + 38) ER ET EW EL EK) (hp : p_X4_remember s r t W LF KF ER ET EW EL EK) : Ct G 3 0 0 yX4_remember cX4_remember 1 none [.ref g] h (fun v' h' => v' = none ∧ (hAt h' g = some (gpC (g + 1) (g + 3) (g + 18) (g + 33) (g + 34) (g + 37) (f_X4_remember s r t W LF KF ER ET EW EL EK).1)) ∧ (ek h' (g + 38) (f_X4_remember s r t W LF KF ER ET EW EL EK).2.1 (f_X4_remember s r t W LF KF ER ET EW EL EK).2.2.1 (f_X4_remember s r t W LF KF ER ET EW EL EK).2.2.2.1 (f_X4_remember s r t W LF KF ER ET EW EL EK).2.2.2.2.1 (f_X4_remember s r t W LF KF ER ET EW EL EK).2.2.2.2.2) ∧ fr (fun q => q = g ∨ ((g + 38) ≤ q ∧ q < (g + 38) + 60)) h h') := by
  refine Ct.of (by decide) (by rfl) ?_
  refine Wp.eqs (L' := [(0, .ref g)]) (st' := []) rfl rfl ?_
  obtain ⟨R, er⟩ : ∃ R, f_X4_remember s r t W LF KF ER ET EW EL EK = R := ⟨_, rfl⟩
  rw [er]
  unfold f_X4_remember at er
  unfold p_X4_remember at hp
  refine x_aload_n (pc := 0) dX4_remember_0 rfl ?_
  refine x_getf (pc := 1) (v := .ref (g + 33)) dX4_remember_1 xf_X4_26 k_g rfl ?_
  refine x_aload_n (pc := 4) dX4_remember_4 rfl ?_
  refine x_getf (pc := 5) (v := .int (s 0)) dX4_remember_5 xf_X4_130 k_g rfl ?_
  obtain ⟨q8, hp⟩ := hp
  have hj1 : ((s 0).toNatClampNeg) < 4 := vp_lt q8
  refine x_aald (pc := 8) (t := 2) (Cn := RX0) (b := ((g + 38) + 15 * ((s 0).toNatClampNeg))) rfl dX4_remember_8 k_g33 q8 rfl ?_
  refine x_aload_n (pc := 9) dX4_remember_9 rfl ?_
  refine x_getf (pc := 10) (v := .ref (g + 3)) dX4_remember_10 xf_X4_19 k_g rfl ?_
  obtain ⟨q13, hp⟩ := hp
  refine x_cVQ (pc := 13) (As := [.ref (g + 3)]) (rest := []) dX4_remember_13 xl_X4_64 xv_X0_copy (nk_nt (k_g38 ((s 0).toNatClampNeg) hj1)) rfl rfl rfl rfl rfl rfl (C_X0_copy G _ ((g + 38) + 15 * ((s 0).toNatClampNeg)) (g + 3) (ER ((s 0).toNatClampNeg)) (ET ((s 0).toNatClampNeg)) (EW ((s 0).toNatClampNeg)) (EL ((s 0).toNatClampNeg)) (EK ((s 0).toNatClampNeg)) r t W LF KF (k_g38 ((s 0).toNatClampNeg) hj1) k_g3 (by omega) q13) (fun v h1 hq => ?_)
  obtain ⟨ev, z0_h1, g_h1⟩ := hq
  subst ev
  refine Wp.eqs (L' := [(0, .ref g)]) (st' := []) rfl rfl ?_
  obtain ⟨F1, eF1⟩ : ∃ F, f_X0_copy (ER ((s 0).toNatClampNeg)) (ET ((s 0).toNatClampNeg)) (EW ((s 0).toNatClampNeg)) (EL ((s 0).toNatClampNeg)) (EK ((s 0).toNatClampNeg)) r t W LF KF = F := ⟨_, rfl⟩
  try rw [eF1] at er
  try rw [eF1] at hp
  try rw [eF1]
  try rw [eF1] at z0_h1
  have k_g_h1 : hAt h1 g = some (gpC (g + 1) (g + 3) (g + 18) (g + 33) (g + 34) (g + 37) s) := (g_h1.2 g (show ¬ ((((g + 38) + 15 * ((s 0).toNatClampNeg)) ≤ g ∧ g < ((g + 38) + 15 * ((s 0).toNatClampNeg)) + 15)) by omega)).trans k_g
  have k_g3_h1 : nk h1 (g + 3) r t W LF KF := nk_fr (fun q u1 u2 => g_h1.2 q (show ¬ ((((g + 38) + 15 * ((s 0).toNatClampNeg)) ≤ q ∧ q < ((g + 38) + 15 * ((s 0).toNatClampNeg)) + 15)) by omega)) k_g3
  have k_g33_h1 : hAt h1 (g + 33) = some (arR 2 4 (fun j => some ((g + 38) + 15 * j))) := (g_h1.2 (g + 33) (show ¬ ((((g + 38) + 15 * ((s 0).toNatClampNeg)) ≤ (g + 33) ∧ (g + 33) < ((g + 38) + 15 * ((s 0).toNatClampNeg)) + 15)) by omega)).trans k_g33
  have k_g38_h1 : ek h1 (g + 38) (va_up ER ((s 0).toNatClampNeg) F1.1) (va_up ET ((s 0).toNatClampNeg) F1.2.1) (va_up EW ((s 0).toNatClampNeg) F1.2.2.1) (va_up EL ((s 0).toNatClampNeg) F1.2.2.2.1) (va_up EK ((s 0).toNatClampNeg) F1.2.2.2.2) := ek_set k_g38 hj1 z0_h1 (fun q u1 u2 u3 => g_h1.2 q (show ¬ ((((g + 38) + 15 * ((s 0).toNatClampNeg)) ≤ q ∧ q < ((g + 38) + 15 * ((s 0).toNatClampNeg)) + 15)) by omega))
  have f_h1 : fr (fun q => q = g ∨ ((g + 38) ≤ q ∧ q < (g + 38) + 60)) h h1 := fr_trans fr_refl (fr_mono (fun q (u : (((g + 38) + 15 * ((s 0).toNatClampNeg)) ≤ q ∧ q < ((g + 38) + 15 * ((s 0).toNatClampNeg)) + 15)) => show q = g ∨ ((g + 38) ≤ q ∧ q < (g + 38) + 60) by omega) g_h1)
  refine x_aload_n (pc := 16) dX4_remember_16 rfl ?_
  refine x_aload_n (pc := 17) dX4_remember_17 rfl ?_
  refine x_getf (pc := 18) (v := .int (s 0)) dX4_remember_18 xf_X4_130 k_g_h1 rfl ?_
  refine x_iconst (pc := 21) (v := (3 : Int32)) dX4_remember_21 (by decide) ?_
  obtain ⟨F2, eF2⟩ : ∃ F, (if (s 0) = (3 : Int32) then (0 : Int32) else ((s 0) + (1 : Int32))) = F := ⟨_, rfl⟩
  try rw [eF2] at er
  try rw [eF2] at hp
  refine x_mrg (pc' := 35) (L' := [(0, .ref g)]) (st' := [.int F2, .ref g]) (h' := h1) (fun J => ?_) ?_
  · refine x_icmp_ne (pc := 22) (tgt := 29) dX4_remember_22 (by decide) (fun (c1 : ¬ ((s 0) = (3 : Int32))) => ?_) (fun (c1 : (s 0) = (3 : Int32)) => ?_)
    · refine x_aload_n (pc := 29) dX4_remember_29 rfl ?_
      refine x_getf (pc := 30) (v := .int (s 0)) dX4_remember_30 xf_X4_130 k_g_h1 rfl ?_
      refine x_iconst (pc := 33) (v := (1 : Int32)) dX4_remember_33 (by decide) ?_
      refine x_iadd (pc := 34) dX4_remember_34 ?_
      rw [if_neg c1] at eF2
      subst eF2
      exact J
    · refine x_iconst (pc := 25) (v := (0 : Int32)) dX4_remember_25 (by decide) ?_
      refine x_goto (pc := 26) (tgt := 35) dX4_remember_26 (by decide) ?_
      rw [if_pos c1] at eF2
      subst eF2
      exact J
  refine x_putf (pc := 35) (e' := gpC (g + 1) (g + 3) (g + 18) (g + 33) (g + 34) (g + 37) (upd s 0 F2)) dX4_remember_35 xf_X4_130 k_g_h1 rfl rfl rfl rfl ?_
  obtain ⟨h2, eh2⟩ : ∃ z, z = hSet h1 g (gpC (g + 1) (g + 3) (g + 18) (g + 33) (g + 34) (g + 37) (upd s 0 F2)) := ⟨_, rfl⟩
  rw [← eh2]
  have k_g_h2 : hAt h2 g = some (gpC (g + 1) (g + 3) (g + 18) (g + 33) (g + 34) (g + 37) (upd s 0 F2)) := by rw [eh2]; exact hAt_same
  have k_g3_h2 : nk h2 (g + 3) r t W LF KF := by rw [eh2]; exact nk_fr1 (by omega) k_g3_h1
  have k_g33_h2 : hAt h2 (g + 33) = some (arR 2 4 (fun j => some ((g + 38) + 15 * j))) := by rw [eh2]; exact hAt_n (by omega) k_g33_h1
  have k_g38_h2 : ek h2 (g + 38) (va_up ER ((s 0).toNatClampNeg) F1.1) (va_up ET ((s 0).toNatClampNeg) F1.2.1) (va_up EW ((s 0).toNatClampNeg) F1.2.2.1) (va_up EL ((s 0).toNatClampNeg) F1.2.2.2.1) (va_up EK ((s 0).toNatClampNeg) F1.2.2.2.2) := by rw [eh2]; exact ek_fr1 (by omega) k_g38_h1
  have f_h2 : fr (fun q => q = g ∨ ((g + 38) ≤ q ∧ q < (g + 38) + 60)) h h2 := by rw [eh2]; exact fr_set f_h1 (show g = g ∨ ((g + 38) ≤ g ∧ g < (g + 38) + 60) by omega)
  refine x_aload_n (pc := 38) dX4_remember_38 rfl ?_
  refine x_getf (pc := 39) (v := .int ((upd s 0 F2) 1)) dX4_remember_39 xf_X4_74 k_g_h2 rfl ?_
  refine x_iconst (pc := 42) (v := (4 : Int32)) dX4_remember_42 (by decide) ?_
  obtain ⟨F3, eF3⟩ : ∃ F, g_X4_remember_43 (upd s 0 F2) ((upd s 0 F2) 1) = F := ⟨_, rfl⟩
  try rw [eF3] at er
  try rw [eF3] at hp
  refine x_mrgR (pc' := 56) (L' := [(0, .ref g)]) (st' := []) (P := fun hh => (hAt hh g = some (gpC (g + 1) (g + 3) (g + 18) (g + 33) (g + 34) (g + 37) F3)) ∧ (nk hh (g + 3) r t W LF KF) ∧ (hAt hh (g + 33) = some (arR 2 4 (fun j => some ((g + 38) + 15 * j)))) ∧ (ek hh (g + 38) (va_up ER ((s 0).toNatClampNeg) F1.1) (va_up ET ((s 0).toNatClampNeg) F1.2.1) (va_up EW ((s 0).toNatClampNeg) F1.2.2.1) (va_up EL ((s 0).toNatClampNeg) F1.2.2.2.1) (va_up EK ((s 0).toNatClampNeg) F1.2.2.2.2)) ∧ (fr (fun q => q = g ∨ ((g + 38) ≤ q ∧ q < (g + 38) + 60)) h hh)) (fun J => ?_) (fun h5 hk => ?_)
  · unfold g_X4_remember_43 at eF3
    try rw [eF1] at eF3
    try rw [eF2] at eF3
    refine x_icmp_ge (pc := 43) (tgt := 56) dX4_remember_43 (by decide) (fun (c3 : (4 : Int32) ≤ ((upd s 0 F2) 1)) => ?_) (fun (c3 : ¬ ((4 : Int32) ≤ ((upd s 0 F2) 1))) => ?_)
    · rw [if_pos c3] at eF3
      subst eF3
      exact J h2 ⟨k_g_h2, k_g3_h2, k_g33_h2, k_g38_h2, f_h2⟩
    · rw [if_neg c3] at eF3
      refine x_aload_n (pc := 46) dX4_remember_46 rfl ?_
      refine x_dup (pc := 47) dX4_remember_47 rfl ?_
      refine x_getf (pc := 48) (v := .int ((upd s 0 F2) 1)) dX4_remember_48 xf_X4_74 k_g_h2 rfl ?_
      refine x_iconst (pc := 51) (v := (1 : Int32)) dX4_remember_51 (by decide) ?_
      refine x_iadd (pc := 52) dX4_remember_52 ?_
      refine x_putf (pc := 53) (e' := gpC (g + 1) (g + 3) (g + 18) (g + 33) (g + 34) (g + 37) (upd (upd s 0 F2) 1 (((upd s 0 F2) 1) + (1 : Int32)))) dX4_remember_53 xf_X4_74 k_g_h2 rfl rfl rfl rfl ?_
      obtain ⟨h4, eh4⟩ : ∃ z, z = hSet h2 g (gpC (g + 1) (g + 3) (g + 18) (g + 33) (g + 34) (g + 37) (upd (upd s 0 F2) 1 (((upd s 0 F2) 1) + (1 : Int32)))) := ⟨_, rfl⟩
      rw [← eh4]
      have k_g_h4 : hAt h4 g = some (gpC (g + 1) (g + 3) (g + 18) (g + 33) (g + 34) (g + 37) (upd (upd s 0 F2) 1 (((upd s 0 F2) 1) + (1 : Int32)))) := by rw [eh4]; exact hAt_same
      have k_g3_h4 : nk h4 (g + 3) r t W LF KF := by rw [eh4]; exact nk_fr1 (by omega) k_g3_h2
      have k_g33_h4 : hAt h4 (g + 33) = some (arR 2 4 (fun j => some ((g + 38) + 15 * j))) := by rw [eh4]; exact hAt_n (by omega) k_g33_h2
      have k_g38_h4 : ek h4 (g + 38) (va_up ER ((s 0).toNatClampNeg) F1.1) (va_up ET ((s 0).toNatClampNeg) F1.2.1) (va_up EW ((s 0).toNatClampNeg) F1.2.2.1) (va_up EL ((s 0).toNatClampNeg) F1.2.2.2.1) (va_up EK ((s 0).toNatClampNeg) F1.2.2.2.2) := by rw [eh4]; exact ek_fr1 (by omega) k_g38_h2
      have f_h4 : fr (fun q => q = g ∨ ((g + 38) ≤ q ∧ q < (g + 38) + 60)) h h4 := by rw [eh4]; exact fr_set f_h2 (show g = g ∨ ((g + 38) ≤ g ∧ g < (g + 38) + 60) by omega)
      subst eF3
      exact J h4 ⟨k_g_h4, k_g3_h4, k_g33_h4, k_g38_h4, f_h4⟩
  obtain ⟨k_g_h5, k_g3_h5, k_g33_h5, k_g38_h5, f_h5⟩ := hk
  subst er
  exact x_vret (pc := 56) dX4_remember_56 rfl rfl rfl ⟨rfl, k_g_h5, k_g38_h5, f_h5⟩

def f_X4_startTrial (s : (Nat → Int32)) (r : (Nat → Int32)) (t : (Nat → Int32)) (W : (Nat → Nat → Int32)) (LF : (Nat → Nat → Int32)) (KF : (Nat → Nat → Int32)) (tw : (Nat → Int32)) (tl : (Nat → Int32)) (tk : (Nat → Int32)) (tu : (Nat → Int32)) (i bel : Int32) : (Nat → Int32) × (Nat → Int32) × (Nat → Int32) × (Nat → Int32) := ((f_X3_copy tw tl tk (W (i.toNatClampNeg)) (LF (i.toNatClampNeg)) (KF (i.toNatClampNeg))).1, (f_X3_copy tw tl tk (W (i.toNatClampNeg)) (LF (i.toNatClampNeg)) (KF (i.toNatClampNeg))).2.1, (f_X3_copy tw tl tk (W (i.toNatClampNeg)) (LF (i.toNatClampNeg)) (KF (i.toNatClampNeg))).2.2, (upd (f_X1_copy tu r) 3 bel))
def p_X4_startTrial (s : (Nat → Int32)) (r : (Nat → Int32)) (t : (Nat → Int32)) (W : (Nat → Nat → Int32)) (LF : (Nat → Nat → Int32)) (KF : (Nat → Nat → Int32)) (tw : (Nat → Int32)) (tl : (Nat → Int32)) (tk : (Nat → Int32)) (tu : (Nat → Int32)) (i bel : Int32) : Prop := (vp_in i 4 ∧ True)
set_option maxRecDepth 100000 in
set_option maxHeartbeats 4000000 in
theorem C_X4_startTrial (G : xG) (h : xH) (g : Nat) (s : (Nat → Int32)) (r : (Nat → Int32)) (t : (Nat → Int32)) (W : (Nat → Nat → Int32)) (LF : (Nat → Nat → Int32)) (KF : (Nat → Nat → Int32)) (tw : (Nat → Int32)) (tl : (Nat → Int32)) (tk : (Nat → Int32)) (tu : (Nat → Int32)) (i bel : Int32) (k_g : hAt h g = some (gpC (g + 1) (g + 3) (g + 18) (g + 33) (g + 34) (g + 37) s)) (k_g3 : nk h (g + 3) r t W LF KF) (k_g34 : hAt h (g + 34) = some (waC (g + 35) (g + 36) tw)) (k_g35 : hAt h (g + 35) = some (arI 6 tl)) (k_g36 : hAt h (g + 36) = some (arI 6 tk)) (k_g37 : hAt h (g + 37) = some (ruC tu)) (hp : p_X4_startTrial s r t W LF KF tw tl tk tu i bel) : Ct G 2 0 0 yX4_startTrial cX4_startTrial 3 none [.ref g, .int i, .int bel] h (fun v' h' => v' = none ∧ (hAt h' (g + 34) = some (waC (g + 35) (g + 36) (f_X4_startTrial s r t W LF KF tw tl tk tu i bel).1)) ∧ (hAt h' (g + 35) = some (arI 6 (f_X4_startTrial s r t W LF KF tw tl tk tu i bel).2.1)) ∧ (hAt h' (g + 36) = some (arI 6 (f_X4_startTrial s r t W LF KF tw tl tk tu i bel).2.2.1)) ∧ (hAt h' (g + 37) = some (ruC (f_X4_startTrial s r t W LF KF tw tl tk tu i bel).2.2.2)) ∧ fr (fun q => q = (g + 34) ∨ q = (g + 35) ∨ q = (g + 36) ∨ q = (g + 37)) h h') := by
  have u_0_1 : g ≠ (g + 34) := hne_k k_g k_g34 rfl
  have u_0_2 : g ≠ (g + 35) := hne_k k_g k_g35 rfl
  have u_0_3 : g ≠ (g + 36) := hne_k k_g k_g36 rfl
  have u_0_4 : g ≠ (g + 37) := hne_k k_g k_g37 rfl
  have u_1_2 : (g + 34) ≠ (g + 35) := hne_k k_g34 k_g35 rfl
  have u_1_3 : (g + 34) ≠ (g + 36) := hne_k k_g34 k_g36 rfl
  have u_1_4 : (g + 34) ≠ (g + 37) := hne_k k_g34 k_g37 rfl
  have u_2_4 : (g + 35) ≠ (g + 37) := hne_k k_g35 k_g37 rfl
  have u_3_4 : (g + 36) ≠ (g + 37) := hne_k k_g36 k_g37 rfl
  refine Ct.of (by decide) (by rfl) ?_
  refine Wp.eqs (L' := [(0, .ref g), (1, .int i), (2, .int bel)]) (st' := []) rfl rfl ?_
  obtain ⟨R, er⟩ : ∃ R, f_X4_startTrial s r t W LF KF tw tl tk tu i bel = R := ⟨_, rfl⟩
  rw [er]
  unfold f_X4_startTrial at er
  unfold p_X4_startTrial at hp
  refine x_aload_n (pc := 0) dX4_startTrial_0 rfl ?_
  refine x_getf (pc := 1) (v := .ref (g + 34)) dX4_startTrial_1 xf_X4_33 k_g rfl ?_
  refine x_aload_n (pc := 4) dX4_startTrial_4 rfl ?_
  refine x_getf (pc := 5) (v := .ref (g + 3)) dX4_startTrial_5 xf_X4_19 k_g rfl ?_
  refine x_getf (pc := 8) (v := .ref ((g + 3) + 2)) dX4_startTrial_8 xf_X4_90 (nk_nt k_g3) rfl ?_
  refine x_iload_n (pc := 11) dX4_startTrial_11 rfl ?_
  obtain ⟨q12, hp⟩ := hp
  have hj1 : (i.toNatClampNeg) < 4 := vp_lt q12
  refine x_aald (pc := 12) (t := 3) (Cn := RX3) (b := ((g + 3) + 3 + 3 * (i.toNatClampNeg))) rfl dX4_startTrial_12 (nk_wy k_g3) q12 rfl ?_
  refine x_cV1v (pc := 13) dX4_startTrial_13 xl_X4_197 xv_X3_copy k_g34 rfl (C_X3_copy G _ (g + 34) ((g + 3) + 3 + 3 * (i.toNatClampNeg)) (g + 35) (g + 36) ((g + 3) + 4 + 3 * (i.toNatClampNeg)) ((g + 3) + 5 + 3 * (i.toNatClampNeg)) tw tl tk (W (i.toNatClampNeg)) (LF (i.toNatClampNeg)) (KF (i.toNatClampNeg)) k_g34 k_g35 k_g36 (nk_wa k_g3 hj1) (nk_la k_g3 hj1) (nk_ka k_g3 hj1) (by omega) (by omega) (by omega) (by omega) (by omega) (by omega)) rfl rfl rfl ?_
  obtain ⟨F1, eF1⟩ : ∃ F, f_X3_copy tw tl tk (W (i.toNatClampNeg)) (LF (i.toNatClampNeg)) (KF (i.toNatClampNeg)) = F := ⟨_, rfl⟩
  rw [eF1]
  try rw [eF1] at er
  try rw [eF1] at hp
  obtain ⟨h1, eh1⟩ : ∃ z, z = hSet h (g + 34) (waC (g + 35) (g + 36) F1.1) := ⟨_, rfl⟩
  rw [← eh1]
  have k_g_h1 : hAt h1 g = some (gpC (g + 1) (g + 3) (g + 18) (g + 33) (g + 34) (g + 37) s) := by rw [eh1]; exact hAt_n (by omega) k_g
  have k_g3_h1 : nk h1 (g + 3) r t W LF KF := by rw [eh1]; exact nk_fr1 (by omega) k_g3
  have k_g34_h1 : hAt h1 (g + 34) = some (waC (g + 35) (g + 36) F1.1) := by rw [eh1]; exact hAt_same
  have k_g35_h1 : hAt h1 (g + 35) = some (arI 6 tl) := by rw [eh1]; exact hAt_n (by omega) k_g35
  have k_g36_h1 : hAt h1 (g + 36) = some (arI 6 tk) := by rw [eh1]; exact hAt_n (by omega) k_g36
  have k_g37_h1 : hAt h1 (g + 37) = some (ruC tu) := by rw [eh1]; exact hAt_n (by omega) k_g37
  have f_h1 : fr (fun q => q = (g + 34) ∨ q = (g + 35) ∨ q = (g + 36) ∨ q = (g + 37)) h h1 := by rw [eh1]; exact fr_set fr_refl (show (g + 34) = (g + 34) ∨ (g + 34) = (g + 35) ∨ (g + 34) = (g + 36) ∨ (g + 34) = (g + 37) by omega)
  obtain ⟨h2, eh2⟩ : ∃ z, z = hSet h1 (g + 35) (arI 6 F1.2.1) := ⟨_, rfl⟩
  rw [← eh2]
  have k_g_h2 : hAt h2 g = some (gpC (g + 1) (g + 3) (g + 18) (g + 33) (g + 34) (g + 37) s) := by rw [eh2]; exact hAt_n (by omega) k_g_h1
  have k_g3_h2 : nk h2 (g + 3) r t W LF KF := by rw [eh2]; exact nk_fr1 (by omega) k_g3_h1
  have k_g34_h2 : hAt h2 (g + 34) = some (waC (g + 35) (g + 36) F1.1) := by rw [eh2]; exact hAt_n (by omega) k_g34_h1
  have k_g35_h2 : hAt h2 (g + 35) = some (arI 6 F1.2.1) := by rw [eh2]; exact hAt_same
  have k_g36_h2 : hAt h2 (g + 36) = some (arI 6 tk) := by rw [eh2]; exact hAt_n (by omega) k_g36_h1
  have k_g37_h2 : hAt h2 (g + 37) = some (ruC tu) := by rw [eh2]; exact hAt_n (by omega) k_g37_h1
  have f_h2 : fr (fun q => q = (g + 34) ∨ q = (g + 35) ∨ q = (g + 36) ∨ q = (g + 37)) h h2 := by rw [eh2]; exact fr_set f_h1 (show (g + 35) = (g + 34) ∨ (g + 35) = (g + 35) ∨ (g + 35) = (g + 36) ∨ (g + 35) = (g + 37) by omega)
  obtain ⟨h3, eh3⟩ : ∃ z, z = hSet h2 (g + 36) (arI 6 F1.2.2) := ⟨_, rfl⟩
  rw [← eh3]
  have k_g_h3 : hAt h3 g = some (gpC (g + 1) (g + 3) (g + 18) (g + 33) (g + 34) (g + 37) s) := by rw [eh3]; exact hAt_n (by omega) k_g_h2
  have k_g3_h3 : nk h3 (g + 3) r t W LF KF := by rw [eh3]; exact nk_fr1 (by omega) k_g3_h2
  have k_g34_h3 : hAt h3 (g + 34) = some (waC (g + 35) (g + 36) F1.1) := by rw [eh3]; exact hAt_n (by omega) k_g34_h2
  have k_g35_h3 : hAt h3 (g + 35) = some (arI 6 F1.2.1) := by rw [eh3]; exact hAt_n (by omega) k_g35_h2
  have k_g36_h3 : hAt h3 (g + 36) = some (arI 6 F1.2.2) := by rw [eh3]; exact hAt_same
  have k_g37_h3 : hAt h3 (g + 37) = some (ruC tu) := by rw [eh3]; exact hAt_n (by omega) k_g37_h2
  have f_h3 : fr (fun q => q = (g + 34) ∨ q = (g + 35) ∨ q = (g + 36) ∨ q = (g + 37)) h h3 := by rw [eh3]; exact fr_set f_h2 (show (g + 36) = (g + 34) ∨ (g + 36) = (g + 35) ∨ (g + 36) = (g + 36) ∨ (g + 36) = (g + 37) by omega)
  refine x_aload_n (pc := 16) dX4_startTrial_16 rfl ?_
  refine x_getf (pc := 17) (v := .ref (g + 37)) dX4_startTrial_17 xf_X4_40 k_g_h3 rfl ?_
  refine x_aload_n (pc := 20) dX4_startTrial_20 rfl ?_
  refine x_getf (pc := 21) (v := .ref (g + 3)) dX4_startTrial_21 xf_X4_19 k_g_h3 rfl ?_
  refine x_getf (pc := 24) (v := .ref ((g + 3) + 1)) dX4_startTrial_24 xf_X4_94 (nk_nt k_g3_h3) rfl ?_
  refine x_cV1v (pc := 27) dX4_startTrial_27 xl_X4_200 xv_X1_copy k_g37_h3 rfl (C_X1_copy G _ (g + 37) ((g + 3) + 1) tu r k_g37_h3 (nk_ru k_g3_h3) (by omega)) rfl rfl rfl ?_
  obtain ⟨F2, eF2⟩ : ∃ F, f_X1_copy tu r = F := ⟨_, rfl⟩
  rw [eF2]
  try rw [eF2] at er
  try rw [eF2] at hp
  obtain ⟨h4, eh4⟩ : ∃ z, z = hSet h3 (g + 37) (ruC F2) := ⟨_, rfl⟩
  rw [← eh4]
  have k_g_h4 : hAt h4 g = some (gpC (g + 1) (g + 3) (g + 18) (g + 33) (g + 34) (g + 37) s) := by rw [eh4]; exact hAt_n (by omega) k_g_h3
  have k_g3_h4 : nk h4 (g + 3) r t W LF KF := by rw [eh4]; exact nk_fr1 (by omega) k_g3_h3
  have k_g34_h4 : hAt h4 (g + 34) = some (waC (g + 35) (g + 36) F1.1) := by rw [eh4]; exact hAt_n (by omega) k_g34_h3
  have k_g35_h4 : hAt h4 (g + 35) = some (arI 6 F1.2.1) := by rw [eh4]; exact hAt_n (by omega) k_g35_h3
  have k_g36_h4 : hAt h4 (g + 36) = some (arI 6 F1.2.2) := by rw [eh4]; exact hAt_n (by omega) k_g36_h3
  have k_g37_h4 : hAt h4 (g + 37) = some (ruC F2) := by rw [eh4]; exact hAt_same
  have f_h4 : fr (fun q => q = (g + 34) ∨ q = (g + 35) ∨ q = (g + 36) ∨ q = (g + 37)) h h4 := by rw [eh4]; exact fr_set f_h3 (show (g + 37) = (g + 34) ∨ (g + 37) = (g + 35) ∨ (g + 37) = (g + 36) ∨ (g + 37) = (g + 37) by omega)
  refine x_aload_n (pc := 30) dX4_startTrial_30 rfl ?_
  refine x_getf (pc := 31) (v := .ref (g + 37)) dX4_startTrial_31 xf_X4_40 k_g_h4 rfl ?_
  refine x_iload_n (pc := 34) dX4_startTrial_34 rfl ?_
  refine x_putf (pc := 35) (e' := ruC (upd F2 3 bel)) dX4_startTrial_35 xf_X4_127 k_g37_h4 rfl rfl rfl rfl ?_
  obtain ⟨h5, eh5⟩ : ∃ z, z = hSet h4 (g + 37) (ruC (upd F2 3 bel)) := ⟨_, rfl⟩
  rw [← eh5]
  have k_g_h5 : hAt h5 g = some (gpC (g + 1) (g + 3) (g + 18) (g + 33) (g + 34) (g + 37) s) := by rw [eh5]; exact hAt_n (by omega) k_g_h4
  have k_g3_h5 : nk h5 (g + 3) r t W LF KF := by rw [eh5]; exact nk_fr1 (by omega) k_g3_h4
  have k_g34_h5 : hAt h5 (g + 34) = some (waC (g + 35) (g + 36) F1.1) := by rw [eh5]; exact hAt_n (by omega) k_g34_h4
  have k_g35_h5 : hAt h5 (g + 35) = some (arI 6 F1.2.1) := by rw [eh5]; exact hAt_n (by omega) k_g35_h4
  have k_g36_h5 : hAt h5 (g + 36) = some (arI 6 F1.2.2) := by rw [eh5]; exact hAt_n (by omega) k_g36_h4
  have k_g37_h5 : hAt h5 (g + 37) = some (ruC (upd F2 3 bel)) := by rw [eh5]; exact hAt_same
  have f_h5 : fr (fun q => q = (g + 34) ∨ q = (g + 35) ∨ q = (g + 36) ∨ q = (g + 37)) h h5 := by rw [eh5]; exact fr_set f_h4 (show (g + 37) = (g + 34) ∨ (g + 37) = (g + 35) ∨ (g + 37) = (g + 36) ∨ (g + 37) = (g + 37) by omega)
  subst er
  exact x_vret (pc := 38) dX4_startTrial_38 rfl rfl rfl ⟨rfl, k_g34_h5, k_g35_h5, k_g36_h5, k_g37_h5, f_h5⟩

def l_X4_ticksUntilFound_21 : Nat → (Nat → Int32) → (Nat → Int32) → (Nat → Int32) → (Nat → Nat → Int32) → (Nat → Nat → Int32) → (Nat → Nat → Int32) → (Nat → Int32) → (Nat → Int32) → (Nat → Int32) → (Nat → Int32) → Int32 → Int32 → Int32 → (Nat → Int32) → (Nat → Int32) → (Nat → Int32) → (Nat → Int32) → Int32 → Int32 × (Nat → Int32) × (Nat → Int32) × (Nat → Int32) × (Nat → Int32)
  | 0, _, _, _, _, _, _, _, _, _, _, _, _, _, _, _, _, _, _ => (0, (fun _ => 0), (fun _ => 0), (fun _ => 0), (fun _ => 0))
  | n + 1, s, r, t, W, LF, KF, tw, tl, tk, tu, i, bel, v3, x_g34, x_g35, x_g36, x_g37, v4 => (if (99 : Int32) < v4 then ((-4 : Int32), x_g34, x_g35, x_g36, x_g37) else (if ((f_X3_step x_g34 x_g35 x_g36 x_g37) 0) = v3 then (v4, (f_X3_step x_g34 x_g35 x_g36 x_g37), x_g35, x_g36, x_g37) else (l_X4_ticksUntilFound_21 n s r t W LF KF tw tl tk tu i bel v3 (f_X3_step x_g34 x_g35 x_g36 x_g37) x_g35 x_g36 x_g37 (v4 + (1 : Int32)))))
def q_X4_ticksUntilFound_21 : Nat → (Nat → Int32) → (Nat → Int32) → (Nat → Int32) → (Nat → Nat → Int32) → (Nat → Nat → Int32) → (Nat → Nat → Int32) → (Nat → Int32) → (Nat → Int32) → (Nat → Int32) → (Nat → Int32) → Int32 → Int32 → Int32 → (Nat → Int32) → (Nat → Int32) → (Nat → Int32) → (Nat → Int32) → Int32 → Prop
  | 0, _, _, _, _, _, _, _, _, _, _, _, _, _, _, _, _, _, _ => False
  | n + 1, s, r, t, W, LF, KF, tw, tl, tk, tu, i, bel, v3, x_g34, x_g35, x_g36, x_g37, v4 => (((99 : Int32) < v4 → True) ∧ (¬ ((99 : Int32) < v4) → (p_X3_step x_g34 x_g35 x_g36 x_g37 ∧ ((((f_X3_step x_g34 x_g35 x_g36 x_g37) 0) = v3 → True) ∧ (¬ (((f_X3_step x_g34 x_g35 x_g36 x_g37) 0) = v3) → (q_X4_ticksUntilFound_21 n s r t W LF KF tw tl tk tu i bel v3 (f_X3_step x_g34 x_g35 x_g36 x_g37) x_g35 x_g36 x_g37 (v4 + (1 : Int32))))))))
set_option maxRecDepth 100000 in
set_option maxHeartbeats 4000000 in
theorem L_X4_ticksUntilFound_21 (G : xG) (h : xH) (g : Nat) (s : (Nat → Int32)) (r : (Nat → Int32)) (t : (Nat → Int32)) (W : (Nat → Nat → Int32)) (LF : (Nat → Nat → Int32)) (KF : (Nat → Nat → Int32)) (tw : (Nat → Int32)) (tl : (Nat → Int32)) (tk : (Nat → Int32)) (tu : (Nat → Int32)) (i bel : Int32) (k_g : hAt h g = some (gpC (g + 1) (g + 3) (g + 18) (g + 33) (g + 34) (g + 37) s)) (k_g3 : nk h (g + 3) r t W LF KF) (k_g34 : hAt h (g + 34) = some (waC (g + 35) (g + 36) tw)) (k_g35 : hAt h (g + 35) = some (arI 6 tl)) (k_g36 : hAt h (g + 36) = some (arI 6 tk)) (k_g37 : hAt h (g + 37) = some (ruC tu)) : ∀ (n : Nat) (v3 : Int32) (x_g34 : (Nat → Int32)) (x_g35 : (Nat → Int32)) (x_g36 : (Nat → Int32)) (x_g37 : (Nat → Int32)) (v4 : Int32), ∀ (hh : xH), q_X4_ticksUntilFound_21 n s r t W LF KF tw tl tk tu i bel v3 x_g34 x_g35 x_g36 x_g37 v4 → hAt hh g = some (gpC (g + 1) (g + 3) (g + 18) (g + 33) (g + 34) (g + 37) s) → nk hh (g + 3) r t W LF KF → hAt hh (g + 34) = some (waC (g + 35) (g + 36) x_g34) → hAt hh (g + 35) = some (arI 6 x_g35) → hAt hh (g + 36) = some (arI 6 x_g36) → hAt hh (g + 37) = some (ruC x_g37) → fr (fun q => q = (g + 34) ∨ q = (g + 35) ∨ q = (g + 36) ∨ q = (g + 37)) h hh → Wp G yX4_ticksUntilFound.cls cX4_ticksUntilFound 5 yX4_ticksUntilFound.name (some .int) (xR 5 0 0) (xZm G 0 0 (fun v' h' => v' = (some (.int (l_X4_ticksUntilFound_21 n s r t W LF KF tw tl tk tu i bel v3 x_g34 x_g35 x_g36 x_g37 v4).1)) ∧ (hAt h' (g + 34) = some (waC (g + 35) (g + 36) (l_X4_ticksUntilFound_21 n s r t W LF KF tw tl tk tu i bel v3 x_g34 x_g35 x_g36 x_g37 v4).2.1)) ∧ (hAt h' (g + 35) = some (arI 6 (l_X4_ticksUntilFound_21 n s r t W LF KF tw tl tk tu i bel v3 x_g34 x_g35 x_g36 x_g37 v4).2.2.1)) ∧ (hAt h' (g + 36) = some (arI 6 (l_X4_ticksUntilFound_21 n s r t W LF KF tw tl tk tu i bel v3 x_g34 x_g35 x_g36 x_g37 v4).2.2.2.1)) ∧ (hAt h' (g + 37) = some (ruC (l_X4_ticksUntilFound_21 n s r t W LF KF tw tl tk tu i bel v3 x_g34 x_g35 x_g36 x_g37 v4).2.2.2.2)) ∧ fr (fun q => q = (g + 34) ∨ q = (g + 35) ∨ q = (g + 36) ∨ q = (g + 37)) h h')) 0 0 21 [(4, .int v4), (3, .int v3), (0, .ref g), (1, .int i), (2, .int bel)] [] hh := by
  have u_0_1 : g ≠ (g + 34) := hne_k k_g k_g34 rfl
  have u_0_2 : g ≠ (g + 35) := hne_k k_g k_g35 rfl
  have u_0_3 : g ≠ (g + 36) := hne_k k_g k_g36 rfl
  have u_0_4 : g ≠ (g + 37) := hne_k k_g k_g37 rfl
  have u_1_2 : (g + 34) ≠ (g + 35) := hne_k k_g34 k_g35 rfl
  have u_1_3 : (g + 34) ≠ (g + 36) := hne_k k_g34 k_g36 rfl
  have u_1_4 : (g + 34) ≠ (g + 37) := hne_k k_g34 k_g37 rfl
  have u_2_4 : (g + 35) ≠ (g + 37) := hne_k k_g35 k_g37 rfl
  have u_3_4 : (g + 36) ≠ (g + 37) := hne_k k_g36 k_g37 rfl
  intro n
  induction n with
  | zero => intro v3 x_g34 x_g35 x_g36 x_g37 v4 hh hp; exact absurd hp id
  | succ n ih =>
    intro v3 x_g34 x_g35 x_g36 x_g37 v4 hh hp k_g_hh k_g3_hh k_g34_hh k_g35_hh k_g36_hh k_g37_hh f_hh
    obtain ⟨R, er⟩ : ∃ R, l_X4_ticksUntilFound_21 (n + 1) s r t W LF KF tw tl tk tu i bel v3 x_g34 x_g35 x_g36 x_g37 v4 = R := ⟨_, rfl⟩
    rw [er]
    rw [l_X4_ticksUntilFound_21] at er
    rw [q_X4_ticksUntilFound_21] at hp
    refine x_iload (pc := 21) dX4_ticksUntilFound_21 rfl ?_
    refine x_bipush (pc := 23) (v := (99 : Int32)) dX4_ticksUntilFound_23 (by decide) ?_
    refine x_icmp_gt (pc := 25) (tgt := 59) dX4_ticksUntilFound_25 (by decide) (fun (c1 : (99 : Int32) < v4) => ?_) (fun (c1 : ¬ ((99 : Int32) < v4)) => ?_)
    · rw [if_pos c1] at er
      replace hp := hp.1 c1
      refine x_bipush (pc := 59) (v := (-4 : Int32)) dX4_ticksUntilFound_59 (by decide) ?_
      subst er
      exact x_iret (pc := 61) dX4_ticksUntilFound_61 rfl rfl rfl rfl ⟨rfl, k_g34_hh, k_g35_hh, k_g36_hh, k_g37_hh, f_hh⟩
    · rw [if_neg c1] at er
      replace hp := hp.2 c1
      refine x_aload_n (pc := 28) dX4_ticksUntilFound_28 rfl ?_
      refine x_getf (pc := 29) (v := .ref (g + 34)) dX4_ticksUntilFound_29 xf_X4_33 k_g_hh rfl ?_
      refine x_aload_n (pc := 32) dX4_ticksUntilFound_32 rfl ?_
      refine x_getf (pc := 33) (v := .ref (g + 37)) dX4_ticksUntilFound_33 xf_X4_40 k_g_hh rfl ?_
      obtain ⟨q36, hp⟩ := hp
      refine x_cV1v (pc := 36) dX4_ticksUntilFound_36 xl_X4_207 xv_X3_step k_g34_hh rfl (C_X3_step G _ (g + 34) (g + 37) (g + 35) (g + 36) x_g34 x_g35 x_g36 x_g37 k_g34_hh k_g35_hh k_g36_hh k_g37_hh q36) rfl rfl rfl ?_
      obtain ⟨F4, eF4⟩ : ∃ F, f_X3_step x_g34 x_g35 x_g36 x_g37 = F := ⟨_, rfl⟩
      rw [eF4]
      try rw [eF4] at er
      try rw [eF4] at hp
      obtain ⟨h3, eh3⟩ : ∃ z, z = hSet hh (g + 34) (waC (g + 35) (g + 36) F4) := ⟨_, rfl⟩
      rw [← eh3]
      have k_g_h3 : hAt h3 g = some (gpC (g + 1) (g + 3) (g + 18) (g + 33) (g + 34) (g + 37) s) := by rw [eh3]; exact hAt_n (by omega) k_g_hh
      have k_g3_h3 : nk h3 (g + 3) r t W LF KF := by rw [eh3]; exact nk_fr1 (by omega) k_g3_hh
      have k_g34_h3 : hAt h3 (g + 34) = some (waC (g + 35) (g + 36) F4) := by rw [eh3]; exact hAt_same
      have k_g35_h3 : hAt h3 (g + 35) = some (arI 6 x_g35) := by rw [eh3]; exact hAt_n (by omega) k_g35_hh
      have k_g36_h3 : hAt h3 (g + 36) = some (arI 6 x_g36) := by rw [eh3]; exact hAt_n (by omega) k_g36_hh
      have k_g37_h3 : hAt h3 (g + 37) = some (ruC x_g37) := by rw [eh3]; exact hAt_n (by omega) k_g37_hh
      have f_h3 : fr (fun q => q = (g + 34) ∨ q = (g + 35) ∨ q = (g + 36) ∨ q = (g + 37)) h h3 := by rw [eh3]; exact fr_set f_hh (show (g + 34) = (g + 34) ∨ (g + 34) = (g + 35) ∨ (g + 34) = (g + 36) ∨ (g + 34) = (g + 37) by omega)
      refine x_aload_n (pc := 39) dX4_ticksUntilFound_39 rfl ?_
      refine x_getf (pc := 40) (v := .ref (g + 34)) dX4_ticksUntilFound_40 xf_X4_33 k_g_h3 rfl ?_
      refine x_getf (pc := 43) (v := .int (F4 0)) dX4_ticksUntilFound_43 xf_X4_157 k_g34_h3 rfl ?_
      refine x_iload_n (pc := 46) dX4_ticksUntilFound_46 rfl ?_
      refine x_icmp_ne (pc := 47) (tgt := 53) dX4_ticksUntilFound_47 (by decide) (fun (c2 : ¬ ((F4 0) = v3)) => ?_) (fun (c2 : (F4 0) = v3) => ?_)
      · rw [if_neg c2] at er
        replace hp := hp.2 c2
        refine x_iinc (pc := 53) (v := (v4 + (1 : Int32))) (L' := [(4, .int (v4 + (1 : Int32))), (3, .int v3), (0, .ref g), (1, .int i), (2, .int bel)]) dX4_ticksUntilFound_53 rfl rfl rfl rfl ?_
        refine x_goto (pc := 56) (tgt := 21) dX4_ticksUntilFound_56 (by decide) ?_
        subst er
        exact ih v3 F4 x_g35 x_g36 x_g37 (v4 + (1 : Int32)) h3 hp k_g_h3 k_g3_h3 k_g34_h3 k_g35_h3 k_g36_h3 k_g37_h3 f_h3
      · rw [if_pos c2] at er
        replace hp := hp.1 c2
        refine x_iload (pc := 50) dX4_ticksUntilFound_50 rfl ?_
        subst er
        exact x_iret (pc := 52) dX4_ticksUntilFound_52 rfl rfl rfl rfl ⟨rfl, k_g34_h3, k_g35_h3, k_g36_h3, k_g37_h3, f_h3⟩
def f_X4_ticksUntilFound (s : (Nat → Int32)) (r : (Nat → Int32)) (t : (Nat → Int32)) (W : (Nat → Nat → Int32)) (LF : (Nat → Nat → Int32)) (KF : (Nat → Nat → Int32)) (tw : (Nat → Int32)) (tl : (Nat → Int32)) (tk : (Nat → Int32)) (tu : (Nat → Int32)) (i bel : Int32) : Int32 × (Nat → Int32) × (Nat → Int32) × (Nat → Int32) × (Nat → Int32) := (l_X4_ticksUntilFound_21 xK s r t W LF KF tw tl tk tu i bel (f_X3_sought (f_X4_startTrial s r t W LF KF tw tl tk tu i bel).1 (f_X4_startTrial s r t W LF KF tw tl tk tu i bel).2.1 (f_X4_startTrial s r t W LF KF tw tl tk tu i bel).2.2.2) (f_X4_startTrial s r t W LF KF tw tl tk tu i bel).1 (f_X4_startTrial s r t W LF KF tw tl tk tu i bel).2.1 (f_X4_startTrial s r t W LF KF tw tl tk tu i bel).2.2.1 (f_X4_startTrial s r t W LF KF tw tl tk tu i bel).2.2.2 (1 : Int32))
def p_X4_ticksUntilFound (s : (Nat → Int32)) (r : (Nat → Int32)) (t : (Nat → Int32)) (W : (Nat → Nat → Int32)) (LF : (Nat → Nat → Int32)) (KF : (Nat → Nat → Int32)) (tw : (Nat → Int32)) (tl : (Nat → Int32)) (tk : (Nat → Int32)) (tu : (Nat → Int32)) (i bel : Int32) : Prop := (p_X4_startTrial s r t W LF KF tw tl tk tu i bel ∧ (p_X3_sought (f_X4_startTrial s r t W LF KF tw tl tk tu i bel).1 (f_X4_startTrial s r t W LF KF tw tl tk tu i bel).2.1 (f_X4_startTrial s r t W LF KF tw tl tk tu i bel).2.2.2 ∧ (q_X4_ticksUntilFound_21 xK s r t W LF KF tw tl tk tu i bel (f_X3_sought (f_X4_startTrial s r t W LF KF tw tl tk tu i bel).1 (f_X4_startTrial s r t W LF KF tw tl tk tu i bel).2.1 (f_X4_startTrial s r t W LF KF tw tl tk tu i bel).2.2.2) (f_X4_startTrial s r t W LF KF tw tl tk tu i bel).1 (f_X4_startTrial s r t W LF KF tw tl tk tu i bel).2.1 (f_X4_startTrial s r t W LF KF tw tl tk tu i bel).2.2.1 (f_X4_startTrial s r t W LF KF tw tl tk tu i bel).2.2.2 (1 : Int32))))
set_option maxRecDepth 100000 in
set_option maxHeartbeats 4000000 in
theorem C_X4_ticksUntilFound (G : xG) (h : xH) (g : Nat) (s : (Nat → Int32)) (r : (Nat → Int32)) (t : (Nat → Int32)) (W : (Nat → Nat → Int32)) (LF : (Nat → Nat → Int32)) (KF : (Nat → Nat → Int32)) (tw : (Nat → Int32)) (tl : (Nat → Int32)) (tk : (Nat → Int32)) (tu : (Nat → Int32)) (i bel : Int32) (k_g : hAt h g = some (gpC (g + 1) (g + 3) (g + 18) (g + 33) (g + 34) (g + 37) s)) (k_g3 : nk h (g + 3) r t W LF KF) (k_g34 : hAt h (g + 34) = some (waC (g + 35) (g + 36) tw)) (k_g35 : hAt h (g + 35) = some (arI 6 tl)) (k_g36 : hAt h (g + 36) = some (arI 6 tk)) (k_g37 : hAt h (g + 37) = some (ruC tu)) (hp : p_X4_ticksUntilFound s r t W LF KF tw tl tk tu i bel) : Ct G 5 0 0 yX4_ticksUntilFound cX4_ticksUntilFound 5 (some .int) [.ref g, .int i, .int bel] h (fun v' h' => v' = (some (.int (f_X4_ticksUntilFound s r t W LF KF tw tl tk tu i bel).1)) ∧ (hAt h' (g + 34) = some (waC (g + 35) (g + 36) (f_X4_ticksUntilFound s r t W LF KF tw tl tk tu i bel).2.1)) ∧ (hAt h' (g + 35) = some (arI 6 (f_X4_ticksUntilFound s r t W LF KF tw tl tk tu i bel).2.2.1)) ∧ (hAt h' (g + 36) = some (arI 6 (f_X4_ticksUntilFound s r t W LF KF tw tl tk tu i bel).2.2.2.1)) ∧ (hAt h' (g + 37) = some (ruC (f_X4_ticksUntilFound s r t W LF KF tw tl tk tu i bel).2.2.2.2)) ∧ fr (fun q => q = (g + 34) ∨ q = (g + 35) ∨ q = (g + 36) ∨ q = (g + 37)) h h') := by
  have u_0_1 : g ≠ (g + 34) := hne_k k_g k_g34 rfl
  have u_0_2 : g ≠ (g + 35) := hne_k k_g k_g35 rfl
  have u_0_3 : g ≠ (g + 36) := hne_k k_g k_g36 rfl
  have u_0_4 : g ≠ (g + 37) := hne_k k_g k_g37 rfl
  have u_1_2 : (g + 34) ≠ (g + 35) := hne_k k_g34 k_g35 rfl
  have u_1_3 : (g + 34) ≠ (g + 36) := hne_k k_g34 k_g36 rfl
  have u_1_4 : (g + 34) ≠ (g + 37) := hne_k k_g34 k_g37 rfl
  have u_2_4 : (g + 35) ≠ (g + 37) := hne_k k_g35 k_g37 rfl
  have u_3_4 : (g + 36) ≠ (g + 37) := hne_k k_g36 k_g37 rfl
  refine Ct.of (by decide) (by rfl) ?_
  refine Wp.eqs (L' := [(0, .ref g), (1, .int i), (2, .int bel)]) (st' := []) rfl rfl ?_
  obtain ⟨R, er⟩ : ∃ R, f_X4_ticksUntilFound s r t W LF KF tw tl tk tu i bel = R := ⟨_, rfl⟩
  rw [er]
  unfold f_X4_ticksUntilFound at er
  unfold p_X4_ticksUntilFound at hp
  refine x_aload_n (pc := 0) dX4_ticksUntilFound_0 rfl ?_
  refine x_iload_n (pc := 1) dX4_ticksUntilFound_1 rfl ?_
  refine x_iload_n (pc := 2) dX4_ticksUntilFound_2 rfl ?_
  obtain ⟨q3, hp⟩ := hp
  refine x_cVQ (pc := 3) (As := [.int i, .int bel]) (rest := []) dX4_ticksUntilFound_3 xl_X4_153 xv_X4_startTrial k_g rfl rfl rfl rfl rfl rfl (C_X4_startTrial G _ g s r t W LF KF tw tl tk tu i bel k_g k_g3 k_g34 k_g35 k_g36 k_g37 q3) (fun v h1 hq => ?_)
  obtain ⟨ev, z0_h1, z1_h1, z2_h1, z3_h1, g_h1⟩ := hq
  subst ev
  refine Wp.eqs (L' := [(0, .ref g), (1, .int i), (2, .int bel)]) (st' := []) rfl rfl ?_
  obtain ⟨F1, eF1⟩ : ∃ F, f_X4_startTrial s r t W LF KF tw tl tk tu i bel = F := ⟨_, rfl⟩
  try rw [eF1] at er
  try rw [eF1] at hp
  try rw [eF1]
  try rw [eF1] at z0_h1
  try rw [eF1] at z1_h1
  try rw [eF1] at z2_h1
  try rw [eF1] at z3_h1
  have k_g_h1 : hAt h1 g = some (gpC (g + 1) (g + 3) (g + 18) (g + 33) (g + 34) (g + 37) s) := (g_h1.2 g (show ¬ (g = (g + 34) ∨ g = (g + 35) ∨ g = (g + 36) ∨ g = (g + 37)) by omega)).trans k_g
  have k_g3_h1 : nk h1 (g + 3) r t W LF KF := nk_fr (fun q u1 u2 => g_h1.2 q (show ¬ (q = (g + 34) ∨ q = (g + 35) ∨ q = (g + 36) ∨ q = (g + 37)) by omega)) k_g3
  have k_g34_h1 : hAt h1 (g + 34) = some (waC (g + 35) (g + 36) F1.1) := z0_h1
  have k_g35_h1 : hAt h1 (g + 35) = some (arI 6 F1.2.1) := z1_h1
  have k_g36_h1 : hAt h1 (g + 36) = some (arI 6 F1.2.2.1) := z2_h1
  have k_g37_h1 : hAt h1 (g + 37) = some (ruC F1.2.2.2) := z3_h1
  have f_h1 : fr (fun q => q = (g + 34) ∨ q = (g + 35) ∨ q = (g + 36) ∨ q = (g + 37)) h h1 := fr_trans fr_refl (fr_mono (fun q (u : q = (g + 34) ∨ q = (g + 35) ∨ q = (g + 36) ∨ q = (g + 37)) => show q = (g + 34) ∨ q = (g + 35) ∨ q = (g + 36) ∨ q = (g + 37) by omega) g_h1)
  refine x_aload_n (pc := 6) dX4_ticksUntilFound_6 rfl ?_
  refine x_getf (pc := 7) (v := .ref (g + 34)) dX4_ticksUntilFound_7 xf_X4_33 k_g_h1 rfl ?_
  refine x_aload_n (pc := 10) dX4_ticksUntilFound_10 rfl ?_
  refine x_getf (pc := 11) (v := .ref (g + 37)) dX4_ticksUntilFound_11 xf_X4_40 k_g_h1 rfl ?_
  obtain ⟨q14, hp⟩ := hp
  refine x_cV1i (pc := 14) dX4_ticksUntilFound_14 xl_X4_203 xv_X3_sought k_g34_h1 rfl (C_X3_sought G _ (g + 34) (g + 37) (g + 35) (g + 36) F1.1 F1.2.1 F1.2.2.2 k_g34_h1 k_g35_h1 k_g37_h1 q14) rfl rfl rfl ?_
  obtain ⟨F2, eF2⟩ : ∃ F, f_X3_sought F1.1 F1.2.1 F1.2.2.2 = F := ⟨_, rfl⟩
  rw [eF2]
  try rw [eF2] at er
  try rw [eF2] at hp
  refine x_istore_n (pc := 17) (L' := [(3, .int F2), (0, .ref g), (1, .int i), (2, .int bel)]) dX4_ticksUntilFound_17 rfl rfl ?_
  refine x_iconst (pc := 18) (v := (1 : Int32)) dX4_ticksUntilFound_18 (by decide) ?_
  refine x_istore (pc := 19) (L' := [(4, .int (1 : Int32)), (3, .int F2), (0, .ref g), (1, .int i), (2, .int bel)]) dX4_ticksUntilFound_19 rfl rfl ?_
  subst er
  exact L_X4_ticksUntilFound_21 G h g s r t W LF KF tw tl tk tu i bel k_g k_g3 k_g34 k_g35 k_g36 k_g37  xK F2 F1.1 F1.2.1 F1.2.2.1 F1.2.2.2 (1 : Int32) h1 hp k_g_h1 k_g3_h1 k_g34_h1 k_g35_h1 k_g36_h1 k_g37_h1 f_h1

def f_X4_write (s : (Nat → Int32)) (x : (Nat → Int32)) (lf : (Nat → Int32)) (letter : Int32) : Int32 × (Nat → Int32) × (Nat → Int32) := (if letter < (32 : Int32) then ((-1 : Int32), x, lf) else (if letter ≤ (126 : Int32) then (if (x 0) < (240 : Int32) then (((f_X2_append x lf ((letter).toUInt32 % 65536).toInt32).1 0), (f_X2_append x lf ((letter).toUInt32 % 65536).toInt32).1, (f_X2_append x lf ((letter).toUInt32 % 65536).toInt32).2) else ((-3 : Int32), x, lf)) else ((-1 : Int32), x, lf)))
def p_X4_write (s : (Nat → Int32)) (x : (Nat → Int32)) (lf : (Nat → Int32)) (letter : Int32) : Prop := ((letter < (32 : Int32) → True) ∧ (¬ (letter < (32 : Int32)) → ((letter ≤ (126 : Int32) → (((x 0) < (240 : Int32) → (p_X2_append x lf ((letter).toUInt32 % 65536).toInt32 ∧ True)) ∧ (¬ ((x 0) < (240 : Int32)) → True))) ∧ (¬ (letter ≤ (126 : Int32)) → True))))
set_option maxRecDepth 100000 in
set_option maxHeartbeats 4000000 in
theorem C_X4_write (G : xG) (h : xH) (g : Nat) (s : (Nat → Int32)) (x : (Nat → Int32)) (lf : (Nat → Int32)) (letter : Int32) (k_g : hAt h g = some (gpC (g + 1) (g + 3) (g + 18) (g + 33) (g + 34) (g + 37) s)) (k_g1 : hAt h (g + 1) = some (txC (g + 2) x)) (k_g2 : hAt h (g + 2) = some (arC 240 lf)) (hp : p_X4_write s x lf letter) : Ct G 1 0 0 yX4_write cX4_write 2 (some .int) [.ref g, .int letter] h (fun v' h' => v' = (some (.int (f_X4_write s x lf letter).1)) ∧ (hAt h' (g + 1) = some (txC (g + 2) (f_X4_write s x lf letter).2.1)) ∧ (hAt h' (g + 2) = some (arC 240 (f_X4_write s x lf letter).2.2)) ∧ fr (fun q => q = (g + 1) ∨ q = (g + 2)) h h') := by
  have u_0_1 : g ≠ (g + 1) := hne_k k_g k_g1 rfl
  have u_0_2 : g ≠ (g + 2) := hne_k k_g k_g2 rfl
  have u_1_2 : (g + 1) ≠ (g + 2) := hne_k k_g1 k_g2 rfl
  refine Ct.of (by decide) (by rfl) ?_
  refine Wp.eqs (L' := [(0, .ref g), (1, .int letter)]) (st' := []) rfl rfl ?_
  obtain ⟨R, er⟩ : ∃ R, f_X4_write s x lf letter = R := ⟨_, rfl⟩
  rw [er]
  unfold f_X4_write at er
  unfold p_X4_write at hp
  refine x_iload_n (pc := 0) dX4_write_0 rfl ?_
  refine x_bipush (pc := 1) (v := (32 : Int32)) dX4_write_1 (by decide) ?_
  refine x_icmp_lt (pc := 3) (tgt := 12) dX4_write_3 (by decide) (fun (c1 : letter < (32 : Int32)) => ?_) (fun (c1 : ¬ (letter < (32 : Int32))) => ?_)
  · rw [if_pos c1] at er
    replace hp := hp.1 c1
    refine x_iconst (pc := 12) (v := (-1 : Int32)) dX4_write_12 (by decide) ?_
    subst er
    exact x_iret (pc := 13) dX4_write_13 rfl rfl rfl rfl ⟨rfl, k_g1, k_g2, fr_refl⟩
  · rw [if_neg c1] at er
    replace hp := hp.2 c1
    refine x_iload_n (pc := 6) dX4_write_6 rfl ?_
    refine x_bipush (pc := 7) (v := (126 : Int32)) dX4_write_7 (by decide) ?_
    refine x_icmp_le (pc := 9) (tgt := 14) dX4_write_9 (by decide) (fun (c2 : letter ≤ (126 : Int32)) => ?_) (fun (c2 : ¬ (letter ≤ (126 : Int32))) => ?_)
    · rw [if_pos c2] at er
      replace hp := hp.1 c2
      refine x_aload_n (pc := 14) dX4_write_14 rfl ?_
      refine x_getf (pc := 15) (v := .ref (g + 1)) dX4_write_15 xf_X4_10 k_g rfl ?_
      refine x_getf (pc := 18) (v := .int (x 0)) dX4_write_18 xf_X4_68 k_g1 rfl ?_
      refine x_sipush (pc := 21) (v := (240 : Int32)) dX4_write_21 (by decide) ?_
      refine x_icmp_lt (pc := 24) (tgt := 30) dX4_write_24 (by decide) (fun (c3 : (x 0) < (240 : Int32)) => ?_) (fun (c3 : ¬ ((x 0) < (240 : Int32))) => ?_)
      · rw [if_pos c3] at er
        replace hp := hp.1 c3
        refine x_aload_n (pc := 30) dX4_write_30 rfl ?_
        refine x_getf (pc := 31) (v := .ref (g + 1)) dX4_write_31 xf_X4_10 k_g rfl ?_
        refine x_iload_n (pc := 34) dX4_write_34 rfl ?_
        refine x_i2c (pc := 35) dX4_write_35 ?_
        obtain ⟨q36, hp⟩ := hp
        refine x_cV1v (pc := 36) dX4_write_36 xl_X4_56 xv_X2_append k_g1 rfl (C_X2_append G _ (g + 1) (g + 2) x lf ((letter).toUInt32 % 65536).toInt32 k_g1 k_g2 q36) rfl rfl rfl ?_
        obtain ⟨F1, eF1⟩ : ∃ F, f_X2_append x lf ((letter).toUInt32 % 65536).toInt32 = F := ⟨_, rfl⟩
        rw [eF1]
        try rw [eF1] at er
        try rw [eF1] at hp
        obtain ⟨h1, eh1⟩ : ∃ z, z = hSet h (g + 1) (txC (g + 2) F1.1) := ⟨_, rfl⟩
        rw [← eh1]
        have k_g_h1 : hAt h1 g = some (gpC (g + 1) (g + 3) (g + 18) (g + 33) (g + 34) (g + 37) s) := by rw [eh1]; exact hAt_n (by omega) k_g
        have k_g1_h1 : hAt h1 (g + 1) = some (txC (g + 2) F1.1) := by rw [eh1]; exact hAt_same
        have k_g2_h1 : hAt h1 (g + 2) = some (arC 240 lf) := by rw [eh1]; exact hAt_n (by omega) k_g2
        have f_h1 : fr (fun q => q = (g + 1) ∨ q = (g + 2)) h h1 := by rw [eh1]; exact fr_set fr_refl (show (g + 1) = (g + 1) ∨ (g + 1) = (g + 2) by omega)
        obtain ⟨h2, eh2⟩ : ∃ z, z = hSet h1 (g + 2) (arC 240 F1.2) := ⟨_, rfl⟩
        rw [← eh2]
        have k_g_h2 : hAt h2 g = some (gpC (g + 1) (g + 3) (g + 18) (g + 33) (g + 34) (g + 37) s) := by rw [eh2]; exact hAt_n (by omega) k_g_h1
        have k_g1_h2 : hAt h2 (g + 1) = some (txC (g + 2) F1.1) := by rw [eh2]; exact hAt_n (by omega) k_g1_h1
        have k_g2_h2 : hAt h2 (g + 2) = some (arC 240 F1.2) := by rw [eh2]; exact hAt_same
        have f_h2 : fr (fun q => q = (g + 1) ∨ q = (g + 2)) h h2 := by rw [eh2]; exact fr_set f_h1 (show (g + 2) = (g + 1) ∨ (g + 2) = (g + 2) by omega)
        refine x_aload_n (pc := 39) dX4_write_39 rfl ?_
        refine x_getf (pc := 40) (v := .ref (g + 1)) dX4_write_40 xf_X4_10 k_g_h2 rfl ?_
        refine x_getf (pc := 43) (v := .int (F1.1 0)) dX4_write_43 xf_X4_68 k_g1_h2 rfl ?_
        subst er
        exact x_iret (pc := 46) dX4_write_46 rfl rfl rfl rfl ⟨rfl, k_g1_h2, k_g2_h2, f_h2⟩
      · rw [if_neg c3] at er
        replace hp := hp.2 c3
        refine x_bipush (pc := 27) (v := (-3 : Int32)) dX4_write_27 (by decide) ?_
        subst er
        exact x_iret (pc := 29) dX4_write_29 rfl rfl rfl rfl ⟨rfl, k_g1, k_g2, fr_refl⟩
    · rw [if_neg c2] at er
      replace hp := hp.2 c2
      refine x_iconst (pc := 12) (v := (-1 : Int32)) dX4_write_12 (by decide) ?_
      subst er
      exact x_iret (pc := 13) dX4_write_13 rfl rfl rfl rfl ⟨rfl, k_g1, k_g2, fr_refl⟩

def f_X4_wipe (s : (Nat → Int32)) (x : (Nat → Int32)) : Int32 × (Nat → Int32) := ((x 0), (upd x 0 (0 : Int32)))
set_option maxRecDepth 100000 in
set_option maxHeartbeats 4000000 in
theorem C_X4_wipe (G : xG) (h : xH) (g : Nat) (s : (Nat → Int32)) (x : (Nat → Int32)) (k_g : hAt h g = some (gpC (g + 1) (g + 3) (g + 18) (g + 33) (g + 34) (g + 37) s)) (k_g1 : hAt h (g + 1) = some (txC (g + 2) x)) : Ct G 0 0 0 yX4_wipe cX4_wipe 2 (some .int) [.ref g] h (fun v' h' => v' = (some (.int (f_X4_wipe s x).1)) ∧ (hAt h' (g + 1) = some (txC (g + 2) (f_X4_wipe s x).2)) ∧ fr (fun q => q = (g + 1)) h h') := by
  have u_0_1 : g ≠ (g + 1) := hne_k k_g k_g1 rfl
  refine Ct.of (by decide) (by rfl) ?_
  refine Wp.eqs (L' := [(0, .ref g)]) (st' := []) rfl rfl ?_
  obtain ⟨R, er⟩ : ∃ R, f_X4_wipe s x = R := ⟨_, rfl⟩
  rw [er]
  unfold f_X4_wipe at er
  refine x_aload_n (pc := 0) dX4_wipe_0 rfl ?_
  refine x_getf (pc := 1) (v := .ref (g + 1)) dX4_wipe_1 xf_X4_10 k_g rfl ?_
  refine x_getf (pc := 4) (v := .int (x 0)) dX4_wipe_4 xf_X4_68 k_g1 rfl ?_
  refine x_istore_n (pc := 7) (L' := [(1, .int (x 0)), (0, .ref g)]) dX4_wipe_7 rfl rfl ?_
  refine x_aload_n (pc := 8) dX4_wipe_8 rfl ?_
  refine x_getf (pc := 9) (v := .ref (g + 1)) dX4_wipe_9 xf_X4_10 k_g rfl ?_
  refine x_iconst (pc := 12) (v := (0 : Int32)) dX4_wipe_12 (by decide) ?_
  refine x_putf (pc := 13) (e' := txC (g + 2) (upd x 0 (0 : Int32))) dX4_wipe_13 xf_X4_68 k_g1 rfl rfl rfl rfl ?_
  obtain ⟨h1, eh1⟩ : ∃ z, z = hSet h (g + 1) (txC (g + 2) (upd x 0 (0 : Int32))) := ⟨_, rfl⟩
  rw [← eh1]
  have k_g_h1 : hAt h1 g = some (gpC (g + 1) (g + 3) (g + 18) (g + 33) (g + 34) (g + 37) s) := by rw [eh1]; exact hAt_n (by omega) k_g
  have k_g1_h1 : hAt h1 (g + 1) = some (txC (g + 2) (upd x 0 (0 : Int32))) := by rw [eh1]; exact hAt_same
  have f_h1 : fr (fun q => q = (g + 1)) h h1 := by rw [eh1]; exact fr_set fr_refl (show (g + 1) = (g + 1) by omega)
  refine x_iload_n (pc := 16) dX4_wipe_16 rfl ?_
  subst er
  exact x_iret (pc := 17) dX4_wipe_17 rfl rfl rfl rfl ⟨rfl, k_g1_h1, f_h1⟩

def f_X4_fault (s : (Nat → Int32)) (x : (Nat → Int32)) (lf : (Nat → Int32)) (dr : (Nat → Int32)) (dt : (Nat → Int32)) (DW : (Nat → Nat → Int32)) (DL : (Nat → Nat → Int32)) (DK : (Nat → Nat → Int32)) : Int32 × (Nat → Int32) × (Nat → Int32) × (Nat → Int32) × (Nat → Nat → Int32) × (Nat → Nat → Int32) × (Nat → Nat → Int32) := ((f_X0_read dr dt DW DL DK x lf).1, (f_X0_read dr dt DW DL DK x lf).2.2.2.2.2.2, (f_X0_read dr dt DW DL DK x lf).2.1, (f_X0_read dr dt DW DL DK x lf).2.2.1, (f_X0_read dr dt DW DL DK x lf).2.2.2.1, (f_X0_read dr dt DW DL DK x lf).2.2.2.2.1, (f_X0_read dr dt DW DL DK x lf).2.2.2.2.2.1)
def p_X4_fault (s : (Nat → Int32)) (x : (Nat → Int32)) (lf : (Nat → Int32)) (dr : (Nat → Int32)) (dt : (Nat → Int32)) (DW : (Nat → Nat → Int32)) (DL : (Nat → Nat → Int32)) (DK : (Nat → Nat → Int32)) : Prop := (p_X0_read dr dt DW DL DK x lf ∧ True)
set_option maxRecDepth 100000 in
set_option maxHeartbeats 4000000 in
theorem C_X4_fault (G : xG) (h : xH) (g : Nat) (s : (Nat → Int32)) (x : (Nat → Int32)) (lf : (Nat → Int32)) (dr : (Nat → Int32)) (dt : (Nat → Int32)) (DW : (Nat → Nat → Int32)) (DL : (Nat → Nat → Int32)) (DK : (Nat → Nat → Int32)) (k_g : hAt h g = some (gpC (g + 1) (g + 3) (g + 18) (g + 33) (g + 34) (g + 37) s)) (k_g1 : hAt h (g + 1) = some (txC (g + 2) x)) (k_g2 : hAt h (g + 2) = some (arC 240 lf)) (k_g18 : nk h (g + 18) dr dt DW DL DK) (hp : p_X4_fault s x lf dr dt DW DL DK) : Ct G 9 0 0 yX4_fault cX4_fault 1 (some .int) [.ref g] h (fun v' h' => v' = (some (.int (f_X4_fault s x lf dr dt DW DL DK).1)) ∧ (hAt h' (g + 1) = some (txC (g + 2) (f_X4_fault s x lf dr dt DW DL DK).2.1)) ∧ (nk h' (g + 18) (f_X4_fault s x lf dr dt DW DL DK).2.2.1 (f_X4_fault s x lf dr dt DW DL DK).2.2.2.1 (f_X4_fault s x lf dr dt DW DL DK).2.2.2.2.1 (f_X4_fault s x lf dr dt DW DL DK).2.2.2.2.2.1 (f_X4_fault s x lf dr dt DW DL DK).2.2.2.2.2.2) ∧ fr (fun q => q = (g + 1) ∨ ((g + 18) ≤ q ∧ q < (g + 18) + 15)) h h') := by
  have u_0_1 : g ≠ (g + 1) := hne_k k_g k_g1 rfl
  have u_0_2 : g ≠ (g + 2) := hne_k k_g k_g2 rfl
  have u_1_2 : (g + 1) ≠ (g + 2) := hne_k k_g1 k_g2 rfl
  refine Ct.of (by decide) (by rfl) ?_
  refine Wp.eqs (L' := [(0, .ref g)]) (st' := []) rfl rfl ?_
  obtain ⟨R, er⟩ : ∃ R, f_X4_fault s x lf dr dt DW DL DK = R := ⟨_, rfl⟩
  rw [er]
  unfold f_X4_fault at er
  unfold p_X4_fault at hp
  refine x_aload_n (pc := 0) dX4_fault_0 rfl ?_
  refine x_getf (pc := 1) (v := .ref (g + 18)) dX4_fault_1 xf_X4_23 k_g rfl ?_
  refine x_aload_n (pc := 4) dX4_fault_4 rfl ?_
  refine x_getf (pc := 5) (v := .ref (g + 1)) dX4_fault_5 xf_X4_10 k_g rfl ?_
  obtain ⟨q8, hp⟩ := hp
  refine x_cVQ (pc := 8) (As := [.ref (g + 1)]) (rest := []) dX4_fault_8 xl_X4_60 xv_X0_read (nk_nt k_g18) rfl rfl rfl rfl rfl rfl (C_X0_read G _ (g + 18) (g + 1) (g + 2) dr dt DW DL DK x lf k_g18 k_g1 k_g2 (by omega) (by omega) q8) (fun v h1 hq => ?_)
  obtain ⟨ev, z0_h1, z1_h1, g_h1⟩ := hq
  subst ev
  refine Wp.eqs (L' := [(0, .ref g)]) (st' := [.int (f_X0_read dr dt DW DL DK x lf).1]) rfl rfl ?_
  obtain ⟨F1, eF1⟩ : ∃ F, f_X0_read dr dt DW DL DK x lf = F := ⟨_, rfl⟩
  try rw [eF1] at er
  try rw [eF1] at hp
  try rw [eF1]
  try rw [eF1] at z0_h1
  try rw [eF1] at z1_h1
  have k_g_h1 : hAt h1 g = some (gpC (g + 1) (g + 3) (g + 18) (g + 33) (g + 34) (g + 37) s) := (g_h1.2 g (show ¬ (((g + 18) ≤ g ∧ g < (g + 18) + 15) ∨ g = (g + 1)) by omega)).trans k_g
  have k_g1_h1 : hAt h1 (g + 1) = some (txC (g + 2) F1.2.2.2.2.2.2) := z1_h1
  have k_g2_h1 : hAt h1 (g + 2) = some (arC 240 lf) := (g_h1.2 (g + 2) (show ¬ (((g + 18) ≤ (g + 2) ∧ (g + 2) < (g + 18) + 15) ∨ (g + 2) = (g + 1)) by omega)).trans k_g2
  have k_g18_h1 : nk h1 (g + 18) F1.2.1 F1.2.2.1 F1.2.2.2.1 F1.2.2.2.2.1 F1.2.2.2.2.2.1 := z0_h1
  have f_h1 : fr (fun q => q = (g + 1) ∨ ((g + 18) ≤ q ∧ q < (g + 18) + 15)) h h1 := fr_trans fr_refl (fr_mono (fun q (u : ((g + 18) ≤ q ∧ q < (g + 18) + 15) ∨ q = (g + 1)) => show q = (g + 1) ∨ ((g + 18) ≤ q ∧ q < (g + 18) + 15) by omega) g_h1)
  subst er
  exact x_iret (pc := 11) dX4_fault_11 rfl rfl rfl rfl ⟨rfl, k_g1_h1, k_g18_h1, f_h1⟩

def f_X4_lay (s : (Nat → Int32)) (x : (Nat → Int32)) (lf : (Nat → Int32)) (r : (Nat → Int32)) (t : (Nat → Int32)) (W : (Nat → Nat → Int32)) (LF : (Nat → Nat → Int32)) (KF : (Nat → Nat → Int32)) (dr : (Nat → Int32)) (dt : (Nat → Int32)) (DW : (Nat → Nat → Int32)) (DL : (Nat → Nat → Int32)) (DK : (Nat → Nat → Int32)) : Int32 × (Nat → Int32) × (Nat → Int32) × (Nat → Int32) × (Nat → Int32) × (Nat → Nat → Int32) × (Nat → Nat → Int32) × (Nat → Nat → Int32) × (Nat → Int32) × (Nat → Int32) × (Nat → Nat → Int32) × (Nat → Nat → Int32) × (Nat → Nat → Int32) := (if (f_X0_read dr dt DW DL DK x lf).1 = (-4 : Int32) then (if ((f_X0_read dr dt DW DL DK x lf).2.2.1 0) = 0 then ((-2 : Int32), s, (f_X0_read dr dt DW DL DK x lf).2.2.2.2.2.2, r, t, W, LF, KF, (f_X0_read dr dt DW DL DK x lf).2.1, (f_X0_read dr dt DW DL DK x lf).2.2.1, (f_X0_read dr dt DW DL DK x lf).2.2.2.1, (f_X0_read dr dt DW DL DK x lf).2.2.2.2.1, (f_X0_read dr dt DW DL DK x lf).2.2.2.2.2.1) else (((f_X0_copy r t W LF KF (f_X0_read dr dt DW DL DK x lf).2.1 (f_X0_read dr dt DW DL DK x lf).2.2.1 (f_X0_read dr dt DW DL DK x lf).2.2.2.1 (f_X0_read dr dt DW DL DK x lf).2.2.2.2.1 (f_X0_read dr dt DW DL DK x lf).2.2.2.2.2.1).2.1 0), (upd s 1 (0 : Int32)), (f_X0_read dr dt DW DL DK x lf).2.2.2.2.2.2, (f_X0_copy r t W LF KF (f_X0_read dr dt DW DL DK x lf).2.1 (f_X0_read dr dt DW DL DK x lf).2.2.1 (f_X0_read dr dt DW DL DK x lf).2.2.2.1 (f_X0_read dr dt DW DL DK x lf).2.2.2.2.1 (f_X0_read dr dt DW DL DK x lf).2.2.2.2.2.1).1, (f_X0_copy r t W LF KF (f_X0_read dr dt DW DL DK x lf).2.1 (f_X0_read dr dt DW DL DK x lf).2.2.1 (f_X0_read dr dt DW DL DK x lf).2.2.2.1 (f_X0_read dr dt DW DL DK x lf).2.2.2.2.1 (f_X0_read dr dt DW DL DK x lf).2.2.2.2.2.1).2.1, (f_X0_copy r t W LF KF (f_X0_read dr dt DW DL DK x lf).2.1 (f_X0_read dr dt DW DL DK x lf).2.2.1 (f_X0_read dr dt DW DL DK x lf).2.2.2.1 (f_X0_read dr dt DW DL DK x lf).2.2.2.2.1 (f_X0_read dr dt DW DL DK x lf).2.2.2.2.2.1).2.2.1, (f_X0_copy r t W LF KF (f_X0_read dr dt DW DL DK x lf).2.1 (f_X0_read dr dt DW DL DK x lf).2.2.1 (f_X0_read dr dt DW DL DK x lf).2.2.2.1 (f_X0_read dr dt DW DL DK x lf).2.2.2.2.1 (f_X0_read dr dt DW DL DK x lf).2.2.2.2.2.1).2.2.2.1, (f_X0_copy r t W LF KF (f_X0_read dr dt DW DL DK x lf).2.1 (f_X0_read dr dt DW DL DK x lf).2.2.1 (f_X0_read dr dt DW DL DK x lf).2.2.2.1 (f_X0_read dr dt DW DL DK x lf).2.2.2.2.1 (f_X0_read dr dt DW DL DK x lf).2.2.2.2.2.1).2.2.2.2, (f_X0_read dr dt DW DL DK x lf).2.1, (f_X0_read dr dt DW DL DK x lf).2.2.1, (f_X0_read dr dt DW DL DK x lf).2.2.2.1, (f_X0_read dr dt DW DL DK x lf).2.2.2.2.1, (f_X0_read dr dt DW DL DK x lf).2.2.2.2.2.1)) else ((-2 : Int32), s, (f_X0_read dr dt DW DL DK x lf).2.2.2.2.2.2, r, t, W, LF, KF, (f_X0_read dr dt DW DL DK x lf).2.1, (f_X0_read dr dt DW DL DK x lf).2.2.1, (f_X0_read dr dt DW DL DK x lf).2.2.2.1, (f_X0_read dr dt DW DL DK x lf).2.2.2.2.1, (f_X0_read dr dt DW DL DK x lf).2.2.2.2.2.1))
def p_X4_lay (s : (Nat → Int32)) (x : (Nat → Int32)) (lf : (Nat → Int32)) (r : (Nat → Int32)) (t : (Nat → Int32)) (W : (Nat → Nat → Int32)) (LF : (Nat → Nat → Int32)) (KF : (Nat → Nat → Int32)) (dr : (Nat → Int32)) (dt : (Nat → Int32)) (DW : (Nat → Nat → Int32)) (DL : (Nat → Nat → Int32)) (DK : (Nat → Nat → Int32)) : Prop := (p_X0_read dr dt DW DL DK x lf ∧ (((f_X0_read dr dt DW DL DK x lf).1 = (-4 : Int32) → ((((f_X0_read dr dt DW DL DK x lf).2.2.1 0) = 0 → True) ∧ (¬ (((f_X0_read dr dt DW DL DK x lf).2.2.1 0) = 0) → (p_X0_copy r t W LF KF (f_X0_read dr dt DW DL DK x lf).2.1 (f_X0_read dr dt DW DL DK x lf).2.2.1 (f_X0_read dr dt DW DL DK x lf).2.2.2.1 (f_X0_read dr dt DW DL DK x lf).2.2.2.2.1 (f_X0_read dr dt DW DL DK x lf).2.2.2.2.2.1 ∧ True)))) ∧ (¬ ((f_X0_read dr dt DW DL DK x lf).1 = (-4 : Int32)) → True)))
set_option maxRecDepth 100000 in
set_option maxHeartbeats 4000000 in
theorem C_X4_lay (G : xG) (h : xH) (g : Nat) (s : (Nat → Int32)) (x : (Nat → Int32)) (lf : (Nat → Int32)) (r : (Nat → Int32)) (t : (Nat → Int32)) (W : (Nat → Nat → Int32)) (LF : (Nat → Nat → Int32)) (KF : (Nat → Nat → Int32)) (dr : (Nat → Int32)) (dt : (Nat → Int32)) (DW : (Nat → Nat → Int32)) (DL : (Nat → Nat → Int32)) (DK : (Nat → Nat → Int32)) (k_g : hAt h g = some (gpC (g + 1) (g + 3) (g + 18) (g + 33) (g + 34) (g + 37) s)) (k_g1 : hAt h (g + 1) = some (txC (g + 2) x)) (k_g2 : hAt h (g + 2) = some (arC 240 lf)) (k_g3 : nk h (g + 3) r t W LF KF) (k_g18 : nk h (g + 18) dr dt DW DL DK) (hp : p_X4_lay s x lf r t W LF KF dr dt DW DL DK) : Ct G 9 0 0 yX4_lay cX4_lay 1 (some .int) [.ref g] h (fun v' h' => v' = (some (.int (f_X4_lay s x lf r t W LF KF dr dt DW DL DK).1)) ∧ (hAt h' g = some (gpC (g + 1) (g + 3) (g + 18) (g + 33) (g + 34) (g + 37) (f_X4_lay s x lf r t W LF KF dr dt DW DL DK).2.1)) ∧ (hAt h' (g + 1) = some (txC (g + 2) (f_X4_lay s x lf r t W LF KF dr dt DW DL DK).2.2.1)) ∧ (nk h' (g + 3) (f_X4_lay s x lf r t W LF KF dr dt DW DL DK).2.2.2.1 (f_X4_lay s x lf r t W LF KF dr dt DW DL DK).2.2.2.2.1 (f_X4_lay s x lf r t W LF KF dr dt DW DL DK).2.2.2.2.2.1 (f_X4_lay s x lf r t W LF KF dr dt DW DL DK).2.2.2.2.2.2.1 (f_X4_lay s x lf r t W LF KF dr dt DW DL DK).2.2.2.2.2.2.2.1) ∧ (nk h' (g + 18) (f_X4_lay s x lf r t W LF KF dr dt DW DL DK).2.2.2.2.2.2.2.2.1 (f_X4_lay s x lf r t W LF KF dr dt DW DL DK).2.2.2.2.2.2.2.2.2.1 (f_X4_lay s x lf r t W LF KF dr dt DW DL DK).2.2.2.2.2.2.2.2.2.2.1 (f_X4_lay s x lf r t W LF KF dr dt DW DL DK).2.2.2.2.2.2.2.2.2.2.2.1 (f_X4_lay s x lf r t W LF KF dr dt DW DL DK).2.2.2.2.2.2.2.2.2.2.2.2) ∧ fr (fun q => q = g ∨ q = (g + 1) ∨ ((g + 3) ≤ q ∧ q < (g + 3) + 15) ∨ ((g + 18) ≤ q ∧ q < (g + 18) + 15)) h h') := by
  have u_0_1 : g ≠ (g + 1) := hne_k k_g k_g1 rfl
  have u_0_2 : g ≠ (g + 2) := hne_k k_g k_g2 rfl
  have u_1_2 : (g + 1) ≠ (g + 2) := hne_k k_g1 k_g2 rfl
  refine Ct.of (by decide) (by rfl) ?_
  refine Wp.eqs (L' := [(0, .ref g)]) (st' := []) rfl rfl ?_
  obtain ⟨R, er⟩ : ∃ R, f_X4_lay s x lf r t W LF KF dr dt DW DL DK = R := ⟨_, rfl⟩
  rw [er]
  unfold f_X4_lay at er
  unfold p_X4_lay at hp
  refine x_aload_n (pc := 0) dX4_lay_0 rfl ?_
  refine x_getf (pc := 1) (v := .ref (g + 18)) dX4_lay_1 xf_X4_23 k_g rfl ?_
  refine x_aload_n (pc := 4) dX4_lay_4 rfl ?_
  refine x_getf (pc := 5) (v := .ref (g + 1)) dX4_lay_5 xf_X4_10 k_g rfl ?_
  obtain ⟨q8, hp⟩ := hp
  refine x_cVQ (pc := 8) (As := [.ref (g + 1)]) (rest := []) dX4_lay_8 xl_X4_60 xv_X0_read (nk_nt k_g18) rfl rfl rfl rfl rfl rfl (C_X0_read G _ (g + 18) (g + 1) (g + 2) dr dt DW DL DK x lf k_g18 k_g1 k_g2 (by omega) (by omega) q8) (fun v h1 hq => ?_)
  obtain ⟨ev, z0_h1, z1_h1, g_h1⟩ := hq
  subst ev
  refine Wp.eqs (L' := [(0, .ref g)]) (st' := [.int (f_X0_read dr dt DW DL DK x lf).1]) rfl rfl ?_
  obtain ⟨F1, eF1⟩ : ∃ F, f_X0_read dr dt DW DL DK x lf = F := ⟨_, rfl⟩
  try rw [eF1] at er
  try rw [eF1] at hp
  try rw [eF1]
  try rw [eF1] at z0_h1
  try rw [eF1] at z1_h1
  have k_g_h1 : hAt h1 g = some (gpC (g + 1) (g + 3) (g + 18) (g + 33) (g + 34) (g + 37) s) := (g_h1.2 g (show ¬ (((g + 18) ≤ g ∧ g < (g + 18) + 15) ∨ g = (g + 1)) by omega)).trans k_g
  have k_g1_h1 : hAt h1 (g + 1) = some (txC (g + 2) F1.2.2.2.2.2.2) := z1_h1
  have k_g2_h1 : hAt h1 (g + 2) = some (arC 240 lf) := (g_h1.2 (g + 2) (show ¬ (((g + 18) ≤ (g + 2) ∧ (g + 2) < (g + 18) + 15) ∨ (g + 2) = (g + 1)) by omega)).trans k_g2
  have k_g3_h1 : nk h1 (g + 3) r t W LF KF := nk_fr (fun q u1 u2 => g_h1.2 q (show ¬ (((g + 18) ≤ q ∧ q < (g + 18) + 15) ∨ q = (g + 1)) by omega)) k_g3
  have k_g18_h1 : nk h1 (g + 18) F1.2.1 F1.2.2.1 F1.2.2.2.1 F1.2.2.2.2.1 F1.2.2.2.2.2.1 := z0_h1
  have f_h1 : fr (fun q => q = g ∨ q = (g + 1) ∨ ((g + 3) ≤ q ∧ q < (g + 3) + 15) ∨ ((g + 18) ≤ q ∧ q < (g + 18) + 15)) h h1 := fr_trans fr_refl (fr_mono (fun q (u : ((g + 18) ≤ q ∧ q < (g + 18) + 15) ∨ q = (g + 1)) => show q = g ∨ q = (g + 1) ∨ ((g + 3) ≤ q ∧ q < (g + 3) + 15) ∨ ((g + 18) ≤ q ∧ q < (g + 18) + 15) by omega) g_h1)
  refine x_bipush (pc := 11) (v := (-4 : Int32)) dX4_lay_11 (by decide) ?_
  refine x_icmp_ne (pc := 13) (tgt := 26) dX4_lay_13 (by decide) (fun (c1 : ¬ (F1.1 = (-4 : Int32))) => ?_) (fun (c1 : F1.1 = (-4 : Int32)) => ?_)
  · rw [if_neg c1] at er
    replace hp := hp.2 c1
    refine x_bipush (pc := 26) (v := (-2 : Int32)) dX4_lay_26 (by decide) ?_
    subst er
    exact x_iret (pc := 28) dX4_lay_28 rfl rfl rfl rfl ⟨rfl, k_g_h1, k_g1_h1, k_g3_h1, k_g18_h1, f_h1⟩
  · rw [if_pos c1] at er
    replace hp := hp.1 c1
    refine x_aload_n (pc := 16) dX4_lay_16 rfl ?_
    refine x_getf (pc := 17) (v := .ref (g + 18)) dX4_lay_17 xf_X4_23 k_g_h1 rfl ?_
    refine x_getf (pc := 20) (v := .int (F1.2.2.1 0)) dX4_lay_20 xf_X4_71 (nk_nt k_g18_h1) rfl ?_
    refine x_if_ne (pc := 23) (tgt := 29) dX4_lay_23 (by decide) (fun (c2 : ¬ ((F1.2.2.1 0) = 0)) => ?_) (fun (c2 : (F1.2.2.1 0) = 0) => ?_)
    · rw [if_neg c2] at er
      replace hp := hp.2 c2
      refine x_aload_n (pc := 29) dX4_lay_29 rfl ?_
      refine x_getf (pc := 30) (v := .ref (g + 3)) dX4_lay_30 xf_X4_19 k_g_h1 rfl ?_
      refine x_aload_n (pc := 33) dX4_lay_33 rfl ?_
      refine x_getf (pc := 34) (v := .ref (g + 18)) dX4_lay_34 xf_X4_23 k_g_h1 rfl ?_
      obtain ⟨q37, hp⟩ := hp
      refine x_cVQ (pc := 37) (As := [.ref (g + 18)]) (rest := []) dX4_lay_37 xl_X4_64 xv_X0_copy (nk_nt k_g3_h1) rfl rfl rfl rfl rfl rfl (C_X0_copy G _ (g + 3) (g + 18) r t W LF KF F1.2.1 F1.2.2.1 F1.2.2.2.1 F1.2.2.2.2.1 F1.2.2.2.2.2.1 k_g3_h1 k_g18_h1 (by omega) q37) (fun v h2 hq => ?_)
      obtain ⟨ev, z0_h2, g_h2⟩ := hq
      subst ev
      refine Wp.eqs (L' := [(0, .ref g)]) (st' := []) rfl rfl ?_
      obtain ⟨F2, eF2⟩ : ∃ F, f_X0_copy r t W LF KF F1.2.1 F1.2.2.1 F1.2.2.2.1 F1.2.2.2.2.1 F1.2.2.2.2.2.1 = F := ⟨_, rfl⟩
      try rw [eF2] at er
      try rw [eF2] at hp
      try rw [eF2]
      try rw [eF2] at z0_h2
      have k_g_h2 : hAt h2 g = some (gpC (g + 1) (g + 3) (g + 18) (g + 33) (g + 34) (g + 37) s) := (g_h2.2 g (show ¬ (((g + 3) ≤ g ∧ g < (g + 3) + 15)) by omega)).trans k_g_h1
      have k_g1_h2 : hAt h2 (g + 1) = some (txC (g + 2) F1.2.2.2.2.2.2) := (g_h2.2 (g + 1) (show ¬ (((g + 3) ≤ (g + 1) ∧ (g + 1) < (g + 3) + 15)) by omega)).trans k_g1_h1
      have k_g2_h2 : hAt h2 (g + 2) = some (arC 240 lf) := (g_h2.2 (g + 2) (show ¬ (((g + 3) ≤ (g + 2) ∧ (g + 2) < (g + 3) + 15)) by omega)).trans k_g2_h1
      have k_g3_h2 : nk h2 (g + 3) F2.1 F2.2.1 F2.2.2.1 F2.2.2.2.1 F2.2.2.2.2 := z0_h2
      have k_g18_h2 : nk h2 (g + 18) F1.2.1 F1.2.2.1 F1.2.2.2.1 F1.2.2.2.2.1 F1.2.2.2.2.2.1 := nk_fr (fun q u1 u2 => g_h2.2 q (show ¬ (((g + 3) ≤ q ∧ q < (g + 3) + 15)) by omega)) k_g18_h1
      have f_h2 : fr (fun q => q = g ∨ q = (g + 1) ∨ ((g + 3) ≤ q ∧ q < (g + 3) + 15) ∨ ((g + 18) ≤ q ∧ q < (g + 18) + 15)) h h2 := fr_trans f_h1 (fr_mono (fun q (u : ((g + 3) ≤ q ∧ q < (g + 3) + 15)) => show q = g ∨ q = (g + 1) ∨ ((g + 3) ≤ q ∧ q < (g + 3) + 15) ∨ ((g + 18) ≤ q ∧ q < (g + 18) + 15) by omega) g_h2)
      refine x_aload_n (pc := 40) dX4_lay_40 rfl ?_
      refine x_iconst (pc := 41) (v := (0 : Int32)) dX4_lay_41 (by decide) ?_
      refine x_putf (pc := 42) (e' := gpC (g + 1) (g + 3) (g + 18) (g + 33) (g + 34) (g + 37) (upd s 1 (0 : Int32))) dX4_lay_42 xf_X4_74 k_g_h2 rfl rfl rfl rfl ?_
      obtain ⟨h3, eh3⟩ : ∃ z, z = hSet h2 g (gpC (g + 1) (g + 3) (g + 18) (g + 33) (g + 34) (g + 37) (upd s 1 (0 : Int32))) := ⟨_, rfl⟩
      rw [← eh3]
      have k_g_h3 : hAt h3 g = some (gpC (g + 1) (g + 3) (g + 18) (g + 33) (g + 34) (g + 37) (upd s 1 (0 : Int32))) := by rw [eh3]; exact hAt_same
      have k_g1_h3 : hAt h3 (g + 1) = some (txC (g + 2) F1.2.2.2.2.2.2) := by rw [eh3]; exact hAt_n (by omega) k_g1_h2
      have k_g2_h3 : hAt h3 (g + 2) = some (arC 240 lf) := by rw [eh3]; exact hAt_n (by omega) k_g2_h2
      have k_g3_h3 : nk h3 (g + 3) F2.1 F2.2.1 F2.2.2.1 F2.2.2.2.1 F2.2.2.2.2 := by rw [eh3]; exact nk_fr1 (by omega) k_g3_h2
      have k_g18_h3 : nk h3 (g + 18) F1.2.1 F1.2.2.1 F1.2.2.2.1 F1.2.2.2.2.1 F1.2.2.2.2.2.1 := by rw [eh3]; exact nk_fr1 (by omega) k_g18_h2
      have f_h3 : fr (fun q => q = g ∨ q = (g + 1) ∨ ((g + 3) ≤ q ∧ q < (g + 3) + 15) ∨ ((g + 18) ≤ q ∧ q < (g + 18) + 15)) h h3 := by rw [eh3]; exact fr_set f_h2 (show g = g ∨ g = (g + 1) ∨ ((g + 3) ≤ g ∧ g < (g + 3) + 15) ∨ ((g + 18) ≤ g ∧ g < (g + 18) + 15) by omega)
      refine x_aload_n (pc := 45) dX4_lay_45 rfl ?_
      refine x_getf (pc := 46) (v := .ref (g + 3)) dX4_lay_46 xf_X4_19 k_g_h3 rfl ?_
      refine x_getf (pc := 49) (v := .int (F2.2.1 0)) dX4_lay_49 xf_X4_71 (nk_nt k_g3_h3) rfl ?_
      subst er
      exact x_iret (pc := 52) dX4_lay_52 rfl rfl rfl rfl ⟨rfl, k_g_h3, k_g1_h3, k_g3_h3, k_g18_h3, f_h3⟩
    · rw [if_pos c2] at er
      replace hp := hp.1 c2
      refine x_bipush (pc := 26) (v := (-2 : Int32)) dX4_lay_26 (by decide) ?_
      subst er
      exact x_iret (pc := 28) dX4_lay_28 rfl rfl rfl rfl ⟨rfl, k_g_h1, k_g1_h1, k_g3_h1, k_g18_h1, f_h1⟩
