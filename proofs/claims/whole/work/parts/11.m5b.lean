def l_X4_tick_44 : Nat → (Nat → Int32) → (Nat → Int32) → (Nat → Int32) → (Nat → Nat → Int32) → (Nat → Nat → Int32) → (Nat → Nat → Int32) → (Nat → Nat → Int32) → (Nat → Nat → Int32) → (Nat → Nat → Nat → Int32) → (Nat → Nat → Nat → Int32) → (Nat → Nat → Nat → Int32) → Int32 → Int32 → (Nat → Int32) → (Nat → Nat → Int32) → (Nat → Nat → Int32) → (Nat → Nat → Nat → Int32) → (Nat → Nat → Nat → Int32) → (Nat → Nat → Nat → Int32) → Int32 → (Nat → Nat → Int32) → Int32 × (Nat → Int32) × (Nat → Nat → Int32) × (Nat → Nat → Int32) × (Nat → Nat → Nat → Int32) × (Nat → Nat → Nat → Int32) × (Nat → Nat → Nat → Int32) × Int32 × (Nat → Nat → Int32)
  | 0, _, _, _, _, _, _, _, _, _, _, _, _, _, _, _, _, _, _, _, _, _ => (0, (fun _ => 0), (fun _ _ => 0), (fun _ _ => 0), (fun _ _ _ => 0), (fun _ _ _ => 0), (fun _ _ _ => 0), 0, (fun _ _ => 0))
  | n + 1, s, r, t, W, LF, KF, ER, ET, EW, EL, EK, nn, v2, x_g, x_g38_r, x_g38_t, x_g38_W, x_g38_LF, x_g38_KF, v3, x_g3_W => (if (t 0) ≤ v3 then (v2, x_g, x_g38_r, x_g38_t, x_g38_W, x_g38_LF, x_g38_KF, v3, x_g3_W) else (l_X4_tick_44 n s r t W LF KF ER ET EW EL EK nn v2 x_g x_g38_r x_g38_t x_g38_W x_g38_LF x_g38_KF (v3 + (1 : Int32)) (va_up x_g3_W (v3.toNatClampNeg) (f_X3_goOn (x_g3_W (v3.toNatClampNeg)) (LF (v3.toNatClampNeg)) (KF (v3.toNatClampNeg)) r nn))))
def q_X4_tick_44 : Nat → (Nat → Int32) → (Nat → Int32) → (Nat → Int32) → (Nat → Nat → Int32) → (Nat → Nat → Int32) → (Nat → Nat → Int32) → (Nat → Nat → Int32) → (Nat → Nat → Int32) → (Nat → Nat → Nat → Int32) → (Nat → Nat → Nat → Int32) → (Nat → Nat → Nat → Int32) → Int32 → Int32 → (Nat → Int32) → (Nat → Nat → Int32) → (Nat → Nat → Int32) → (Nat → Nat → Nat → Int32) → (Nat → Nat → Nat → Int32) → (Nat → Nat → Nat → Int32) → Int32 → (Nat → Nat → Int32) → Prop
  | 0, _, _, _, _, _, _, _, _, _, _, _, _, _, _, _, _, _, _, _, _, _ => False
  | n + 1, s, r, t, W, LF, KF, ER, ET, EW, EL, EK, nn, v2, x_g, x_g38_r, x_g38_t, x_g38_W, x_g38_LF, x_g38_KF, v3, x_g3_W => (((t 0) ≤ v3 → True) ∧ (¬ ((t 0) ≤ v3) → (vp_in v3 4 ∧ (p_X3_goOn (x_g3_W (v3.toNatClampNeg)) (LF (v3.toNatClampNeg)) (KF (v3.toNatClampNeg)) r nn ∧ (q_X4_tick_44 n s r t W LF KF ER ET EW EL EK nn v2 x_g x_g38_r x_g38_t x_g38_W x_g38_LF x_g38_KF (v3 + (1 : Int32)) (va_up x_g3_W (v3.toNatClampNeg) (f_X3_goOn (x_g3_W (v3.toNatClampNeg)) (LF (v3.toNatClampNeg)) (KF (v3.toNatClampNeg)) r nn)))))))
set_option maxRecDepth 100000 in
set_option maxHeartbeats 4000000 in
theorem L_X4_tick_44 (G : xG) (h : xH) (g : Nat) (s : (Nat → Int32)) (r : (Nat → Int32)) (t : (Nat → Int32)) (W : (Nat → Nat → Int32)) (LF : (Nat → Nat → Int32)) (KF : (Nat → Nat → Int32)) (ER : (Nat → Nat → Int32)) (ET : (Nat → Nat → Int32)) (EW : (Nat → Nat → Nat → Int32)) (EL : (Nat → Nat → Nat → Int32)) (EK : (Nat → Nat → Nat → Int32)) (nn : Int32) (k_g : hAt h g = some (gpC (g + 1) (g + 3) (g + 18) (g + 33) (g + 34) (g + 37) s)) (k_g3 : nk h (g + 3) r t W LF KF) (k_g33 : hAt h (g + 33) = some (arR 2 4 (fun j => some ((g + 38) + 15 * j)))) (k_g38 : ek h (g + 38) ER ET EW EL EK) {Z : xZ} : ∀ (n : Nat) (v2 : Int32) (x_g : (Nat → Int32)) (x_g38_r : (Nat → Nat → Int32)) (x_g38_t : (Nat → Nat → Int32)) (x_g38_W : (Nat → Nat → Nat → Int32)) (x_g38_LF : (Nat → Nat → Nat → Int32)) (x_g38_KF : (Nat → Nat → Nat → Int32)) (v3 : Int32) (x_g3_W : (Nat → Nat → Int32)), ∀ (hh : xH), q_X4_tick_44 n s r t W LF KF ER ET EW EL EK nn v2 x_g x_g38_r x_g38_t x_g38_W x_g38_LF x_g38_KF v3 x_g3_W → hAt hh g = some (gpC (g + 1) (g + 3) (g + 18) (g + 33) (g + 34) (g + 37) x_g) → nk hh (g + 3) r t x_g3_W LF KF → hAt hh (g + 33) = some (arR 2 4 (fun j => some ((g + 38) + 15 * j))) → ek hh (g + 38) x_g38_r x_g38_t x_g38_W x_g38_LF x_g38_KF → fr (fun q => q = g ∨ ((g + 3) ≤ q ∧ q < (g + 3) + 15) ∨ ((g + 38) ≤ q ∧ q < (g + 38) + 60)) h hh → (∀ h2 : xH, hAt h2 g = some (gpC (g + 1) (g + 3) (g + 18) (g + 33) (g + 34) (g + 37) (l_X4_tick_44 n s r t W LF KF ER ET EW EL EK nn v2 x_g x_g38_r x_g38_t x_g38_W x_g38_LF x_g38_KF v3 x_g3_W).2.1) → nk h2 (g + 3) r t (l_X4_tick_44 n s r t W LF KF ER ET EW EL EK nn v2 x_g x_g38_r x_g38_t x_g38_W x_g38_LF x_g38_KF v3 x_g3_W).2.2.2.2.2.2.2.2 LF KF → hAt h2 (g + 33) = some (arR 2 4 (fun j => some ((g + 38) + 15 * j))) → ek h2 (g + 38) (l_X4_tick_44 n s r t W LF KF ER ET EW EL EK nn v2 x_g x_g38_r x_g38_t x_g38_W x_g38_LF x_g38_KF v3 x_g3_W).2.2.1 (l_X4_tick_44 n s r t W LF KF ER ET EW EL EK nn v2 x_g x_g38_r x_g38_t x_g38_W x_g38_LF x_g38_KF v3 x_g3_W).2.2.2.1 (l_X4_tick_44 n s r t W LF KF ER ET EW EL EK nn v2 x_g x_g38_r x_g38_t x_g38_W x_g38_LF x_g38_KF v3 x_g3_W).2.2.2.2.1 (l_X4_tick_44 n s r t W LF KF ER ET EW EL EK nn v2 x_g x_g38_r x_g38_t x_g38_W x_g38_LF x_g38_KF v3 x_g3_W).2.2.2.2.2.1 (l_X4_tick_44 n s r t W LF KF ER ET EW EL EK nn v2 x_g x_g38_r x_g38_t x_g38_W x_g38_LF x_g38_KF v3 x_g3_W).2.2.2.2.2.2.1 → fr (fun q => q = g ∨ ((g + 3) ≤ q ∧ q < (g + 3) + 15) ∨ ((g + 38) ≤ q ∧ q < (g + 38) + 60)) h h2 → Wp G yX4_tick.cls cX4_tick 4 yX4_tick.name (some .int) (xR 6 0 0) Z 0 0 81 [(3, .int (l_X4_tick_44 n s r t W LF KF ER ET EW EL EK nn v2 x_g x_g38_r x_g38_t x_g38_W x_g38_LF x_g38_KF v3 x_g3_W).2.2.2.2.2.2.2.1), (2, .int (l_X4_tick_44 n s r t W LF KF ER ET EW EL EK nn v2 x_g x_g38_r x_g38_t x_g38_W x_g38_LF x_g38_KF v3 x_g3_W).1), (0, .ref g), (1, .int nn)] [] h2) → Wp G yX4_tick.cls cX4_tick 4 yX4_tick.name (some .int) (xR 6 0 0) Z 0 0 44 [(3, .int v3), (2, .int v2), (0, .ref g), (1, .int nn)] [] hh := by
  intro n
  induction n with
  | zero => intro v2 x_g x_g38_r x_g38_t x_g38_W x_g38_LF x_g38_KF v3 x_g3_W hh hp; exact absurd hp id
  | succ n ih =>
    intro v2 x_g x_g38_r x_g38_t x_g38_W x_g38_LF x_g38_KF v3 x_g3_W hh hp k_g_hh k_g3_hh k_g33_hh k_g38_hh f_hh kk
    obtain ⟨R, er⟩ : ∃ R, l_X4_tick_44 (n + 1) s r t W LF KF ER ET EW EL EK nn v2 x_g x_g38_r x_g38_t x_g38_W x_g38_LF x_g38_KF v3 x_g3_W = R := ⟨_, rfl⟩
    rw [er] at kk
    rw [l_X4_tick_44] at er
    rw [q_X4_tick_44] at hp
    refine x_iload_n (pc := 44) dX4_tick_44 rfl ?_
    refine x_aload_n (pc := 45) dX4_tick_45 rfl ?_
    refine x_getf (pc := 46) (v := .ref (g + 3)) dX4_tick_46 xf_X4_19 k_g_hh rfl ?_
    refine x_getf (pc := 49) (v := .int (t 0)) dX4_tick_49 xf_X4_71 (nk_nt k_g3_hh) rfl ?_
    refine x_icmp_ge (pc := 52) (tgt := 81) dX4_tick_52 (by decide) (fun (c3 : (t 0) ≤ v3) => ?_) (fun (c3 : ¬ ((t 0) ≤ v3)) => ?_)
    · rw [if_pos c3] at er
      replace hp := hp.1 c3
      subst er
      exact kk hh k_g_hh k_g3_hh k_g33_hh k_g38_hh f_hh
    · rw [if_neg c3] at er
      replace hp := hp.2 c3
      refine x_aload_n (pc := 55) dX4_tick_55 rfl ?_
      refine x_getf (pc := 56) (v := .ref (g + 3)) dX4_tick_56 xf_X4_19 k_g_hh rfl ?_
      refine x_getf (pc := 59) (v := .ref ((g + 3) + 2)) dX4_tick_59 xf_X4_90 (nk_nt k_g3_hh) rfl ?_
      refine x_iload_n (pc := 62) dX4_tick_62 rfl ?_
      obtain ⟨q63, hp⟩ := hp
      have hj2 : (v3.toNatClampNeg) < 4 := vp_lt q63
      refine x_aald (pc := 63) (t := 3) (Cn := RX3) (b := ((g + 3) + 3 + 3 * (v3.toNatClampNeg))) rfl dX4_tick_63 (nk_wy k_g3_hh) q63 rfl ?_
      refine x_iload_n (pc := 64) dX4_tick_64 rfl ?_
      refine x_aload_n (pc := 65) dX4_tick_65 rfl ?_
      refine x_getf (pc := 66) (v := .ref (g + 3)) dX4_tick_66 xf_X4_19 k_g_hh rfl ?_
      refine x_getf (pc := 69) (v := .ref ((g + 3) + 1)) dX4_tick_69 xf_X4_94 (nk_nt k_g3_hh) rfl ?_
      obtain ⟨q72, hp⟩ := hp
      refine x_cV2v (pc := 72) dX4_tick_72 xl_X4_97 xv_X3_goOn (nk_wa k_g3_hh hj2) rfl (C_X3_goOn G _ ((g + 3) + 3 + 3 * (v3.toNatClampNeg)) ((g + 3) + 1) ((g + 3) + 4 + 3 * (v3.toNatClampNeg)) ((g + 3) + 5 + 3 * (v3.toNatClampNeg)) (x_g3_W (v3.toNatClampNeg)) (LF (v3.toNatClampNeg)) (KF (v3.toNatClampNeg)) r nn (nk_wa k_g3_hh hj2) (nk_la k_g3_hh hj2) (nk_ka k_g3_hh hj2) (nk_ru k_g3_hh) q72) rfl rfl rfl ?_
      obtain ⟨F5, eF5⟩ : ∃ F, f_X3_goOn (x_g3_W (v3.toNatClampNeg)) (LF (v3.toNatClampNeg)) (KF (v3.toNatClampNeg)) r nn = F := ⟨_, rfl⟩
      rw [eF5]
      try rw [eF5] at er
      try rw [eF5] at hp
      obtain ⟨h3, eh3⟩ : ∃ z, z = hSet hh ((g + 3) + 3 + 3 * (v3.toNatClampNeg)) (waC ((g + 3) + 4 + 3 * (v3.toNatClampNeg)) ((g + 3) + 5 + 3 * (v3.toNatClampNeg)) F5) := ⟨_, rfl⟩
      rw [← eh3]
      have k_g_h3 : hAt h3 g = some (gpC (g + 1) (g + 3) (g + 18) (g + 33) (g + 34) (g + 37) x_g) := by rw [eh3]; exact hAt_n (by omega) k_g_hh
      have k_g3_h3 : nk h3 (g + 3) r t (va_up x_g3_W (v3.toNatClampNeg) F5) LF KF := by rw [eh3]; exact nk_swa k_g3_hh hj2
      have k_g33_h3 : hAt h3 (g + 33) = some (arR 2 4 (fun j => some ((g + 38) + 15 * j))) := by rw [eh3]; exact hAt_n (by omega) k_g33_hh
      have k_g38_h3 : ek h3 (g + 38) x_g38_r x_g38_t x_g38_W x_g38_LF x_g38_KF := by rw [eh3]; exact ek_fr1 (by omega) k_g38_hh
      have f_h3 : fr (fun q => q = g ∨ ((g + 3) ≤ q ∧ q < (g + 3) + 15) ∨ ((g + 38) ≤ q ∧ q < (g + 38) + 60)) h h3 := by rw [eh3]; exact fr_set f_hh (show ((g + 3) + 3 + 3 * (v3.toNatClampNeg)) = g ∨ ((g + 3) ≤ ((g + 3) + 3 + 3 * (v3.toNatClampNeg)) ∧ ((g + 3) + 3 + 3 * (v3.toNatClampNeg)) < (g + 3) + 15) ∨ ((g + 38) ≤ ((g + 3) + 3 + 3 * (v3.toNatClampNeg)) ∧ ((g + 3) + 3 + 3 * (v3.toNatClampNeg)) < (g + 38) + 60) by omega)
      refine x_iinc (pc := 75) (v := (v3 + (1 : Int32))) (L' := [(3, .int (v3 + (1 : Int32))), (2, .int v2), (0, .ref g), (1, .int nn)]) dX4_tick_75 rfl rfl rfl rfl ?_
      refine x_goto (pc := 78) (tgt := 44) dX4_tick_78 (by decide) ?_
      subst er
      exact ih v2 x_g x_g38_r x_g38_t x_g38_W x_g38_LF x_g38_KF (v3 + (1 : Int32)) (va_up x_g3_W (v3.toNatClampNeg) F5) h3 hp k_g_h3 k_g3_h3 k_g33_h3 k_g38_h3 f_h3 kk
def f_X4_tick (s : (Nat → Int32)) (r : (Nat → Int32)) (t : (Nat → Int32)) (W : (Nat → Nat → Int32)) (LF : (Nat → Nat → Int32)) (KF : (Nat → Nat → Int32)) (ER : (Nat → Nat → Int32)) (ET : (Nat → Nat → Int32)) (EW : (Nat → Nat → Nat → Int32)) (EL : (Nat → Nat → Nat → Int32)) (EK : (Nat → Nat → Nat → Int32)) (nn : Int32) : Int32 × (Nat → Int32) × (Nat → Int32) × (Nat → Nat → Int32) × (Nat → Nat → Int32) × (Nat → Nat → Int32) × (Nat → Nat → Nat → Int32) × (Nat → Nat → Nat → Int32) × (Nat → Nat → Nat → Int32) := (if (f_X4_isBetween nn (1 : Int32) (99 : Int32)) = 0 then ((-1 : Int32), s, t, W, ER, ET, EW, EL, EK) else (if ((t 1) + nn) ≤ (9999 : Int32) then (((f_X0_allLost r (upd t 1 ((t 1) + nn)) (l_X4_tick_44 xK s r t W LF KF ER ET EW EL EK nn (f_X0_allLost r t W LF KF) (f_X4_remember s r t W LF KF ER ET EW EL EK).1 (f_X4_remember s r t W LF KF ER ET EW EL EK).2.1 (f_X4_remember s r t W LF KF ER ET EW EL EK).2.2.1 (f_X4_remember s r t W LF KF ER ET EW EL EK).2.2.2.1 (f_X4_remember s r t W LF KF ER ET EW EL EK).2.2.2.2.1 (f_X4_remember s r t W LF KF ER ET EW EL EK).2.2.2.2.2 (0 : Int32) W).2.2.2.2.2.2.2.2 LF KF) - (l_X4_tick_44 xK s r t W LF KF ER ET EW EL EK nn (f_X0_allLost r t W LF KF) (f_X4_remember s r t W LF KF ER ET EW EL EK).1 (f_X4_remember s r t W LF KF ER ET EW EL EK).2.1 (f_X4_remember s r t W LF KF ER ET EW EL EK).2.2.1 (f_X4_remember s r t W LF KF ER ET EW EL EK).2.2.2.1 (f_X4_remember s r t W LF KF ER ET EW EL EK).2.2.2.2.1 (f_X4_remember s r t W LF KF ER ET EW EL EK).2.2.2.2.2 (0 : Int32) W).1), (l_X4_tick_44 xK s r t W LF KF ER ET EW EL EK nn (f_X0_allLost r t W LF KF) (f_X4_remember s r t W LF KF ER ET EW EL EK).1 (f_X4_remember s r t W LF KF ER ET EW EL EK).2.1 (f_X4_remember s r t W LF KF ER ET EW EL EK).2.2.1 (f_X4_remember s r t W LF KF ER ET EW EL EK).2.2.2.1 (f_X4_remember s r t W LF KF ER ET EW EL EK).2.2.2.2.1 (f_X4_remember s r t W LF KF ER ET EW EL EK).2.2.2.2.2 (0 : Int32) W).2.1, (upd t 1 ((t 1) + nn)), (l_X4_tick_44 xK s r t W LF KF ER ET EW EL EK nn (f_X0_allLost r t W LF KF) (f_X4_remember s r t W LF KF ER ET EW EL EK).1 (f_X4_remember s r t W LF KF ER ET EW EL EK).2.1 (f_X4_remember s r t W LF KF ER ET EW EL EK).2.2.1 (f_X4_remember s r t W LF KF ER ET EW EL EK).2.2.2.1 (f_X4_remember s r t W LF KF ER ET EW EL EK).2.2.2.2.1 (f_X4_remember s r t W LF KF ER ET EW EL EK).2.2.2.2.2 (0 : Int32) W).2.2.2.2.2.2.2.2, (l_X4_tick_44 xK s r t W LF KF ER ET EW EL EK nn (f_X0_allLost r t W LF KF) (f_X4_remember s r t W LF KF ER ET EW EL EK).1 (f_X4_remember s r t W LF KF ER ET EW EL EK).2.1 (f_X4_remember s r t W LF KF ER ET EW EL EK).2.2.1 (f_X4_remember s r t W LF KF ER ET EW EL EK).2.2.2.1 (f_X4_remember s r t W LF KF ER ET EW EL EK).2.2.2.2.1 (f_X4_remember s r t W LF KF ER ET EW EL EK).2.2.2.2.2 (0 : Int32) W).2.2.1, (l_X4_tick_44 xK s r t W LF KF ER ET EW EL EK nn (f_X0_allLost r t W LF KF) (f_X4_remember s r t W LF KF ER ET EW EL EK).1 (f_X4_remember s r t W LF KF ER ET EW EL EK).2.1 (f_X4_remember s r t W LF KF ER ET EW EL EK).2.2.1 (f_X4_remember s r t W LF KF ER ET EW EL EK).2.2.2.1 (f_X4_remember s r t W LF KF ER ET EW EL EK).2.2.2.2.1 (f_X4_remember s r t W LF KF ER ET EW EL EK).2.2.2.2.2 (0 : Int32) W).2.2.2.1, (l_X4_tick_44 xK s r t W LF KF ER ET EW EL EK nn (f_X0_allLost r t W LF KF) (f_X4_remember s r t W LF KF ER ET EW EL EK).1 (f_X4_remember s r t W LF KF ER ET EW EL EK).2.1 (f_X4_remember s r t W LF KF ER ET EW EL EK).2.2.1 (f_X4_remember s r t W LF KF ER ET EW EL EK).2.2.2.1 (f_X4_remember s r t W LF KF ER ET EW EL EK).2.2.2.2.1 (f_X4_remember s r t W LF KF ER ET EW EL EK).2.2.2.2.2 (0 : Int32) W).2.2.2.2.1, (l_X4_tick_44 xK s r t W LF KF ER ET EW EL EK nn (f_X0_allLost r t W LF KF) (f_X4_remember s r t W LF KF ER ET EW EL EK).1 (f_X4_remember s r t W LF KF ER ET EW EL EK).2.1 (f_X4_remember s r t W LF KF ER ET EW EL EK).2.2.1 (f_X4_remember s r t W LF KF ER ET EW EL EK).2.2.2.1 (f_X4_remember s r t W LF KF ER ET EW EL EK).2.2.2.2.1 (f_X4_remember s r t W LF KF ER ET EW EL EK).2.2.2.2.2 (0 : Int32) W).2.2.2.2.2.1, (l_X4_tick_44 xK s r t W LF KF ER ET EW EL EK nn (f_X0_allLost r t W LF KF) (f_X4_remember s r t W LF KF ER ET EW EL EK).1 (f_X4_remember s r t W LF KF ER ET EW EL EK).2.1 (f_X4_remember s r t W LF KF ER ET EW EL EK).2.2.1 (f_X4_remember s r t W LF KF ER ET EW EL EK).2.2.2.1 (f_X4_remember s r t W LF KF ER ET EW EL EK).2.2.2.2.1 (f_X4_remember s r t W LF KF ER ET EW EL EK).2.2.2.2.2 (0 : Int32) W).2.2.2.2.2.2.1) else ((-2 : Int32), s, t, W, ER, ET, EW, EL, EK)))
def p_X4_tick (s : (Nat → Int32)) (r : (Nat → Int32)) (t : (Nat → Int32)) (W : (Nat → Nat → Int32)) (LF : (Nat → Nat → Int32)) (KF : (Nat → Nat → Int32)) (ER : (Nat → Nat → Int32)) (ET : (Nat → Nat → Int32)) (EW : (Nat → Nat → Nat → Int32)) (EL : (Nat → Nat → Nat → Int32)) (EK : (Nat → Nat → Nat → Int32)) (nn : Int32) : Prop := (((f_X4_isBetween nn (1 : Int32) (99 : Int32)) = 0 → True) ∧ (¬ ((f_X4_isBetween nn (1 : Int32) (99 : Int32)) = 0) → ((((t 1) + nn) ≤ (9999 : Int32) → (p_X4_remember s r t W LF KF ER ET EW EL EK ∧ (p_X0_allLost r t W LF KF ∧ ((q_X4_tick_44 xK s r t W LF KF ER ET EW EL EK nn (f_X0_allLost r t W LF KF) (f_X4_remember s r t W LF KF ER ET EW EL EK).1 (f_X4_remember s r t W LF KF ER ET EW EL EK).2.1 (f_X4_remember s r t W LF KF ER ET EW EL EK).2.2.1 (f_X4_remember s r t W LF KF ER ET EW EL EK).2.2.2.1 (f_X4_remember s r t W LF KF ER ET EW EL EK).2.2.2.2.1 (f_X4_remember s r t W LF KF ER ET EW EL EK).2.2.2.2.2 (0 : Int32) W) ∧ (p_X0_allLost r (upd t 1 ((t 1) + nn)) (l_X4_tick_44 xK s r t W LF KF ER ET EW EL EK nn (f_X0_allLost r t W LF KF) (f_X4_remember s r t W LF KF ER ET EW EL EK).1 (f_X4_remember s r t W LF KF ER ET EW EL EK).2.1 (f_X4_remember s r t W LF KF ER ET EW EL EK).2.2.1 (f_X4_remember s r t W LF KF ER ET EW EL EK).2.2.2.1 (f_X4_remember s r t W LF KF ER ET EW EL EK).2.2.2.2.1 (f_X4_remember s r t W LF KF ER ET EW EL EK).2.2.2.2.2 (0 : Int32) W).2.2.2.2.2.2.2.2 LF KF ∧ True))))) ∧ (¬ (((t 1) + nn) ≤ (9999 : Int32)) → True))))
set_option maxRecDepth 100000 in
set_option maxHeartbeats 4000000 in
theorem C_X4_tick (G : xG) (h : xH) (g : Nat) (s : (Nat → Int32)) (r : (Nat → Int32)) (t : (Nat → Int32)) (W : (Nat → Nat → Int32)) (LF : (Nat → Nat → Int32)) (KF : (Nat → Nat → Int32)) (ER : (Nat → Nat → Int32)) (ET : (Nat → Nat → Int32)) (EW : (Nat → Nat → Nat → Int32)) (EL : (Nat → Nat → Nat → Int32)) (EK : (Nat → Nat → Nat → Int32)) (nn : Int32) (k_g : hAt h g = some (gpC (g + 1) (g + 3) (g + 18) (g + 33) (g + 34) (g + 37) s)) (k_g3 : nk h (g + 3) r t W LF KF) (k_g33 : hAt h (g + 33) = some (arR 2 4 (fun j => some ((g + 38) + 15 * j)))) (k_g38 : ek h (g + 38) ER ET EW EL EK) (hp : p_X4_tick s r t W LF KF ER ET EW EL EK nn) : Ct G 6 0 0 yX4_tick cX4_tick 4 (some .int) [.ref g, .int nn] h (fun v' h' => v' = (some (.int (f_X4_tick s r t W LF KF ER ET EW EL EK nn).1)) ∧ (hAt h' g = some (gpC (g + 1) (g + 3) (g + 18) (g + 33) (g + 34) (g + 37) (f_X4_tick s r t W LF KF ER ET EW EL EK nn).2.1)) ∧ (nk h' (g + 3) r (f_X4_tick s r t W LF KF ER ET EW EL EK nn).2.2.1 (f_X4_tick s r t W LF KF ER ET EW EL EK nn).2.2.2.1 LF KF) ∧ (ek h' (g + 38) (f_X4_tick s r t W LF KF ER ET EW EL EK nn).2.2.2.2.1 (f_X4_tick s r t W LF KF ER ET EW EL EK nn).2.2.2.2.2.1 (f_X4_tick s r t W LF KF ER ET EW EL EK nn).2.2.2.2.2.2.1 (f_X4_tick s r t W LF KF ER ET EW EL EK nn).2.2.2.2.2.2.2.1 (f_X4_tick s r t W LF KF ER ET EW EL EK nn).2.2.2.2.2.2.2.2) ∧ fr (fun q => q = g ∨ ((g + 3) ≤ q ∧ q < (g + 3) + 15) ∨ ((g + 38) ≤ q ∧ q < (g + 38) + 60)) h h') := by
  refine Ct.of (by decide) (by rfl) ?_
  refine Wp.eqs (L' := [(0, .ref g), (1, .int nn)]) (st' := []) rfl rfl ?_
  obtain ⟨R, er⟩ : ∃ R, f_X4_tick s r t W LF KF ER ET EW EL EK nn = R := ⟨_, rfl⟩
  rw [er]
  unfold f_X4_tick at er
  unfold p_X4_tick at hp
  refine x_iload_n (pc := 0) dX4_tick_0 rfl ?_
  refine x_iconst (pc := 1) (v := (1 : Int32)) dX4_tick_1 (by decide) ?_
  refine x_bipush (pc := 2) (v := (99 : Int32)) dX4_tick_2 (by decide) ?_
  refine x_cS3i (pc := 4) dX4_tick_4 xl_X4_77 xs_X4_isBetween (C_X4_isBetween G _ nn (1 : Int32) (99 : Int32)) rfl rfl rfl ?_
  obtain ⟨F1, eF1⟩ : ∃ F, f_X4_isBetween nn (1 : Int32) (99 : Int32) = F := ⟨_, rfl⟩
  rw [eF1]
  try rw [eF1] at er
  try rw [eF1] at hp
  have bF1 : xB F1 := by rw [← eF1]; exact (B_X4_isBetween _ _ _)
  refine x_if_ne (pc := 7) (tgt := 12) dX4_tick_7 (by decide) (fun (c1 : ¬ (F1 = 0)) => ?_) (fun (c1 : F1 = 0) => ?_)
  · rw [if_neg c1] at er
    replace hp := hp.2 c1
    refine x_aload_n (pc := 12) dX4_tick_12 rfl ?_
    refine x_getf (pc := 13) (v := .ref (g + 3)) dX4_tick_13 xf_X4_19 k_g rfl ?_
    refine x_getf (pc := 16) (v := .int (t 1)) dX4_tick_16 xf_X4_81 (nk_nt k_g3) rfl ?_
    refine x_iload_n (pc := 19) dX4_tick_19 rfl ?_
    refine x_iadd (pc := 20) dX4_tick_20 ?_
    refine x_sipush (pc := 21) (v := (9999 : Int32)) dX4_tick_21 (by decide) ?_
    refine x_icmp_le (pc := 24) (tgt := 30) dX4_tick_24 (by decide) (fun (c2 : ((t 1) + nn) ≤ (9999 : Int32)) => ?_) (fun (c2 : ¬ (((t 1) + nn) ≤ (9999 : Int32))) => ?_)
    · rw [if_pos c2] at er
      replace hp := hp.1 c2
      refine x_aload_n (pc := 30) dX4_tick_30 rfl ?_
      obtain ⟨q31, hp⟩ := hp
      refine x_cVQ (pc := 31) (As := []) (rest := []) dX4_tick_31 xl_X4_84 xv_X4_remember k_g rfl rfl rfl rfl rfl rfl (C_X4_remember G _ g s r t W LF KF ER ET EW EL EK k_g k_g3 k_g33 k_g38 q31) (fun v h1 hq => ?_)
      obtain ⟨ev, z0_h1, z1_h1, g_h1⟩ := hq
      subst ev
      refine Wp.eqs (L' := [(0, .ref g), (1, .int nn)]) (st' := []) rfl rfl ?_
      obtain ⟨F2, eF2⟩ : ∃ F, f_X4_remember s r t W LF KF ER ET EW EL EK = F := ⟨_, rfl⟩
      try rw [eF2] at er
      try rw [eF2] at hp
      try rw [eF2]
      try rw [eF2] at z0_h1
      try rw [eF2] at z1_h1
      have k_g_h1 : hAt h1 g = some (gpC (g + 1) (g + 3) (g + 18) (g + 33) (g + 34) (g + 37) F2.1) := z0_h1
      have k_g3_h1 : nk h1 (g + 3) r t W LF KF := nk_fr (fun q u1 u2 => g_h1.2 q (show ¬ (q = g ∨ ((g + 38) ≤ q ∧ q < (g + 38) + 60)) by omega)) k_g3
      have k_g33_h1 : hAt h1 (g + 33) = some (arR 2 4 (fun j => some ((g + 38) + 15 * j))) := (g_h1.2 (g + 33) (show ¬ ((g + 33) = g ∨ ((g + 38) ≤ (g + 33) ∧ (g + 33) < (g + 38) + 60)) by omega)).trans k_g33
      have k_g38_h1 : ek h1 (g + 38) F2.2.1 F2.2.2.1 F2.2.2.2.1 F2.2.2.2.2.1 F2.2.2.2.2.2 := z1_h1
      have f_h1 : fr (fun q => q = g ∨ ((g + 3) ≤ q ∧ q < (g + 3) + 15) ∨ ((g + 38) ≤ q ∧ q < (g + 38) + 60)) h h1 := fr_trans fr_refl (fr_mono (fun q (u : q = g ∨ ((g + 38) ≤ q ∧ q < (g + 38) + 60)) => show q = g ∨ ((g + 3) ≤ q ∧ q < (g + 3) + 15) ∨ ((g + 38) ≤ q ∧ q < (g + 38) + 60) by omega) g_h1)
      refine x_aload_n (pc := 34) dX4_tick_34 rfl ?_
      refine x_getf (pc := 35) (v := .ref (g + 3)) dX4_tick_35 xf_X4_19 k_g_h1 rfl ?_
      obtain ⟨q38, hp⟩ := hp
      refine x_cV0i (pc := 38) dX4_tick_38 xl_X4_87 xv_X0_allLost (nk_nt k_g3_h1) rfl (C_X0_allLost G _ (g + 3) r t W LF KF k_g3_h1 q38) rfl rfl rfl ?_
      obtain ⟨F3, eF3⟩ : ∃ F, f_X0_allLost r t W LF KF = F := ⟨_, rfl⟩
      rw [eF3]
      try rw [eF3] at er
      try rw [eF3] at hp
      refine x_istore_n (pc := 41) (L' := [(2, .int F3), (0, .ref g), (1, .int nn)]) dX4_tick_41 rfl rfl ?_
      refine x_iconst (pc := 42) (v := (0 : Int32)) dX4_tick_42 (by decide) ?_
      refine x_istore_n (pc := 43) (L' := [(3, .int (0 : Int32)), (2, .int F3), (0, .ref g), (1, .int nn)]) dX4_tick_43 rfl rfl ?_
      obtain ⟨ql44, hp⟩ := hp
      refine L_X4_tick_44 G h g s r t W LF KF ER ET EW EL EK nn k_g k_g3 k_g33 k_g38  xK F3 F2.1 F2.2.1 F2.2.2.1 F2.2.2.2.1 F2.2.2.2.2.1 F2.2.2.2.2.2 (0 : Int32) W h1 ql44 k_g_h1 k_g3_h1 k_g33_h1 k_g38_h1 f_h1 (fun h4 k_g_h4 k_g3_h4 k_g33_h4 k_g38_h4 f_h4 => ?_)
      obtain ⟨F6, eF6⟩ : ∃ F, l_X4_tick_44 xK s r t W LF KF ER ET EW EL EK nn F3 F2.1 F2.2.1 F2.2.2.1 F2.2.2.2.1 F2.2.2.2.2.1 F2.2.2.2.2.2 (0 : Int32) W = F := ⟨_, rfl⟩
      try rw [eF6]
      try rw [eF6] at er
      try rw [eF6] at hp
      try rw [eF6] at k_g_h4
      try rw [eF6] at k_g3_h4
      try rw [eF6] at k_g33_h4
      try rw [eF6] at k_g38_h4
      refine x_aload_n (pc := 81) dX4_tick_81 rfl ?_
      refine x_getf (pc := 82) (v := .ref (g + 3)) dX4_tick_82 xf_X4_19 k_g_h4 rfl ?_
      refine x_dup (pc := 85) dX4_tick_85 rfl ?_
      refine x_getf (pc := 86) (v := .int (t 1)) dX4_tick_86 xf_X4_81 (nk_nt k_g3_h4) rfl ?_
      refine x_iload_n (pc := 89) dX4_tick_89 rfl ?_
      refine x_iadd (pc := 90) dX4_tick_90 ?_
      refine x_putf (pc := 91) (e' := ntC ((g + 3) + 1) ((g + 3) + 2) (upd t 1 ((t 1) + nn))) dX4_tick_91 xf_X4_81 (nk_nt k_g3_h4) rfl rfl rfl rfl ?_
      obtain ⟨h5, eh5⟩ : ∃ z, z = hSet h4 (g + 3) (ntC ((g + 3) + 1) ((g + 3) + 2) (upd t 1 ((t 1) + nn))) := ⟨_, rfl⟩
      rw [← eh5]
      have k_g_h5 : hAt h5 g = some (gpC (g + 1) (g + 3) (g + 18) (g + 33) (g + 34) (g + 37) F6.2.1) := by rw [eh5]; exact hAt_n (by omega) k_g_h4
      have k_g3_h5 : nk h5 (g + 3) r (upd t 1 ((t 1) + nn)) F6.2.2.2.2.2.2.2.2 LF KF := by rw [eh5]; exact nk_snt k_g3_h4
      have k_g33_h5 : hAt h5 (g + 33) = some (arR 2 4 (fun j => some ((g + 38) + 15 * j))) := by rw [eh5]; exact hAt_n (by omega) k_g33_h4
      have k_g38_h5 : ek h5 (g + 38) F6.2.2.1 F6.2.2.2.1 F6.2.2.2.2.1 F6.2.2.2.2.2.1 F6.2.2.2.2.2.2.1 := by rw [eh5]; exact ek_fr1 (by omega) k_g38_h4
      have f_h5 : fr (fun q => q = g ∨ ((g + 3) ≤ q ∧ q < (g + 3) + 15) ∨ ((g + 38) ≤ q ∧ q < (g + 38) + 60)) h h5 := by rw [eh5]; exact fr_set f_h4 (show (g + 3) = g ∨ ((g + 3) ≤ (g + 3) ∧ (g + 3) < (g + 3) + 15) ∨ ((g + 38) ≤ (g + 3) ∧ (g + 3) < (g + 38) + 60) by omega)
      refine x_aload_n (pc := 94) dX4_tick_94 rfl ?_
      refine x_getf (pc := 95) (v := .ref (g + 3)) dX4_tick_95 xf_X4_19 k_g_h5 rfl ?_
      obtain ⟨q98, hp⟩ := hp
      refine x_cV0i (pc := 98) dX4_tick_98 xl_X4_87 xv_X0_allLost (nk_nt k_g3_h5) rfl (C_X0_allLost G _ (g + 3) r (upd t 1 ((t 1) + nn)) F6.2.2.2.2.2.2.2.2 LF KF k_g3_h5 q98) rfl rfl rfl ?_
      obtain ⟨F7, eF7⟩ : ∃ F, f_X0_allLost r (upd t 1 ((t 1) + nn)) F6.2.2.2.2.2.2.2.2 LF KF = F := ⟨_, rfl⟩
      rw [eF7]
      try rw [eF7] at er
      try rw [eF7] at hp
      refine x_iload_n (pc := 101) dX4_tick_101 rfl ?_
      refine x_isub (pc := 102) dX4_tick_102 ?_
      subst er
      exact x_iret (pc := 103) dX4_tick_103 rfl rfl rfl rfl ⟨rfl, k_g_h5, k_g3_h5, k_g38_h5, f_h5⟩
    · rw [if_neg c2] at er
      replace hp := hp.2 c2
      refine x_bipush (pc := 27) (v := (-2 : Int32)) dX4_tick_27 (by decide) ?_
      subst er
      exact x_iret (pc := 29) dX4_tick_29 rfl rfl rfl rfl ⟨rfl, k_g, k_g3, k_g38, fr_refl⟩
  · rw [if_pos c1] at er
    replace hp := hp.1 c1
    refine x_iconst (pc := 10) (v := (-1 : Int32)) dX4_tick_10 (by decide) ?_
    subst er
    exact x_iret (pc := 11) dX4_tick_11 rfl rfl rfl rfl ⟨rfl, k_g, k_g3, k_g38, fr_refl⟩

def f_X4_send (s : (Nat → Int32)) (r : (Nat → Int32)) (t : (Nat → Int32)) (W : (Nat → Nat → Int32)) (LF : (Nat → Nat → Int32)) (KF : (Nat → Nat → Int32)) (ER : (Nat → Nat → Int32)) (ET : (Nat → Nat → Int32)) (EW : (Nat → Nat → Nat → Int32)) (EL : (Nat → Nat → Nat → Int32)) (EK : (Nat → Nat → Nat → Int32)) (i size : Int32) : Int32 × (Nat → Int32) × (Nat → Nat → Int32) × (Nat → Nat → Int32) × (Nat → Nat → Int32) × (Nat → Nat → Nat → Int32) × (Nat → Nat → Nat → Int32) × (Nat → Nat → Nat → Int32) := (if (f_X4_isWay s r t W LF KF i) = 0 then ((-1 : Int32), s, W, ER, ET, EW, EL, EK) else (if (f_X4_isBetween size (1 : Int32) (999 : Int32)) = 0 then ((-1 : Int32), s, W, ER, ET, EW, EL, EK) else (if ((W (i.toNatClampNeg)) 7) < (99999 : Int32) then ((f_X3_post (W (i.toNatClampNeg)) (LF (i.toNatClampNeg)) (KF (i.toNatClampNeg)) r size).1, (f_X4_remember s r t W LF KF ER ET EW EL EK).1, (va_up W (i.toNatClampNeg) (f_X3_post (W (i.toNatClampNeg)) (LF (i.toNatClampNeg)) (KF (i.toNatClampNeg)) r size).2), (f_X4_remember s r t W LF KF ER ET EW EL EK).2.1, (f_X4_remember s r t W LF KF ER ET EW EL EK).2.2.1, (f_X4_remember s r t W LF KF ER ET EW EL EK).2.2.2.1, (f_X4_remember s r t W LF KF ER ET EW EL EK).2.2.2.2.1, (f_X4_remember s r t W LF KF ER ET EW EL EK).2.2.2.2.2) else ((-2 : Int32), s, W, ER, ET, EW, EL, EK))))
def p_X4_send (s : (Nat → Int32)) (r : (Nat → Int32)) (t : (Nat → Int32)) (W : (Nat → Nat → Int32)) (LF : (Nat → Nat → Int32)) (KF : (Nat → Nat → Int32)) (ER : (Nat → Nat → Int32)) (ET : (Nat → Nat → Int32)) (EW : (Nat → Nat → Nat → Int32)) (EL : (Nat → Nat → Nat → Int32)) (EK : (Nat → Nat → Nat → Int32)) (i size : Int32) : Prop := (((f_X4_isWay s r t W LF KF i) = 0 → True) ∧ (¬ ((f_X4_isWay s r t W LF KF i) = 0) → (((f_X4_isBetween size (1 : Int32) (999 : Int32)) = 0 → True) ∧ (¬ ((f_X4_isBetween size (1 : Int32) (999 : Int32)) = 0) → (vp_in i 4 ∧ ((((W (i.toNatClampNeg)) 7) < (99999 : Int32) → (p_X4_remember s r t W LF KF ER ET EW EL EK ∧ (vp_in i 4 ∧ (p_X3_post (W (i.toNatClampNeg)) (LF (i.toNatClampNeg)) (KF (i.toNatClampNeg)) r size ∧ True)))) ∧ (¬ (((W (i.toNatClampNeg)) 7) < (99999 : Int32)) → True)))))))
set_option maxRecDepth 100000 in
set_option maxHeartbeats 4000000 in
theorem C_X4_send (G : xG) (h : xH) (g : Nat) (s : (Nat → Int32)) (r : (Nat → Int32)) (t : (Nat → Int32)) (W : (Nat → Nat → Int32)) (LF : (Nat → Nat → Int32)) (KF : (Nat → Nat → Int32)) (ER : (Nat → Nat → Int32)) (ET : (Nat → Nat → Int32)) (EW : (Nat → Nat → Nat → Int32)) (EL : (Nat → Nat → Nat → Int32)) (EK : (Nat → Nat → Nat → Int32)) (i size : Int32) (k_g : hAt h g = some (gpC (g + 1) (g + 3) (g + 18) (g + 33) (g + 34) (g + 37) s)) (k_g3 : nk h (g + 3) r t W LF KF) (k_g33 : hAt h (g + 33) = some (arR 2 4 (fun j => some ((g + 38) + 15 * j)))) (k_g38 : ek h (g + 38) ER ET EW EL EK) (hp : p_X4_send s r t W LF KF ER ET EW EL EK i size) : Ct G 4 0 0 yX4_send cX4_send 3 (some .int) [.ref g, .int i, .int size] h (fun v' h' => v' = (some (.int (f_X4_send s r t W LF KF ER ET EW EL EK i size).1)) ∧ (hAt h' g = some (gpC (g + 1) (g + 3) (g + 18) (g + 33) (g + 34) (g + 37) (f_X4_send s r t W LF KF ER ET EW EL EK i size).2.1)) ∧ (nk h' (g + 3) r t (f_X4_send s r t W LF KF ER ET EW EL EK i size).2.2.1 LF KF) ∧ (ek h' (g + 38) (f_X4_send s r t W LF KF ER ET EW EL EK i size).2.2.2.1 (f_X4_send s r t W LF KF ER ET EW EL EK i size).2.2.2.2.1 (f_X4_send s r t W LF KF ER ET EW EL EK i size).2.2.2.2.2.1 (f_X4_send s r t W LF KF ER ET EW EL EK i size).2.2.2.2.2.2.1 (f_X4_send s r t W LF KF ER ET EW EL EK i size).2.2.2.2.2.2.2) ∧ fr (fun q => q = g ∨ ((g + 3) ≤ q ∧ q < (g + 3) + 15) ∨ ((g + 38) ≤ q ∧ q < (g + 38) + 60)) h h') := by
  refine Ct.of (by decide) (by rfl) ?_
  refine Wp.eqs (L' := [(0, .ref g), (1, .int i), (2, .int size)]) (st' := []) rfl rfl ?_
  obtain ⟨R, er⟩ : ∃ R, f_X4_send s r t W LF KF ER ET EW EL EK i size = R := ⟨_, rfl⟩
  rw [er]
  unfold f_X4_send at er
  unfold p_X4_send at hp
  refine x_aload_n (pc := 0) dX4_send_0 rfl ?_
  refine x_iload_n (pc := 1) dX4_send_1 rfl ?_
  refine x_cV1i (pc := 2) dX4_send_2 xl_X4_101 xv_X4_isWay k_g rfl (C_X4_isWay G _ g s r t W LF KF i k_g k_g3) rfl rfl rfl ?_
  obtain ⟨F1, eF1⟩ : ∃ F, f_X4_isWay s r t W LF KF i = F := ⟨_, rfl⟩
  rw [eF1]
  try rw [eF1] at er
  try rw [eF1] at hp
  have bF1 : xB F1 := by rw [← eF1]; exact (B_X4_isWay _ _ _ _ _ _ _)
  refine x_if_eq (pc := 5) (tgt := 19) dX4_send_5 (by decide) (fun (c1 : F1 = 0) => ?_) (fun (c1 : ¬ (F1 = 0)) => ?_)
  · rw [if_pos c1] at er
    replace hp := hp.1 c1
    refine x_iconst (pc := 19) (v := (-1 : Int32)) dX4_send_19 (by decide) ?_
    subst er
    exact x_iret (pc := 20) dX4_send_20 rfl rfl rfl rfl ⟨rfl, k_g, k_g3, k_g38, fr_refl⟩
  · rw [if_neg c1] at er
    replace hp := hp.2 c1
    refine x_iload_n (pc := 8) dX4_send_8 rfl ?_
    refine x_iconst (pc := 9) (v := (1 : Int32)) dX4_send_9 (by decide) ?_
    refine x_sipush (pc := 10) (v := (999 : Int32)) dX4_send_10 (by decide) ?_
    refine x_cS3i (pc := 13) dX4_send_13 xl_X4_77 xs_X4_isBetween (C_X4_isBetween G _ size (1 : Int32) (999 : Int32)) rfl rfl rfl ?_
    obtain ⟨F2, eF2⟩ : ∃ F, f_X4_isBetween size (1 : Int32) (999 : Int32) = F := ⟨_, rfl⟩
    rw [eF2]
    try rw [eF2] at er
    try rw [eF2] at hp
    have bF2 : xB F2 := by rw [← eF2]; exact (B_X4_isBetween _ _ _)
    refine x_if_ne (pc := 16) (tgt := 21) dX4_send_16 (by decide) (fun (c2 : ¬ (F2 = 0)) => ?_) (fun (c2 : F2 = 0) => ?_)
    · rw [if_neg c2] at er
      replace hp := hp.2 c2
      refine x_aload_n (pc := 21) dX4_send_21 rfl ?_
      refine x_getf (pc := 22) (v := .ref (g + 3)) dX4_send_22 xf_X4_19 k_g rfl ?_
      refine x_getf (pc := 25) (v := .ref ((g + 3) + 2)) dX4_send_25 xf_X4_90 (nk_nt k_g3) rfl ?_
      refine x_iload_n (pc := 28) dX4_send_28 rfl ?_
      obtain ⟨q29, hp⟩ := hp
      have hj1 : (i.toNatClampNeg) < 4 := vp_lt q29
      refine x_aald (pc := 29) (t := 3) (Cn := RX3) (b := ((g + 3) + 3 + 3 * (i.toNatClampNeg))) rfl dX4_send_29 (nk_wy k_g3) q29 rfl ?_
      refine x_getf (pc := 30) (v := .int ((W (i.toNatClampNeg)) 7)) dX4_send_30 xf_X4_105 (nk_wa k_g3 hj1) rfl ?_
      refine x_ldc (pc := 33) (v := (99999 : Int32)) dX4_send_33 xk_X4_108 ?_
      refine x_icmp_lt (pc := 35) (tgt := 41) dX4_send_35 (by decide) (fun (c3 : ((W (i.toNatClampNeg)) 7) < (99999 : Int32)) => ?_) (fun (c3 : ¬ (((W (i.toNatClampNeg)) 7) < (99999 : Int32))) => ?_)
      · rw [if_pos c3] at er
        replace hp := hp.1 c3
        refine x_aload_n (pc := 41) dX4_send_41 rfl ?_
        obtain ⟨q42, hp⟩ := hp
        refine x_cVQ (pc := 42) (As := []) (rest := []) dX4_send_42 xl_X4_84 xv_X4_remember k_g rfl rfl rfl rfl rfl rfl (C_X4_remember G _ g s r t W LF KF ER ET EW EL EK k_g k_g3 k_g33 k_g38 q42) (fun v h1 hq => ?_)
        obtain ⟨ev, z0_h1, z1_h1, g_h1⟩ := hq
        subst ev
        refine Wp.eqs (L' := [(0, .ref g), (1, .int i), (2, .int size)]) (st' := []) rfl rfl ?_
        obtain ⟨F3, eF3⟩ : ∃ F, f_X4_remember s r t W LF KF ER ET EW EL EK = F := ⟨_, rfl⟩
        try rw [eF3] at er
        try rw [eF3] at hp
        try rw [eF3]
        try rw [eF3] at z0_h1
        try rw [eF3] at z1_h1
        have k_g_h1 : hAt h1 g = some (gpC (g + 1) (g + 3) (g + 18) (g + 33) (g + 34) (g + 37) F3.1) := z0_h1
        have k_g3_h1 : nk h1 (g + 3) r t W LF KF := nk_fr (fun q u1 u2 => g_h1.2 q (show ¬ (q = g ∨ ((g + 38) ≤ q ∧ q < (g + 38) + 60)) by omega)) k_g3
        have k_g33_h1 : hAt h1 (g + 33) = some (arR 2 4 (fun j => some ((g + 38) + 15 * j))) := (g_h1.2 (g + 33) (show ¬ ((g + 33) = g ∨ ((g + 38) ≤ (g + 33) ∧ (g + 33) < (g + 38) + 60)) by omega)).trans k_g33
        have k_g38_h1 : ek h1 (g + 38) F3.2.1 F3.2.2.1 F3.2.2.2.1 F3.2.2.2.2.1 F3.2.2.2.2.2 := z1_h1
        have f_h1 : fr (fun q => q = g ∨ ((g + 3) ≤ q ∧ q < (g + 3) + 15) ∨ ((g + 38) ≤ q ∧ q < (g + 38) + 60)) h h1 := fr_trans fr_refl (fr_mono (fun q (u : q = g ∨ ((g + 38) ≤ q ∧ q < (g + 38) + 60)) => show q = g ∨ ((g + 3) ≤ q ∧ q < (g + 3) + 15) ∨ ((g + 38) ≤ q ∧ q < (g + 38) + 60) by omega) g_h1)
        refine x_aload_n (pc := 45) dX4_send_45 rfl ?_
        refine x_getf (pc := 46) (v := .ref (g + 3)) dX4_send_46 xf_X4_19 k_g_h1 rfl ?_
        refine x_getf (pc := 49) (v := .ref ((g + 3) + 2)) dX4_send_49 xf_X4_90 (nk_nt k_g3_h1) rfl ?_
        refine x_iload_n (pc := 52) dX4_send_52 rfl ?_
        obtain ⟨q53, hp⟩ := hp
        have hj2 : (i.toNatClampNeg) < 4 := vp_lt q53
        refine x_aald (pc := 53) (t := 3) (Cn := RX3) (b := ((g + 3) + 3 + 3 * (i.toNatClampNeg))) rfl dX4_send_53 (nk_wy k_g3_h1) q53 rfl ?_
        refine x_iload_n (pc := 54) dX4_send_54 rfl ?_
        refine x_aload_n (pc := 55) dX4_send_55 rfl ?_
        refine x_getf (pc := 56) (v := .ref (g + 3)) dX4_send_56 xf_X4_19 k_g_h1 rfl ?_
        refine x_getf (pc := 59) (v := .ref ((g + 3) + 1)) dX4_send_59 xf_X4_94 (nk_nt k_g3_h1) rfl ?_
        obtain ⟨q62, hp⟩ := hp
        refine x_cV2i (pc := 62) dX4_send_62 xl_X4_109 xv_X3_post (nk_wa k_g3_h1 hj2) rfl (C_X3_post G _ ((g + 3) + 3 + 3 * (i.toNatClampNeg)) ((g + 3) + 1) ((g + 3) + 4 + 3 * (i.toNatClampNeg)) ((g + 3) + 5 + 3 * (i.toNatClampNeg)) (W (i.toNatClampNeg)) (LF (i.toNatClampNeg)) (KF (i.toNatClampNeg)) r size (nk_wa k_g3_h1 hj2) (nk_la k_g3_h1 hj2) (nk_ka k_g3_h1 hj2) (nk_ru k_g3_h1) q62) rfl rfl rfl ?_
        obtain ⟨F4, eF4⟩ : ∃ F, f_X3_post (W (i.toNatClampNeg)) (LF (i.toNatClampNeg)) (KF (i.toNatClampNeg)) r size = F := ⟨_, rfl⟩
        rw [eF4]
        try rw [eF4] at er
        try rw [eF4] at hp
        obtain ⟨h2, eh2⟩ : ∃ z, z = hSet h1 ((g + 3) + 3 + 3 * (i.toNatClampNeg)) (waC ((g + 3) + 4 + 3 * (i.toNatClampNeg)) ((g + 3) + 5 + 3 * (i.toNatClampNeg)) F4.2) := ⟨_, rfl⟩
        rw [← eh2]
        have k_g_h2 : hAt h2 g = some (gpC (g + 1) (g + 3) (g + 18) (g + 33) (g + 34) (g + 37) F3.1) := by rw [eh2]; exact hAt_n (by omega) k_g_h1
        have k_g3_h2 : nk h2 (g + 3) r t (va_up W (i.toNatClampNeg) F4.2) LF KF := by rw [eh2]; exact nk_swa k_g3_h1 hj2
        have k_g33_h2 : hAt h2 (g + 33) = some (arR 2 4 (fun j => some ((g + 38) + 15 * j))) := by rw [eh2]; exact hAt_n (by omega) k_g33_h1
        have k_g38_h2 : ek h2 (g + 38) F3.2.1 F3.2.2.1 F3.2.2.2.1 F3.2.2.2.2.1 F3.2.2.2.2.2 := by rw [eh2]; exact ek_fr1 (by omega) k_g38_h1
        have f_h2 : fr (fun q => q = g ∨ ((g + 3) ≤ q ∧ q < (g + 3) + 15) ∨ ((g + 38) ≤ q ∧ q < (g + 38) + 60)) h h2 := by rw [eh2]; exact fr_set f_h1 (show ((g + 3) + 3 + 3 * (i.toNatClampNeg)) = g ∨ ((g + 3) ≤ ((g + 3) + 3 + 3 * (i.toNatClampNeg)) ∧ ((g + 3) + 3 + 3 * (i.toNatClampNeg)) < (g + 3) + 15) ∨ ((g + 38) ≤ ((g + 3) + 3 + 3 * (i.toNatClampNeg)) ∧ ((g + 3) + 3 + 3 * (i.toNatClampNeg)) < (g + 38) + 60) by omega)
        subst er
        exact x_iret (pc := 65) dX4_send_65 rfl rfl rfl rfl ⟨rfl, k_g_h2, k_g3_h2, k_g38_h2, f_h2⟩
      · rw [if_neg c3] at er
        replace hp := hp.2 c3
        refine x_bipush (pc := 38) (v := (-2 : Int32)) dX4_send_38 (by decide) ?_
        subst er
        exact x_iret (pc := 40) dX4_send_40 rfl rfl rfl rfl ⟨rfl, k_g, k_g3, k_g38, fr_refl⟩
    · rw [if_pos c2] at er
      replace hp := hp.1 c2
      refine x_iconst (pc := 19) (v := (-1 : Int32)) dX4_send_19 (by decide) ?_
      subst er
      exact x_iret (pc := 20) dX4_send_20 rfl rfl rfl rfl ⟨rfl, k_g, k_g3, k_g38, fr_refl⟩

def f_X4_limit (s : (Nat → Int32)) (r : (Nat → Int32)) (t : (Nat → Int32)) (W : (Nat → Nat → Int32)) (LF : (Nat → Nat → Int32)) (KF : (Nat → Nat → Int32)) (ER : (Nat → Nat → Int32)) (ET : (Nat → Nat → Int32)) (EW : (Nat → Nat → Nat → Int32)) (EL : (Nat → Nat → Nat → Int32)) (EK : (Nat → Nat → Nat → Int32)) (i hh_ l : Int32) : Int32 × (Nat → Int32) × (Nat → Nat → Int32) × (Nat → Nat → Int32) × (Nat → Nat → Int32) × (Nat → Nat → Nat → Int32) × (Nat → Nat → Nat → Int32) × (Nat → Nat → Nat → Int32) := (if (f_X4_isHop s r t W LF KF i hh_) = 0 then ((-1 : Int32), s, LF, ER, ET, EW, EL, EK) else (if (f_X4_isBetween l (20 : Int32) (999 : Int32)) = 0 then ((-1 : Int32), s, LF, ER, ET, EW, EL, EK) else (if ((LF (i.toNatClampNeg)) (hh_.toNatClampNeg)) = l then ((-2 : Int32), s, LF, ER, ET, EW, EL, EK) else (((LF (i.toNatClampNeg)) (hh_.toNatClampNeg)), (f_X4_remember s r t W LF KF ER ET EW EL EK).1, (va_up LF (i.toNatClampNeg) (upd (LF (i.toNatClampNeg)) (hh_.toNatClampNeg) l)), (f_X4_remember s r t W LF KF ER ET EW EL EK).2.1, (f_X4_remember s r t W LF KF ER ET EW EL EK).2.2.1, (f_X4_remember s r t W LF KF ER ET EW EL EK).2.2.2.1, (f_X4_remember s r t W LF KF ER ET EW EL EK).2.2.2.2.1, (f_X4_remember s r t W LF KF ER ET EW EL EK).2.2.2.2.2))))
def p_X4_limit (s : (Nat → Int32)) (r : (Nat → Int32)) (t : (Nat → Int32)) (W : (Nat → Nat → Int32)) (LF : (Nat → Nat → Int32)) (KF : (Nat → Nat → Int32)) (ER : (Nat → Nat → Int32)) (ET : (Nat → Nat → Int32)) (EW : (Nat → Nat → Nat → Int32)) (EL : (Nat → Nat → Nat → Int32)) (EK : (Nat → Nat → Nat → Int32)) (i hh_ l : Int32) : Prop := (p_X4_isHop s r t W LF KF i hh_ ∧ (((f_X4_isHop s r t W LF KF i hh_) = 0 → True) ∧ (¬ ((f_X4_isHop s r t W LF KF i hh_) = 0) → (((f_X4_isBetween l (20 : Int32) (999 : Int32)) = 0 → True) ∧ (¬ ((f_X4_isBetween l (20 : Int32) (999 : Int32)) = 0) → (vp_in i 4 ∧ (vp_in hh_ 6 ∧ ((((LF (i.toNatClampNeg)) (hh_.toNatClampNeg)) = l → True) ∧ (¬ (((LF (i.toNatClampNeg)) (hh_.toNatClampNeg)) = l) → (p_X4_remember s r t W LF KF ER ET EW EL EK ∧ (vp_in i 4 ∧ (vp_in hh_ 6 ∧ True))))))))))))
set_option maxRecDepth 100000 in
set_option maxHeartbeats 4000000 in
theorem C_X4_limit (G : xG) (h : xH) (g : Nat) (s : (Nat → Int32)) (r : (Nat → Int32)) (t : (Nat → Int32)) (W : (Nat → Nat → Int32)) (LF : (Nat → Nat → Int32)) (KF : (Nat → Nat → Int32)) (ER : (Nat → Nat → Int32)) (ET : (Nat → Nat → Int32)) (EW : (Nat → Nat → Nat → Int32)) (EL : (Nat → Nat → Nat → Int32)) (EK : (Nat → Nat → Nat → Int32)) (i hh_ l : Int32) (k_g : hAt h g = some (gpC (g + 1) (g + 3) (g + 18) (g + 33) (g + 34) (g + 37) s)) (k_g3 : nk h (g + 3) r t W LF KF) (k_g33 : hAt h (g + 33) = some (arR 2 4 (fun j => some ((g + 38) + 15 * j)))) (k_g38 : ek h (g + 38) ER ET EW EL EK) (hp : p_X4_limit s r t W LF KF ER ET EW EL EK i hh_ l) : Ct G 4 0 0 yX4_limit cX4_limit 5 (some .int) [.ref g, .int i, .int hh_, .int l] h (fun v' h' => v' = (some (.int (f_X4_limit s r t W LF KF ER ET EW EL EK i hh_ l).1)) ∧ (hAt h' g = some (gpC (g + 1) (g + 3) (g + 18) (g + 33) (g + 34) (g + 37) (f_X4_limit s r t W LF KF ER ET EW EL EK i hh_ l).2.1)) ∧ (nk h' (g + 3) r t W (f_X4_limit s r t W LF KF ER ET EW EL EK i hh_ l).2.2.1 KF) ∧ (ek h' (g + 38) (f_X4_limit s r t W LF KF ER ET EW EL EK i hh_ l).2.2.2.1 (f_X4_limit s r t W LF KF ER ET EW EL EK i hh_ l).2.2.2.2.1 (f_X4_limit s r t W LF KF ER ET EW EL EK i hh_ l).2.2.2.2.2.1 (f_X4_limit s r t W LF KF ER ET EW EL EK i hh_ l).2.2.2.2.2.2.1 (f_X4_limit s r t W LF KF ER ET EW EL EK i hh_ l).2.2.2.2.2.2.2) ∧ fr (fun q => q = g ∨ ((g + 3) ≤ q ∧ q < (g + 3) + 15) ∨ ((g + 38) ≤ q ∧ q < (g + 38) + 60)) h h') := by
  refine Ct.of (by decide) (by rfl) ?_
  refine Wp.eqs (L' := [(0, .ref g), (1, .int i), (2, .int hh_), (3, .int l)]) (st' := []) rfl rfl ?_
  obtain ⟨R, er⟩ : ∃ R, f_X4_limit s r t W LF KF ER ET EW EL EK i hh_ l = R := ⟨_, rfl⟩
  rw [er]
  unfold f_X4_limit at er
  unfold p_X4_limit at hp
  refine x_aload_n (pc := 0) dX4_limit_0 rfl ?_
  refine x_iload_n (pc := 1) dX4_limit_1 rfl ?_
  refine x_iload_n (pc := 2) dX4_limit_2 rfl ?_
  obtain ⟨q3, hp⟩ := hp
  refine x_cV2i (pc := 3) dX4_limit_3 xl_X4_113 xv_X4_isHop k_g rfl (C_X4_isHop G _ g s r t W LF KF i hh_ k_g k_g3 q3) rfl rfl rfl ?_
  obtain ⟨F1, eF1⟩ : ∃ F, f_X4_isHop s r t W LF KF i hh_ = F := ⟨_, rfl⟩
  rw [eF1]
  try rw [eF1] at er
  try rw [eF1] at hp
  have bF1 : xB F1 := by rw [← eF1]; exact (B_X4_isHop _ _ _ _ _ _ _ _)
  refine x_if_eq (pc := 6) (tgt := 21) dX4_limit_6 (by decide) (fun (c1 : F1 = 0) => ?_) (fun (c1 : ¬ (F1 = 0)) => ?_)
  · rw [if_pos c1] at er
    replace hp := hp.1 c1
    refine x_iconst (pc := 21) (v := (-1 : Int32)) dX4_limit_21 (by decide) ?_
    subst er
    exact x_iret (pc := 22) dX4_limit_22 rfl rfl rfl rfl ⟨rfl, k_g, k_g3, k_g38, fr_refl⟩
  · rw [if_neg c1] at er
    replace hp := hp.2 c1
    refine x_iload_n (pc := 9) dX4_limit_9 rfl ?_
    refine x_bipush (pc := 10) (v := (20 : Int32)) dX4_limit_10 (by decide) ?_
    refine x_sipush (pc := 12) (v := (999 : Int32)) dX4_limit_12 (by decide) ?_
    refine x_cS3i (pc := 15) dX4_limit_15 xl_X4_77 xs_X4_isBetween (C_X4_isBetween G _ l (20 : Int32) (999 : Int32)) rfl rfl rfl ?_
    obtain ⟨F2, eF2⟩ : ∃ F, f_X4_isBetween l (20 : Int32) (999 : Int32) = F := ⟨_, rfl⟩
    rw [eF2]
    try rw [eF2] at er
    try rw [eF2] at hp
    have bF2 : xB F2 := by rw [← eF2]; exact (B_X4_isBetween _ _ _)
    refine x_if_ne (pc := 18) (tgt := 23) dX4_limit_18 (by decide) (fun (c2 : ¬ (F2 = 0)) => ?_) (fun (c2 : F2 = 0) => ?_)
    · rw [if_neg c2] at er
      replace hp := hp.2 c2
      refine x_aload_n (pc := 23) dX4_limit_23 rfl ?_
      refine x_getf (pc := 24) (v := .ref (g + 3)) dX4_limit_24 xf_X4_19 k_g rfl ?_
      refine x_getf (pc := 27) (v := .ref ((g + 3) + 2)) dX4_limit_27 xf_X4_90 (nk_nt k_g3) rfl ?_
      refine x_iload_n (pc := 30) dX4_limit_30 rfl ?_
      obtain ⟨q31, hp⟩ := hp
      have hj1 : (i.toNatClampNeg) < 4 := vp_lt q31
      refine x_aald (pc := 31) (t := 3) (Cn := RX3) (b := ((g + 3) + 3 + 3 * (i.toNatClampNeg))) rfl dX4_limit_31 (nk_wy k_g3) q31 rfl ?_
      refine x_getf (pc := 32) (v := .ref ((g + 3) + 4 + 3 * (i.toNatClampNeg))) dX4_limit_32 xf_X4_117 (nk_wa k_g3 hj1) rfl ?_
      refine x_iload_n (pc := 35) dX4_limit_35 rfl ?_
      obtain ⟨q36, hp⟩ := hp
      refine x_iald (pc := 36) dX4_limit_36 (nk_la k_g3 hj1) q36 (j := (hh_.toNatClampNeg)) rfl ?_
      refine x_istore (pc := 37) (L' := [(4, .int ((LF (i.toNatClampNeg)) (hh_.toNatClampNeg))), (0, .ref g), (1, .int i), (2, .int hh_), (3, .int l)]) dX4_limit_37 rfl rfl ?_
      refine x_iload (pc := 39) dX4_limit_39 rfl ?_
      refine x_iload_n (pc := 41) dX4_limit_41 rfl ?_
      refine x_icmp_ne (pc := 42) (tgt := 48) dX4_limit_42 (by decide) (fun (c3 : ¬ (((LF (i.toNatClampNeg)) (hh_.toNatClampNeg)) = l)) => ?_) (fun (c3 : ((LF (i.toNatClampNeg)) (hh_.toNatClampNeg)) = l) => ?_)
      · rw [if_neg c3] at er
        replace hp := hp.2 c3
        refine x_aload_n (pc := 48) dX4_limit_48 rfl ?_
        obtain ⟨q49, hp⟩ := hp
        refine x_cVQ (pc := 49) (As := []) (rest := []) dX4_limit_49 xl_X4_84 xv_X4_remember k_g rfl rfl rfl rfl rfl rfl (C_X4_remember G _ g s r t W LF KF ER ET EW EL EK k_g k_g3 k_g33 k_g38 q49) (fun v h1 hq => ?_)
        obtain ⟨ev, z0_h1, z1_h1, g_h1⟩ := hq
        subst ev
        refine Wp.eqs (L' := [(4, .int ((LF (i.toNatClampNeg)) (hh_.toNatClampNeg))), (0, .ref g), (1, .int i), (2, .int hh_), (3, .int l)]) (st' := []) rfl rfl ?_
        obtain ⟨F3, eF3⟩ : ∃ F, f_X4_remember s r t W LF KF ER ET EW EL EK = F := ⟨_, rfl⟩
        try rw [eF3] at er
        try rw [eF3] at hp
        try rw [eF3]
        try rw [eF3] at z0_h1
        try rw [eF3] at z1_h1
        have k_g_h1 : hAt h1 g = some (gpC (g + 1) (g + 3) (g + 18) (g + 33) (g + 34) (g + 37) F3.1) := z0_h1
        have k_g3_h1 : nk h1 (g + 3) r t W LF KF := nk_fr (fun q u1 u2 => g_h1.2 q (show ¬ (q = g ∨ ((g + 38) ≤ q ∧ q < (g + 38) + 60)) by omega)) k_g3
        have k_g33_h1 : hAt h1 (g + 33) = some (arR 2 4 (fun j => some ((g + 38) + 15 * j))) := (g_h1.2 (g + 33) (show ¬ ((g + 33) = g ∨ ((g + 38) ≤ (g + 33) ∧ (g + 33) < (g + 38) + 60)) by omega)).trans k_g33
        have k_g38_h1 : ek h1 (g + 38) F3.2.1 F3.2.2.1 F3.2.2.2.1 F3.2.2.2.2.1 F3.2.2.2.2.2 := z1_h1
        have f_h1 : fr (fun q => q = g ∨ ((g + 3) ≤ q ∧ q < (g + 3) + 15) ∨ ((g + 38) ≤ q ∧ q < (g + 38) + 60)) h h1 := fr_trans fr_refl (fr_mono (fun q (u : q = g ∨ ((g + 38) ≤ q ∧ q < (g + 38) + 60)) => show q = g ∨ ((g + 3) ≤ q ∧ q < (g + 3) + 15) ∨ ((g + 38) ≤ q ∧ q < (g + 38) + 60) by omega) g_h1)
        refine x_aload_n (pc := 52) dX4_limit_52 rfl ?_
        refine x_getf (pc := 53) (v := .ref (g + 3)) dX4_limit_53 xf_X4_19 k_g_h1 rfl ?_
        refine x_getf (pc := 56) (v := .ref ((g + 3) + 2)) dX4_limit_56 xf_X4_90 (nk_nt k_g3_h1) rfl ?_
        refine x_iload_n (pc := 59) dX4_limit_59 rfl ?_
        obtain ⟨q60, hp⟩ := hp
        have hj2 : (i.toNatClampNeg) < 4 := vp_lt q60
        refine x_aald (pc := 60) (t := 3) (Cn := RX3) (b := ((g + 3) + 3 + 3 * (i.toNatClampNeg))) rfl dX4_limit_60 (nk_wy k_g3_h1) q60 rfl ?_
        refine x_getf (pc := 61) (v := .ref ((g + 3) + 4 + 3 * (i.toNatClampNeg))) dX4_limit_61 xf_X4_117 (nk_wa k_g3_h1 hj2) rfl ?_
        refine x_iload_n (pc := 64) dX4_limit_64 rfl ?_
        refine x_iload_n (pc := 65) dX4_limit_65 rfl ?_
        obtain ⟨q66, hp⟩ := hp
        refine x_iast (pc := 66) (e' := arI 6 (upd (LF (i.toNatClampNeg)) (hh_.toNatClampNeg) l)) dX4_limit_66 (nk_la k_g3_h1 hj2) q66 (j := (hh_.toNatClampNeg)) rfl rfl ?_
        obtain ⟨h2, eh2⟩ : ∃ z, z = hSet h1 ((g + 3) + 4 + 3 * (i.toNatClampNeg)) (arI 6 (upd (LF (i.toNatClampNeg)) (hh_.toNatClampNeg) l)) := ⟨_, rfl⟩
        rw [← eh2]
        have k_g_h2 : hAt h2 g = some (gpC (g + 1) (g + 3) (g + 18) (g + 33) (g + 34) (g + 37) F3.1) := by rw [eh2]; exact hAt_n (by omega) k_g_h1
        have k_g3_h2 : nk h2 (g + 3) r t W (va_up LF (i.toNatClampNeg) (upd (LF (i.toNatClampNeg)) (hh_.toNatClampNeg) l)) KF := by rw [eh2]; exact nk_sla k_g3_h1 hj2
        have k_g33_h2 : hAt h2 (g + 33) = some (arR 2 4 (fun j => some ((g + 38) + 15 * j))) := by rw [eh2]; exact hAt_n (by omega) k_g33_h1
        have k_g38_h2 : ek h2 (g + 38) F3.2.1 F3.2.2.1 F3.2.2.2.1 F3.2.2.2.2.1 F3.2.2.2.2.2 := by rw [eh2]; exact ek_fr1 (by omega) k_g38_h1
        have f_h2 : fr (fun q => q = g ∨ ((g + 3) ≤ q ∧ q < (g + 3) + 15) ∨ ((g + 38) ≤ q ∧ q < (g + 38) + 60)) h h2 := by rw [eh2]; exact fr_set f_h1 (show ((g + 3) + 4 + 3 * (i.toNatClampNeg)) = g ∨ ((g + 3) ≤ ((g + 3) + 4 + 3 * (i.toNatClampNeg)) ∧ ((g + 3) + 4 + 3 * (i.toNatClampNeg)) < (g + 3) + 15) ∨ ((g + 38) ≤ ((g + 3) + 4 + 3 * (i.toNatClampNeg)) ∧ ((g + 3) + 4 + 3 * (i.toNatClampNeg)) < (g + 38) + 60) by omega)
        refine x_iload (pc := 67) dX4_limit_67 rfl ?_
        subst er
        exact x_iret (pc := 69) dX4_limit_69 rfl rfl rfl rfl ⟨rfl, k_g_h2, k_g3_h2, k_g38_h2, f_h2⟩
      · rw [if_pos c3] at er
        replace hp := hp.1 c3
        refine x_bipush (pc := 45) (v := (-2 : Int32)) dX4_limit_45 (by decide) ?_
        subst er
        exact x_iret (pc := 47) dX4_limit_47 rfl rfl rfl rfl ⟨rfl, k_g, k_g3, k_g38, fr_refl⟩
    · rw [if_pos c2] at er
      replace hp := hp.1 c2
      refine x_iconst (pc := 21) (v := (-1 : Int32)) dX4_limit_21 (by decide) ?_
      subst er
      exact x_iret (pc := 22) dX4_limit_22 rfl rfl rfl rfl ⟨rfl, k_g, k_g3, k_g38, fr_refl⟩

def f_X4_kind (s : (Nat → Int32)) (r : (Nat → Int32)) (t : (Nat → Int32)) (W : (Nat → Nat → Int32)) (LF : (Nat → Nat → Int32)) (KF : (Nat → Nat → Int32)) (ER : (Nat → Nat → Int32)) (ET : (Nat → Nat → Int32)) (EW : (Nat → Nat → Nat → Int32)) (EL : (Nat → Nat → Nat → Int32)) (EK : (Nat → Nat → Nat → Int32)) (i hh_ k : Int32) : Int32 × (Nat → Int32) × (Nat → Nat → Int32) × (Nat → Nat → Int32) × (Nat → Nat → Int32) × (Nat → Nat → Nat → Int32) × (Nat → Nat → Nat → Int32) × (Nat → Nat → Nat → Int32) := (if (f_X4_isHop s r t W LF KF i hh_) = 0 then ((-1 : Int32), s, KF, ER, ET, EW, EL, EK) else (if (f_X4_isBetween k (0 : Int32) (3 : Int32)) = 0 then ((-1 : Int32), s, KF, ER, ET, EW, EL, EK) else (if ((KF (i.toNatClampNeg)) (hh_.toNatClampNeg)) = k then ((-2 : Int32), s, KF, ER, ET, EW, EL, EK) else (((KF (i.toNatClampNeg)) (hh_.toNatClampNeg)), (f_X4_remember s r t W LF KF ER ET EW EL EK).1, (va_up KF (i.toNatClampNeg) (upd (KF (i.toNatClampNeg)) (hh_.toNatClampNeg) k)), (f_X4_remember s r t W LF KF ER ET EW EL EK).2.1, (f_X4_remember s r t W LF KF ER ET EW EL EK).2.2.1, (f_X4_remember s r t W LF KF ER ET EW EL EK).2.2.2.1, (f_X4_remember s r t W LF KF ER ET EW EL EK).2.2.2.2.1, (f_X4_remember s r t W LF KF ER ET EW EL EK).2.2.2.2.2))))
def p_X4_kind (s : (Nat → Int32)) (r : (Nat → Int32)) (t : (Nat → Int32)) (W : (Nat → Nat → Int32)) (LF : (Nat → Nat → Int32)) (KF : (Nat → Nat → Int32)) (ER : (Nat → Nat → Int32)) (ET : (Nat → Nat → Int32)) (EW : (Nat → Nat → Nat → Int32)) (EL : (Nat → Nat → Nat → Int32)) (EK : (Nat → Nat → Nat → Int32)) (i hh_ k : Int32) : Prop := (p_X4_isHop s r t W LF KF i hh_ ∧ (((f_X4_isHop s r t W LF KF i hh_) = 0 → True) ∧ (¬ ((f_X4_isHop s r t W LF KF i hh_) = 0) → (((f_X4_isBetween k (0 : Int32) (3 : Int32)) = 0 → True) ∧ (¬ ((f_X4_isBetween k (0 : Int32) (3 : Int32)) = 0) → (vp_in i 4 ∧ (vp_in hh_ 6 ∧ ((((KF (i.toNatClampNeg)) (hh_.toNatClampNeg)) = k → True) ∧ (¬ (((KF (i.toNatClampNeg)) (hh_.toNatClampNeg)) = k) → (p_X4_remember s r t W LF KF ER ET EW EL EK ∧ (vp_in i 4 ∧ (vp_in hh_ 6 ∧ True))))))))))))
set_option maxRecDepth 100000 in
set_option maxHeartbeats 4000000 in
theorem C_X4_kind (G : xG) (h : xH) (g : Nat) (s : (Nat → Int32)) (r : (Nat → Int32)) (t : (Nat → Int32)) (W : (Nat → Nat → Int32)) (LF : (Nat → Nat → Int32)) (KF : (Nat → Nat → Int32)) (ER : (Nat → Nat → Int32)) (ET : (Nat → Nat → Int32)) (EW : (Nat → Nat → Nat → Int32)) (EL : (Nat → Nat → Nat → Int32)) (EK : (Nat → Nat → Nat → Int32)) (i hh_ k : Int32) (k_g : hAt h g = some (gpC (g + 1) (g + 3) (g + 18) (g + 33) (g + 34) (g + 37) s)) (k_g3 : nk h (g + 3) r t W LF KF) (k_g33 : hAt h (g + 33) = some (arR 2 4 (fun j => some ((g + 38) + 15 * j)))) (k_g38 : ek h (g + 38) ER ET EW EL EK) (hp : p_X4_kind s r t W LF KF ER ET EW EL EK i hh_ k) : Ct G 4 0 0 yX4_kind cX4_kind 5 (some .int) [.ref g, .int i, .int hh_, .int k] h (fun v' h' => v' = (some (.int (f_X4_kind s r t W LF KF ER ET EW EL EK i hh_ k).1)) ∧ (hAt h' g = some (gpC (g + 1) (g + 3) (g + 18) (g + 33) (g + 34) (g + 37) (f_X4_kind s r t W LF KF ER ET EW EL EK i hh_ k).2.1)) ∧ (nk h' (g + 3) r t W LF (f_X4_kind s r t W LF KF ER ET EW EL EK i hh_ k).2.2.1) ∧ (ek h' (g + 38) (f_X4_kind s r t W LF KF ER ET EW EL EK i hh_ k).2.2.2.1 (f_X4_kind s r t W LF KF ER ET EW EL EK i hh_ k).2.2.2.2.1 (f_X4_kind s r t W LF KF ER ET EW EL EK i hh_ k).2.2.2.2.2.1 (f_X4_kind s r t W LF KF ER ET EW EL EK i hh_ k).2.2.2.2.2.2.1 (f_X4_kind s r t W LF KF ER ET EW EL EK i hh_ k).2.2.2.2.2.2.2) ∧ fr (fun q => q = g ∨ ((g + 3) ≤ q ∧ q < (g + 3) + 15) ∨ ((g + 38) ≤ q ∧ q < (g + 38) + 60)) h h') := by
  refine Ct.of (by decide) (by rfl) ?_
  refine Wp.eqs (L' := [(0, .ref g), (1, .int i), (2, .int hh_), (3, .int k)]) (st' := []) rfl rfl ?_
  obtain ⟨R, er⟩ : ∃ R, f_X4_kind s r t W LF KF ER ET EW EL EK i hh_ k = R := ⟨_, rfl⟩
  rw [er]
  unfold f_X4_kind at er
  unfold p_X4_kind at hp
  refine x_aload_n (pc := 0) dX4_kind_0 rfl ?_
  refine x_iload_n (pc := 1) dX4_kind_1 rfl ?_
  refine x_iload_n (pc := 2) dX4_kind_2 rfl ?_
  obtain ⟨q3, hp⟩ := hp
  refine x_cV2i (pc := 3) dX4_kind_3 xl_X4_113 xv_X4_isHop k_g rfl (C_X4_isHop G _ g s r t W LF KF i hh_ k_g k_g3 q3) rfl rfl rfl ?_
  obtain ⟨F1, eF1⟩ : ∃ F, f_X4_isHop s r t W LF KF i hh_ = F := ⟨_, rfl⟩
  rw [eF1]
  try rw [eF1] at er
  try rw [eF1] at hp
  have bF1 : xB F1 := by rw [← eF1]; exact (B_X4_isHop _ _ _ _ _ _ _ _)
  refine x_if_eq (pc := 6) (tgt := 18) dX4_kind_6 (by decide) (fun (c1 : F1 = 0) => ?_) (fun (c1 : ¬ (F1 = 0)) => ?_)
  · rw [if_pos c1] at er
    replace hp := hp.1 c1
    refine x_iconst (pc := 18) (v := (-1 : Int32)) dX4_kind_18 (by decide) ?_
    subst er
    exact x_iret (pc := 19) dX4_kind_19 rfl rfl rfl rfl ⟨rfl, k_g, k_g3, k_g38, fr_refl⟩
  · rw [if_neg c1] at er
    replace hp := hp.2 c1
    refine x_iload_n (pc := 9) dX4_kind_9 rfl ?_
    refine x_iconst (pc := 10) (v := (0 : Int32)) dX4_kind_10 (by decide) ?_
    refine x_iconst (pc := 11) (v := (3 : Int32)) dX4_kind_11 (by decide) ?_
    refine x_cS3i (pc := 12) dX4_kind_12 xl_X4_77 xs_X4_isBetween (C_X4_isBetween G _ k (0 : Int32) (3 : Int32)) rfl rfl rfl ?_
    obtain ⟨F2, eF2⟩ : ∃ F, f_X4_isBetween k (0 : Int32) (3 : Int32) = F := ⟨_, rfl⟩
    rw [eF2]
    try rw [eF2] at er
    try rw [eF2] at hp
    have bF2 : xB F2 := by rw [← eF2]; exact (B_X4_isBetween _ _ _)
    refine x_if_ne (pc := 15) (tgt := 20) dX4_kind_15 (by decide) (fun (c2 : ¬ (F2 = 0)) => ?_) (fun (c2 : F2 = 0) => ?_)
    · rw [if_neg c2] at er
      replace hp := hp.2 c2
      refine x_aload_n (pc := 20) dX4_kind_20 rfl ?_
      refine x_getf (pc := 21) (v := .ref (g + 3)) dX4_kind_21 xf_X4_19 k_g rfl ?_
      refine x_getf (pc := 24) (v := .ref ((g + 3) + 2)) dX4_kind_24 xf_X4_90 (nk_nt k_g3) rfl ?_
      refine x_iload_n (pc := 27) dX4_kind_27 rfl ?_
      obtain ⟨q28, hp⟩ := hp
      have hj1 : (i.toNatClampNeg) < 4 := vp_lt q28
      refine x_aald (pc := 28) (t := 3) (Cn := RX3) (b := ((g + 3) + 3 + 3 * (i.toNatClampNeg))) rfl dX4_kind_28 (nk_wy k_g3) q28 rfl ?_
      refine x_getf (pc := 29) (v := .ref ((g + 3) + 5 + 3 * (i.toNatClampNeg))) dX4_kind_29 xf_X4_121 (nk_wa k_g3 hj1) rfl ?_
      refine x_iload_n (pc := 32) dX4_kind_32 rfl ?_
      obtain ⟨q33, hp⟩ := hp
      refine x_iald (pc := 33) dX4_kind_33 (nk_ka k_g3 hj1) q33 (j := (hh_.toNatClampNeg)) rfl ?_
      refine x_istore (pc := 34) (L' := [(4, .int ((KF (i.toNatClampNeg)) (hh_.toNatClampNeg))), (0, .ref g), (1, .int i), (2, .int hh_), (3, .int k)]) dX4_kind_34 rfl rfl ?_
      refine x_iload (pc := 36) dX4_kind_36 rfl ?_
      refine x_iload_n (pc := 38) dX4_kind_38 rfl ?_
      refine x_icmp_ne (pc := 39) (tgt := 45) dX4_kind_39 (by decide) (fun (c3 : ¬ (((KF (i.toNatClampNeg)) (hh_.toNatClampNeg)) = k)) => ?_) (fun (c3 : ((KF (i.toNatClampNeg)) (hh_.toNatClampNeg)) = k) => ?_)
      · rw [if_neg c3] at er
        replace hp := hp.2 c3
        refine x_aload_n (pc := 45) dX4_kind_45 rfl ?_
        obtain ⟨q46, hp⟩ := hp
        refine x_cVQ (pc := 46) (As := []) (rest := []) dX4_kind_46 xl_X4_84 xv_X4_remember k_g rfl rfl rfl rfl rfl rfl (C_X4_remember G _ g s r t W LF KF ER ET EW EL EK k_g k_g3 k_g33 k_g38 q46) (fun v h1 hq => ?_)
        obtain ⟨ev, z0_h1, z1_h1, g_h1⟩ := hq
        subst ev
        refine Wp.eqs (L' := [(4, .int ((KF (i.toNatClampNeg)) (hh_.toNatClampNeg))), (0, .ref g), (1, .int i), (2, .int hh_), (3, .int k)]) (st' := []) rfl rfl ?_
        obtain ⟨F3, eF3⟩ : ∃ F, f_X4_remember s r t W LF KF ER ET EW EL EK = F := ⟨_, rfl⟩
        try rw [eF3] at er
        try rw [eF3] at hp
        try rw [eF3]
        try rw [eF3] at z0_h1
        try rw [eF3] at z1_h1
        have k_g_h1 : hAt h1 g = some (gpC (g + 1) (g + 3) (g + 18) (g + 33) (g + 34) (g + 37) F3.1) := z0_h1
        have k_g3_h1 : nk h1 (g + 3) r t W LF KF := nk_fr (fun q u1 u2 => g_h1.2 q (show ¬ (q = g ∨ ((g + 38) ≤ q ∧ q < (g + 38) + 60)) by omega)) k_g3
        have k_g33_h1 : hAt h1 (g + 33) = some (arR 2 4 (fun j => some ((g + 38) + 15 * j))) := (g_h1.2 (g + 33) (show ¬ ((g + 33) = g ∨ ((g + 38) ≤ (g + 33) ∧ (g + 33) < (g + 38) + 60)) by omega)).trans k_g33
        have k_g38_h1 : ek h1 (g + 38) F3.2.1 F3.2.2.1 F3.2.2.2.1 F3.2.2.2.2.1 F3.2.2.2.2.2 := z1_h1
        have f_h1 : fr (fun q => q = g ∨ ((g + 3) ≤ q ∧ q < (g + 3) + 15) ∨ ((g + 38) ≤ q ∧ q < (g + 38) + 60)) h h1 := fr_trans fr_refl (fr_mono (fun q (u : q = g ∨ ((g + 38) ≤ q ∧ q < (g + 38) + 60)) => show q = g ∨ ((g + 3) ≤ q ∧ q < (g + 3) + 15) ∨ ((g + 38) ≤ q ∧ q < (g + 38) + 60) by omega) g_h1)
        refine x_aload_n (pc := 49) dX4_kind_49 rfl ?_
        refine x_getf (pc := 50) (v := .ref (g + 3)) dX4_kind_50 xf_X4_19 k_g_h1 rfl ?_
        refine x_getf (pc := 53) (v := .ref ((g + 3) + 2)) dX4_kind_53 xf_X4_90 (nk_nt k_g3_h1) rfl ?_
        refine x_iload_n (pc := 56) dX4_kind_56 rfl ?_
        obtain ⟨q57, hp⟩ := hp
        have hj2 : (i.toNatClampNeg) < 4 := vp_lt q57
        refine x_aald (pc := 57) (t := 3) (Cn := RX3) (b := ((g + 3) + 3 + 3 * (i.toNatClampNeg))) rfl dX4_kind_57 (nk_wy k_g3_h1) q57 rfl ?_
        refine x_getf (pc := 58) (v := .ref ((g + 3) + 5 + 3 * (i.toNatClampNeg))) dX4_kind_58 xf_X4_121 (nk_wa k_g3_h1 hj2) rfl ?_
        refine x_iload_n (pc := 61) dX4_kind_61 rfl ?_
        refine x_iload_n (pc := 62) dX4_kind_62 rfl ?_
        obtain ⟨q63, hp⟩ := hp
        refine x_iast (pc := 63) (e' := arI 6 (upd (KF (i.toNatClampNeg)) (hh_.toNatClampNeg) k)) dX4_kind_63 (nk_ka k_g3_h1 hj2) q63 (j := (hh_.toNatClampNeg)) rfl rfl ?_
        obtain ⟨h2, eh2⟩ : ∃ z, z = hSet h1 ((g + 3) + 5 + 3 * (i.toNatClampNeg)) (arI 6 (upd (KF (i.toNatClampNeg)) (hh_.toNatClampNeg) k)) := ⟨_, rfl⟩
        rw [← eh2]
        have k_g_h2 : hAt h2 g = some (gpC (g + 1) (g + 3) (g + 18) (g + 33) (g + 34) (g + 37) F3.1) := by rw [eh2]; exact hAt_n (by omega) k_g_h1
        have k_g3_h2 : nk h2 (g + 3) r t W LF (va_up KF (i.toNatClampNeg) (upd (KF (i.toNatClampNeg)) (hh_.toNatClampNeg) k)) := by rw [eh2]; exact nk_ska k_g3_h1 hj2
        have k_g33_h2 : hAt h2 (g + 33) = some (arR 2 4 (fun j => some ((g + 38) + 15 * j))) := by rw [eh2]; exact hAt_n (by omega) k_g33_h1
        have k_g38_h2 : ek h2 (g + 38) F3.2.1 F3.2.2.1 F3.2.2.2.1 F3.2.2.2.2.1 F3.2.2.2.2.2 := by rw [eh2]; exact ek_fr1 (by omega) k_g38_h1
        have f_h2 : fr (fun q => q = g ∨ ((g + 3) ≤ q ∧ q < (g + 3) + 15) ∨ ((g + 38) ≤ q ∧ q < (g + 38) + 60)) h h2 := by rw [eh2]; exact fr_set f_h1 (show ((g + 3) + 5 + 3 * (i.toNatClampNeg)) = g ∨ ((g + 3) ≤ ((g + 3) + 5 + 3 * (i.toNatClampNeg)) ∧ ((g + 3) + 5 + 3 * (i.toNatClampNeg)) < (g + 3) + 15) ∨ ((g + 38) ≤ ((g + 3) + 5 + 3 * (i.toNatClampNeg)) ∧ ((g + 3) + 5 + 3 * (i.toNatClampNeg)) < (g + 38) + 60) by omega)
        refine x_iload (pc := 64) dX4_kind_64 rfl ?_
        subst er
        exact x_iret (pc := 66) dX4_kind_66 rfl rfl rfl rfl ⟨rfl, k_g_h2, k_g3_h2, k_g38_h2, f_h2⟩
      · rw [if_pos c3] at er
        replace hp := hp.1 c3
        refine x_bipush (pc := 42) (v := (-2 : Int32)) dX4_kind_42 (by decide) ?_
        subst er
        exact x_iret (pc := 44) dX4_kind_44 rfl rfl rfl rfl ⟨rfl, k_g, k_g3, k_g38, fr_refl⟩
    · rw [if_pos c2] at er
      replace hp := hp.1 c2
      refine x_iconst (pc := 18) (v := (-1 : Int32)) dX4_kind_18 (by decide) ?_
      subst er
      exact x_iret (pc := 19) dX4_kind_19 rfl rfl rfl rfl ⟨rfl, k_g, k_g3, k_g38, fr_refl⟩

def f_X4_loss (s : (Nat → Int32)) (r : (Nat → Int32)) (t : (Nat → Int32)) (W : (Nat → Nat → Int32)) (LF : (Nat → Nat → Int32)) (KF : (Nat → Nat → Int32)) (ER : (Nat → Nat → Int32)) (ET : (Nat → Nat → Int32)) (EW : (Nat → Nat → Nat → Int32)) (EL : (Nat → Nat → Nat → Int32)) (EK : (Nat → Nat → Nat → Int32)) (i q : Int32) : Int32 × (Nat → Int32) × (Nat → Nat → Int32) × (Nat → Nat → Int32) × (Nat → Nat → Int32) × (Nat → Nat → Nat → Int32) × (Nat → Nat → Nat → Int32) × (Nat → Nat → Nat → Int32) := (if (f_X4_isWay s r t W LF KF i) = 0 then ((-1 : Int32), s, W, ER, ET, EW, EL, EK) else (if (f_X4_isBetween q (0 : Int32) (99 : Int32)) = 0 then ((-1 : Int32), s, W, ER, ET, EW, EL, EK) else (if ((W (i.toNatClampNeg)) 10) = q then ((-2 : Int32), s, W, ER, ET, EW, EL, EK) else (((W (i.toNatClampNeg)) 10), (f_X4_remember s r t W LF KF ER ET EW EL EK).1, (va_up W (i.toNatClampNeg) (upd (W (i.toNatClampNeg)) 10 q)), (f_X4_remember s r t W LF KF ER ET EW EL EK).2.1, (f_X4_remember s r t W LF KF ER ET EW EL EK).2.2.1, (f_X4_remember s r t W LF KF ER ET EW EL EK).2.2.2.1, (f_X4_remember s r t W LF KF ER ET EW EL EK).2.2.2.2.1, (f_X4_remember s r t W LF KF ER ET EW EL EK).2.2.2.2.2))))
def p_X4_loss (s : (Nat → Int32)) (r : (Nat → Int32)) (t : (Nat → Int32)) (W : (Nat → Nat → Int32)) (LF : (Nat → Nat → Int32)) (KF : (Nat → Nat → Int32)) (ER : (Nat → Nat → Int32)) (ET : (Nat → Nat → Int32)) (EW : (Nat → Nat → Nat → Int32)) (EL : (Nat → Nat → Nat → Int32)) (EK : (Nat → Nat → Nat → Int32)) (i q : Int32) : Prop := (((f_X4_isWay s r t W LF KF i) = 0 → True) ∧ (¬ ((f_X4_isWay s r t W LF KF i) = 0) → (((f_X4_isBetween q (0 : Int32) (99 : Int32)) = 0 → True) ∧ (¬ ((f_X4_isBetween q (0 : Int32) (99 : Int32)) = 0) → (vp_in i 4 ∧ ((((W (i.toNatClampNeg)) 10) = q → True) ∧ (¬ (((W (i.toNatClampNeg)) 10) = q) → (p_X4_remember s r t W LF KF ER ET EW EL EK ∧ (vp_in i 4 ∧ True)))))))))
set_option maxRecDepth 100000 in
set_option maxHeartbeats 4000000 in
theorem C_X4_loss (G : xG) (h : xH) (g : Nat) (s : (Nat → Int32)) (r : (Nat → Int32)) (t : (Nat → Int32)) (W : (Nat → Nat → Int32)) (LF : (Nat → Nat → Int32)) (KF : (Nat → Nat → Int32)) (ER : (Nat → Nat → Int32)) (ET : (Nat → Nat → Int32)) (EW : (Nat → Nat → Nat → Int32)) (EL : (Nat → Nat → Nat → Int32)) (EK : (Nat → Nat → Nat → Int32)) (i q : Int32) (k_g : hAt h g = some (gpC (g + 1) (g + 3) (g + 18) (g + 33) (g + 34) (g + 37) s)) (k_g3 : nk h (g + 3) r t W LF KF) (k_g33 : hAt h (g + 33) = some (arR 2 4 (fun j => some ((g + 38) + 15 * j)))) (k_g38 : ek h (g + 38) ER ET EW EL EK) (hp : p_X4_loss s r t W LF KF ER ET EW EL EK i q) : Ct G 4 0 0 yX4_loss cX4_loss 4 (some .int) [.ref g, .int i, .int q] h (fun v' h' => v' = (some (.int (f_X4_loss s r t W LF KF ER ET EW EL EK i q).1)) ∧ (hAt h' g = some (gpC (g + 1) (g + 3) (g + 18) (g + 33) (g + 34) (g + 37) (f_X4_loss s r t W LF KF ER ET EW EL EK i q).2.1)) ∧ (nk h' (g + 3) r t (f_X4_loss s r t W LF KF ER ET EW EL EK i q).2.2.1 LF KF) ∧ (ek h' (g + 38) (f_X4_loss s r t W LF KF ER ET EW EL EK i q).2.2.2.1 (f_X4_loss s r t W LF KF ER ET EW EL EK i q).2.2.2.2.1 (f_X4_loss s r t W LF KF ER ET EW EL EK i q).2.2.2.2.2.1 (f_X4_loss s r t W LF KF ER ET EW EL EK i q).2.2.2.2.2.2.1 (f_X4_loss s r t W LF KF ER ET EW EL EK i q).2.2.2.2.2.2.2) ∧ fr (fun q => q = g ∨ ((g + 3) ≤ q ∧ q < (g + 3) + 15) ∨ ((g + 38) ≤ q ∧ q < (g + 38) + 60)) h h') := by
  refine Ct.of (by decide) (by rfl) ?_
  refine Wp.eqs (L' := [(0, .ref g), (1, .int i), (2, .int q)]) (st' := []) rfl rfl ?_
  obtain ⟨R, er⟩ : ∃ R, f_X4_loss s r t W LF KF ER ET EW EL EK i q = R := ⟨_, rfl⟩
  rw [er]
  unfold f_X4_loss at er
  unfold p_X4_loss at hp
  refine x_aload_n (pc := 0) dX4_loss_0 rfl ?_
  refine x_iload_n (pc := 1) dX4_loss_1 rfl ?_
  refine x_cV1i (pc := 2) dX4_loss_2 xl_X4_101 xv_X4_isWay k_g rfl (C_X4_isWay G _ g s r t W LF KF i k_g k_g3) rfl rfl rfl ?_
  obtain ⟨F1, eF1⟩ : ∃ F, f_X4_isWay s r t W LF KF i = F := ⟨_, rfl⟩
  rw [eF1]
  try rw [eF1] at er
  try rw [eF1] at hp
  have bF1 : xB F1 := by rw [← eF1]; exact (B_X4_isWay _ _ _ _ _ _ _)
  refine x_if_eq (pc := 5) (tgt := 18) dX4_loss_5 (by decide) (fun (c1 : F1 = 0) => ?_) (fun (c1 : ¬ (F1 = 0)) => ?_)
  · rw [if_pos c1] at er
    replace hp := hp.1 c1
    refine x_iconst (pc := 18) (v := (-1 : Int32)) dX4_loss_18 (by decide) ?_
    subst er
    exact x_iret (pc := 19) dX4_loss_19 rfl rfl rfl rfl ⟨rfl, k_g, k_g3, k_g38, fr_refl⟩
  · rw [if_neg c1] at er
    replace hp := hp.2 c1
    refine x_iload_n (pc := 8) dX4_loss_8 rfl ?_
    refine x_iconst (pc := 9) (v := (0 : Int32)) dX4_loss_9 (by decide) ?_
    refine x_bipush (pc := 10) (v := (99 : Int32)) dX4_loss_10 (by decide) ?_
    refine x_cS3i (pc := 12) dX4_loss_12 xl_X4_77 xs_X4_isBetween (C_X4_isBetween G _ q (0 : Int32) (99 : Int32)) rfl rfl rfl ?_
    obtain ⟨F2, eF2⟩ : ∃ F, f_X4_isBetween q (0 : Int32) (99 : Int32) = F := ⟨_, rfl⟩
    rw [eF2]
    try rw [eF2] at er
    try rw [eF2] at hp
    have bF2 : xB F2 := by rw [← eF2]; exact (B_X4_isBetween _ _ _)
    refine x_if_ne (pc := 15) (tgt := 20) dX4_loss_15 (by decide) (fun (c2 : ¬ (F2 = 0)) => ?_) (fun (c2 : F2 = 0) => ?_)
    · rw [if_neg c2] at er
      replace hp := hp.2 c2
      refine x_aload_n (pc := 20) dX4_loss_20 rfl ?_
      refine x_getf (pc := 21) (v := .ref (g + 3)) dX4_loss_21 xf_X4_19 k_g rfl ?_
      refine x_getf (pc := 24) (v := .ref ((g + 3) + 2)) dX4_loss_24 xf_X4_90 (nk_nt k_g3) rfl ?_
      refine x_iload_n (pc := 27) dX4_loss_27 rfl ?_
      obtain ⟨q28, hp⟩ := hp
      have hj1 : (i.toNatClampNeg) < 4 := vp_lt q28
      refine x_aald (pc := 28) (t := 3) (Cn := RX3) (b := ((g + 3) + 3 + 3 * (i.toNatClampNeg))) rfl dX4_loss_28 (nk_wy k_g3) q28 rfl ?_
      refine x_getf (pc := 29) (v := .int ((W (i.toNatClampNeg)) 10)) dX4_loss_29 xf_X4_124 (nk_wa k_g3 hj1) rfl ?_
      refine x_istore_n (pc := 32) (L' := [(3, .int ((W (i.toNatClampNeg)) 10)), (0, .ref g), (1, .int i), (2, .int q)]) dX4_loss_32 rfl rfl ?_
      refine x_iload_n (pc := 33) dX4_loss_33 rfl ?_
      refine x_iload_n (pc := 34) dX4_loss_34 rfl ?_
      refine x_icmp_ne (pc := 35) (tgt := 41) dX4_loss_35 (by decide) (fun (c3 : ¬ (((W (i.toNatClampNeg)) 10) = q)) => ?_) (fun (c3 : ((W (i.toNatClampNeg)) 10) = q) => ?_)
      · rw [if_neg c3] at er
        replace hp := hp.2 c3
        refine x_aload_n (pc := 41) dX4_loss_41 rfl ?_
        obtain ⟨q42, hp⟩ := hp
        refine x_cVQ (pc := 42) (As := []) (rest := []) dX4_loss_42 xl_X4_84 xv_X4_remember k_g rfl rfl rfl rfl rfl rfl (C_X4_remember G _ g s r t W LF KF ER ET EW EL EK k_g k_g3 k_g33 k_g38 q42) (fun v h1 hq => ?_)
        obtain ⟨ev, z0_h1, z1_h1, g_h1⟩ := hq
        subst ev
        refine Wp.eqs (L' := [(3, .int ((W (i.toNatClampNeg)) 10)), (0, .ref g), (1, .int i), (2, .int q)]) (st' := []) rfl rfl ?_
        obtain ⟨F3, eF3⟩ : ∃ F, f_X4_remember s r t W LF KF ER ET EW EL EK = F := ⟨_, rfl⟩
        try rw [eF3] at er
        try rw [eF3] at hp
        try rw [eF3]
        try rw [eF3] at z0_h1
        try rw [eF3] at z1_h1
        have k_g_h1 : hAt h1 g = some (gpC (g + 1) (g + 3) (g + 18) (g + 33) (g + 34) (g + 37) F3.1) := z0_h1
        have k_g3_h1 : nk h1 (g + 3) r t W LF KF := nk_fr (fun q u1 u2 => g_h1.2 q (show ¬ (q = g ∨ ((g + 38) ≤ q ∧ q < (g + 38) + 60)) by omega)) k_g3
        have k_g33_h1 : hAt h1 (g + 33) = some (arR 2 4 (fun j => some ((g + 38) + 15 * j))) := (g_h1.2 (g + 33) (show ¬ ((g + 33) = g ∨ ((g + 38) ≤ (g + 33) ∧ (g + 33) < (g + 38) + 60)) by omega)).trans k_g33
        have k_g38_h1 : ek h1 (g + 38) F3.2.1 F3.2.2.1 F3.2.2.2.1 F3.2.2.2.2.1 F3.2.2.2.2.2 := z1_h1
        have f_h1 : fr (fun q => q = g ∨ ((g + 3) ≤ q ∧ q < (g + 3) + 15) ∨ ((g + 38) ≤ q ∧ q < (g + 38) + 60)) h h1 := fr_trans fr_refl (fr_mono (fun q (u : q = g ∨ ((g + 38) ≤ q ∧ q < (g + 38) + 60)) => show q = g ∨ ((g + 3) ≤ q ∧ q < (g + 3) + 15) ∨ ((g + 38) ≤ q ∧ q < (g + 38) + 60) by omega) g_h1)
        refine x_aload_n (pc := 45) dX4_loss_45 rfl ?_
        refine x_getf (pc := 46) (v := .ref (g + 3)) dX4_loss_46 xf_X4_19 k_g_h1 rfl ?_
        refine x_getf (pc := 49) (v := .ref ((g + 3) + 2)) dX4_loss_49 xf_X4_90 (nk_nt k_g3_h1) rfl ?_
        refine x_iload_n (pc := 52) dX4_loss_52 rfl ?_
        obtain ⟨q53, hp⟩ := hp
        have hj2 : (i.toNatClampNeg) < 4 := vp_lt q53
        refine x_aald (pc := 53) (t := 3) (Cn := RX3) (b := ((g + 3) + 3 + 3 * (i.toNatClampNeg))) rfl dX4_loss_53 (nk_wy k_g3_h1) q53 rfl ?_
        refine x_iload_n (pc := 54) dX4_loss_54 rfl ?_
        refine x_putf (pc := 55) (e' := waC ((g + 3) + 4 + 3 * (i.toNatClampNeg)) ((g + 3) + 5 + 3 * (i.toNatClampNeg)) (upd (W (i.toNatClampNeg)) 10 q)) dX4_loss_55 xf_X4_124 (nk_wa k_g3_h1 hj2) rfl rfl rfl rfl ?_
        obtain ⟨h2, eh2⟩ : ∃ z, z = hSet h1 ((g + 3) + 3 + 3 * (i.toNatClampNeg)) (waC ((g + 3) + 4 + 3 * (i.toNatClampNeg)) ((g + 3) + 5 + 3 * (i.toNatClampNeg)) (upd (W (i.toNatClampNeg)) 10 q)) := ⟨_, rfl⟩
        rw [← eh2]
        have k_g_h2 : hAt h2 g = some (gpC (g + 1) (g + 3) (g + 18) (g + 33) (g + 34) (g + 37) F3.1) := by rw [eh2]; exact hAt_n (by omega) k_g_h1
        have k_g3_h2 : nk h2 (g + 3) r t (va_up W (i.toNatClampNeg) (upd (W (i.toNatClampNeg)) 10 q)) LF KF := by rw [eh2]; exact nk_swa k_g3_h1 hj2
        have k_g33_h2 : hAt h2 (g + 33) = some (arR 2 4 (fun j => some ((g + 38) + 15 * j))) := by rw [eh2]; exact hAt_n (by omega) k_g33_h1
        have k_g38_h2 : ek h2 (g + 38) F3.2.1 F3.2.2.1 F3.2.2.2.1 F3.2.2.2.2.1 F3.2.2.2.2.2 := by rw [eh2]; exact ek_fr1 (by omega) k_g38_h1
        have f_h2 : fr (fun q => q = g ∨ ((g + 3) ≤ q ∧ q < (g + 3) + 15) ∨ ((g + 38) ≤ q ∧ q < (g + 38) + 60)) h h2 := by rw [eh2]; exact fr_set f_h1 (show ((g + 3) + 3 + 3 * (i.toNatClampNeg)) = g ∨ ((g + 3) ≤ ((g + 3) + 3 + 3 * (i.toNatClampNeg)) ∧ ((g + 3) + 3 + 3 * (i.toNatClampNeg)) < (g + 3) + 15) ∨ ((g + 38) ≤ ((g + 3) + 3 + 3 * (i.toNatClampNeg)) ∧ ((g + 3) + 3 + 3 * (i.toNatClampNeg)) < (g + 38) + 60) by omega)
        refine x_iload_n (pc := 58) dX4_loss_58 rfl ?_
        subst er
        exact x_iret (pc := 59) dX4_loss_59 rfl rfl rfl rfl ⟨rfl, k_g_h2, k_g3_h2, k_g38_h2, f_h2⟩
      · rw [if_pos c3] at er
        replace hp := hp.1 c3
        refine x_bipush (pc := 38) (v := (-2 : Int32)) dX4_loss_38 (by decide) ?_
        subst er
        exact x_iret (pc := 40) dX4_loss_40 rfl rfl rfl rfl ⟨rfl, k_g, k_g3, k_g38, fr_refl⟩
    · rw [if_pos c2] at er
      replace hp := hp.1 c2
      refine x_iconst (pc := 18) (v := (-1 : Int32)) dX4_loss_18 (by decide) ?_
      subst er
      exact x_iret (pc := 19) dX4_loss_19 rfl rfl rfl rfl ⟨rfl, k_g, k_g3, k_g38, fr_refl⟩

def f_X4_believe (s : (Nat → Int32)) (r : (Nat → Int32)) (t : (Nat → Int32)) (W : (Nat → Nat → Int32)) (LF : (Nat → Nat → Int32)) (KF : (Nat → Nat → Int32)) (ER : (Nat → Nat → Int32)) (ET : (Nat → Nat → Int32)) (EW : (Nat → Nat → Nat → Int32)) (EL : (Nat → Nat → Nat → Int32)) (EK : (Nat → Nat → Nat → Int32)) (bel : Int32) : Int32 × (Nat → Int32) × (Nat → Int32) × (Nat → Nat → Int32) × (Nat → Nat → Int32) × (Nat → Nat → Nat → Int32) × (Nat → Nat → Nat → Int32) × (Nat → Nat → Nat → Int32) := (if (f_X4_isBetween bel (0 : Int32) (2 : Int32)) = 0 then ((-1 : Int32), s, r, ER, ET, EW, EL, EK) else (if (r 3) = bel then ((-2 : Int32), s, r, ER, ET, EW, EL, EK) else ((r 3), (f_X4_remember s r t W LF KF ER ET EW EL EK).1, (upd r 3 bel), (f_X4_remember s r t W LF KF ER ET EW EL EK).2.1, (f_X4_remember s r t W LF KF ER ET EW EL EK).2.2.1, (f_X4_remember s r t W LF KF ER ET EW EL EK).2.2.2.1, (f_X4_remember s r t W LF KF ER ET EW EL EK).2.2.2.2.1, (f_X4_remember s r t W LF KF ER ET EW EL EK).2.2.2.2.2)))
def p_X4_believe (s : (Nat → Int32)) (r : (Nat → Int32)) (t : (Nat → Int32)) (W : (Nat → Nat → Int32)) (LF : (Nat → Nat → Int32)) (KF : (Nat → Nat → Int32)) (ER : (Nat → Nat → Int32)) (ET : (Nat → Nat → Int32)) (EW : (Nat → Nat → Nat → Int32)) (EL : (Nat → Nat → Nat → Int32)) (EK : (Nat → Nat → Nat → Int32)) (bel : Int32) : Prop := (((f_X4_isBetween bel (0 : Int32) (2 : Int32)) = 0 → True) ∧ (¬ ((f_X4_isBetween bel (0 : Int32) (2 : Int32)) = 0) → (((r 3) = bel → True) ∧ (¬ ((r 3) = bel) → (p_X4_remember s r t W LF KF ER ET EW EL EK ∧ True)))))
set_option maxRecDepth 100000 in
set_option maxHeartbeats 4000000 in
theorem C_X4_believe (G : xG) (h : xH) (g : Nat) (s : (Nat → Int32)) (r : (Nat → Int32)) (t : (Nat → Int32)) (W : (Nat → Nat → Int32)) (LF : (Nat → Nat → Int32)) (KF : (Nat → Nat → Int32)) (ER : (Nat → Nat → Int32)) (ET : (Nat → Nat → Int32)) (EW : (Nat → Nat → Nat → Int32)) (EL : (Nat → Nat → Nat → Int32)) (EK : (Nat → Nat → Nat → Int32)) (bel : Int32) (k_g : hAt h g = some (gpC (g + 1) (g + 3) (g + 18) (g + 33) (g + 34) (g + 37) s)) (k_g3 : nk h (g + 3) r t W LF KF) (k_g33 : hAt h (g + 33) = some (arR 2 4 (fun j => some ((g + 38) + 15 * j)))) (k_g38 : ek h (g + 38) ER ET EW EL EK) (hp : p_X4_believe s r t W LF KF ER ET EW EL EK bel) : Ct G 4 0 0 yX4_believe cX4_believe 3 (some .int) [.ref g, .int bel] h (fun v' h' => v' = (some (.int (f_X4_believe s r t W LF KF ER ET EW EL EK bel).1)) ∧ (hAt h' g = some (gpC (g + 1) (g + 3) (g + 18) (g + 33) (g + 34) (g + 37) (f_X4_believe s r t W LF KF ER ET EW EL EK bel).2.1)) ∧ (nk h' (g + 3) (f_X4_believe s r t W LF KF ER ET EW EL EK bel).2.2.1 t W LF KF) ∧ (ek h' (g + 38) (f_X4_believe s r t W LF KF ER ET EW EL EK bel).2.2.2.1 (f_X4_believe s r t W LF KF ER ET EW EL EK bel).2.2.2.2.1 (f_X4_believe s r t W LF KF ER ET EW EL EK bel).2.2.2.2.2.1 (f_X4_believe s r t W LF KF ER ET EW EL EK bel).2.2.2.2.2.2.1 (f_X4_believe s r t W LF KF ER ET EW EL EK bel).2.2.2.2.2.2.2) ∧ fr (fun q => q = g ∨ ((g + 3) ≤ q ∧ q < (g + 3) + 15) ∨ ((g + 38) ≤ q ∧ q < (g + 38) + 60)) h h') := by
  refine Ct.of (by decide) (by rfl) ?_
  refine Wp.eqs (L' := [(0, .ref g), (1, .int bel)]) (st' := []) rfl rfl ?_
  obtain ⟨R, er⟩ : ∃ R, f_X4_believe s r t W LF KF ER ET EW EL EK bel = R := ⟨_, rfl⟩
  rw [er]
  unfold f_X4_believe at er
  unfold p_X4_believe at hp
  refine x_iload_n (pc := 0) dX4_believe_0 rfl ?_
  refine x_iconst (pc := 1) (v := (0 : Int32)) dX4_believe_1 (by decide) ?_
  refine x_iconst (pc := 2) (v := (2 : Int32)) dX4_believe_2 (by decide) ?_
  refine x_cS3i (pc := 3) dX4_believe_3 xl_X4_77 xs_X4_isBetween (C_X4_isBetween G _ bel (0 : Int32) (2 : Int32)) rfl rfl rfl ?_
  obtain ⟨F1, eF1⟩ : ∃ F, f_X4_isBetween bel (0 : Int32) (2 : Int32) = F := ⟨_, rfl⟩
  rw [eF1]
  try rw [eF1] at er
  try rw [eF1] at hp
  have bF1 : xB F1 := by rw [← eF1]; exact (B_X4_isBetween _ _ _)
  refine x_if_ne (pc := 6) (tgt := 11) dX4_believe_6 (by decide) (fun (c1 : ¬ (F1 = 0)) => ?_) (fun (c1 : F1 = 0) => ?_)
  · rw [if_neg c1] at er
    replace hp := hp.2 c1
    refine x_aload_n (pc := 11) dX4_believe_11 rfl ?_
    refine x_getf (pc := 12) (v := .ref (g + 3)) dX4_believe_12 xf_X4_19 k_g rfl ?_
    refine x_getf (pc := 15) (v := .ref ((g + 3) + 1)) dX4_believe_15 xf_X4_94 (nk_nt k_g3) rfl ?_
    refine x_getf (pc := 18) (v := .int (r 3)) dX4_believe_18 xf_X4_127 (nk_ru k_g3) rfl ?_
    refine x_istore_n (pc := 21) (L' := [(2, .int (r 3)), (0, .ref g), (1, .int bel)]) dX4_believe_21 rfl rfl ?_
    refine x_iload_n (pc := 22) dX4_believe_22 rfl ?_
    refine x_iload_n (pc := 23) dX4_believe_23 rfl ?_
    refine x_icmp_ne (pc := 24) (tgt := 30) dX4_believe_24 (by decide) (fun (c2 : ¬ ((r 3) = bel)) => ?_) (fun (c2 : (r 3) = bel) => ?_)
    · rw [if_neg c2] at er
      replace hp := hp.2 c2
      refine x_aload_n (pc := 30) dX4_believe_30 rfl ?_
      obtain ⟨q31, hp⟩ := hp
      refine x_cVQ (pc := 31) (As := []) (rest := []) dX4_believe_31 xl_X4_84 xv_X4_remember k_g rfl rfl rfl rfl rfl rfl (C_X4_remember G _ g s r t W LF KF ER ET EW EL EK k_g k_g3 k_g33 k_g38 q31) (fun v h1 hq => ?_)
      obtain ⟨ev, z0_h1, z1_h1, g_h1⟩ := hq
      subst ev
      refine Wp.eqs (L' := [(2, .int (r 3)), (0, .ref g), (1, .int bel)]) (st' := []) rfl rfl ?_
      obtain ⟨F2, eF2⟩ : ∃ F, f_X4_remember s r t W LF KF ER ET EW EL EK = F := ⟨_, rfl⟩
      try rw [eF2] at er
      try rw [eF2] at hp
      try rw [eF2]
      try rw [eF2] at z0_h1
      try rw [eF2] at z1_h1
      have k_g_h1 : hAt h1 g = some (gpC (g + 1) (g + 3) (g + 18) (g + 33) (g + 34) (g + 37) F2.1) := z0_h1
      have k_g3_h1 : nk h1 (g + 3) r t W LF KF := nk_fr (fun q u1 u2 => g_h1.2 q (show ¬ (q = g ∨ ((g + 38) ≤ q ∧ q < (g + 38) + 60)) by omega)) k_g3
      have k_g33_h1 : hAt h1 (g + 33) = some (arR 2 4 (fun j => some ((g + 38) + 15 * j))) := (g_h1.2 (g + 33) (show ¬ ((g + 33) = g ∨ ((g + 38) ≤ (g + 33) ∧ (g + 33) < (g + 38) + 60)) by omega)).trans k_g33
      have k_g38_h1 : ek h1 (g + 38) F2.2.1 F2.2.2.1 F2.2.2.2.1 F2.2.2.2.2.1 F2.2.2.2.2.2 := z1_h1
      have f_h1 : fr (fun q => q = g ∨ ((g + 3) ≤ q ∧ q < (g + 3) + 15) ∨ ((g + 38) ≤ q ∧ q < (g + 38) + 60)) h h1 := fr_trans fr_refl (fr_mono (fun q (u : q = g ∨ ((g + 38) ≤ q ∧ q < (g + 38) + 60)) => show q = g ∨ ((g + 3) ≤ q ∧ q < (g + 3) + 15) ∨ ((g + 38) ≤ q ∧ q < (g + 38) + 60) by omega) g_h1)
      refine x_aload_n (pc := 34) dX4_believe_34 rfl ?_
      refine x_getf (pc := 35) (v := .ref (g + 3)) dX4_believe_35 xf_X4_19 k_g_h1 rfl ?_
      refine x_getf (pc := 38) (v := .ref ((g + 3) + 1)) dX4_believe_38 xf_X4_94 (nk_nt k_g3_h1) rfl ?_
      refine x_iload_n (pc := 41) dX4_believe_41 rfl ?_
      refine x_putf (pc := 42) (e' := ruC (upd r 3 bel)) dX4_believe_42 xf_X4_127 (nk_ru k_g3_h1) rfl rfl rfl rfl ?_
      obtain ⟨h2, eh2⟩ : ∃ z, z = hSet h1 ((g + 3) + 1) (ruC (upd r 3 bel)) := ⟨_, rfl⟩
      rw [← eh2]
      have k_g_h2 : hAt h2 g = some (gpC (g + 1) (g + 3) (g + 18) (g + 33) (g + 34) (g + 37) F2.1) := by rw [eh2]; exact hAt_n (by omega) k_g_h1
      have k_g3_h2 : nk h2 (g + 3) (upd r 3 bel) t W LF KF := by rw [eh2]; exact nk_sru k_g3_h1
      have k_g33_h2 : hAt h2 (g + 33) = some (arR 2 4 (fun j => some ((g + 38) + 15 * j))) := by rw [eh2]; exact hAt_n (by omega) k_g33_h1
      have k_g38_h2 : ek h2 (g + 38) F2.2.1 F2.2.2.1 F2.2.2.2.1 F2.2.2.2.2.1 F2.2.2.2.2.2 := by rw [eh2]; exact ek_fr1 (by omega) k_g38_h1
      have f_h2 : fr (fun q => q = g ∨ ((g + 3) ≤ q ∧ q < (g + 3) + 15) ∨ ((g + 38) ≤ q ∧ q < (g + 38) + 60)) h h2 := by rw [eh2]; exact fr_set f_h1 (show ((g + 3) + 1) = g ∨ ((g + 3) ≤ ((g + 3) + 1) ∧ ((g + 3) + 1) < (g + 3) + 15) ∨ ((g + 38) ≤ ((g + 3) + 1) ∧ ((g + 3) + 1) < (g + 38) + 60) by omega)
      refine x_iload_n (pc := 45) dX4_believe_45 rfl ?_
      subst er
      exact x_iret (pc := 46) dX4_believe_46 rfl rfl rfl rfl ⟨rfl, k_g_h2, k_g3_h2, k_g38_h2, f_h2⟩
    · rw [if_pos c2] at er
      replace hp := hp.1 c2
      refine x_bipush (pc := 27) (v := (-2 : Int32)) dX4_believe_27 (by decide) ?_
      subst er
      exact x_iret (pc := 29) dX4_believe_29 rfl rfl rfl rfl ⟨rfl, k_g, k_g3, k_g38, fr_refl⟩
  · rw [if_pos c1] at er
    replace hp := hp.1 c1
    refine x_iconst (pc := 9) (v := (-1 : Int32)) dX4_believe_9 (by decide) ?_
    subst er
    exact x_iret (pc := 10) dX4_believe_10 rfl rfl rfl rfl ⟨rfl, k_g, k_g3, k_g38, fr_refl⟩

def f_X4_undo (s : (Nat → Int32)) (r : (Nat → Int32)) (t : (Nat → Int32)) (W : (Nat → Nat → Int32)) (LF : (Nat → Nat → Int32)) (KF : (Nat → Nat → Int32)) (ER : (Nat → Nat → Int32)) (ET : (Nat → Nat → Int32)) (EW : (Nat → Nat → Nat → Int32)) (EL : (Nat → Nat → Nat → Int32)) (EK : (Nat → Nat → Nat → Int32)) : Int32 × (Nat → Int32) × (Nat → Int32) × (Nat → Int32) × (Nat → Nat → Int32) × (Nat → Nat → Int32) × (Nat → Nat → Int32) := (if (s 1) = 0 then ((-2 : Int32), s, r, t, W, LF, KF) else (((upd (upd s 0 ((if (s 0) = 0 then (3 : Int32) else ((s 0) - (1 : Int32))))) 1 (((upd s 0 ((if (s 0) = 0 then (3 : Int32) else ((s 0) - (1 : Int32))))) 1) - (1 : Int32))) 1), (upd (upd s 0 ((if (s 0) = 0 then (3 : Int32) else ((s 0) - (1 : Int32))))) 1 (((upd s 0 ((if (s 0) = 0 then (3 : Int32) else ((s 0) - (1 : Int32))))) 1) - (1 : Int32))), (f_X0_copy r t W LF KF (ER (((upd s 0 ((if (s 0) = 0 then (3 : Int32) else ((s 0) - (1 : Int32))))) 0).toNatClampNeg)) (ET (((upd s 0 ((if (s 0) = 0 then (3 : Int32) else ((s 0) - (1 : Int32))))) 0).toNatClampNeg)) (EW (((upd s 0 ((if (s 0) = 0 then (3 : Int32) else ((s 0) - (1 : Int32))))) 0).toNatClampNeg)) (EL (((upd s 0 ((if (s 0) = 0 then (3 : Int32) else ((s 0) - (1 : Int32))))) 0).toNatClampNeg)) (EK (((upd s 0 ((if (s 0) = 0 then (3 : Int32) else ((s 0) - (1 : Int32))))) 0).toNatClampNeg))).1, (f_X0_copy r t W LF KF (ER (((upd s 0 ((if (s 0) = 0 then (3 : Int32) else ((s 0) - (1 : Int32))))) 0).toNatClampNeg)) (ET (((upd s 0 ((if (s 0) = 0 then (3 : Int32) else ((s 0) - (1 : Int32))))) 0).toNatClampNeg)) (EW (((upd s 0 ((if (s 0) = 0 then (3 : Int32) else ((s 0) - (1 : Int32))))) 0).toNatClampNeg)) (EL (((upd s 0 ((if (s 0) = 0 then (3 : Int32) else ((s 0) - (1 : Int32))))) 0).toNatClampNeg)) (EK (((upd s 0 ((if (s 0) = 0 then (3 : Int32) else ((s 0) - (1 : Int32))))) 0).toNatClampNeg))).2.1, (f_X0_copy r t W LF KF (ER (((upd s 0 ((if (s 0) = 0 then (3 : Int32) else ((s 0) - (1 : Int32))))) 0).toNatClampNeg)) (ET (((upd s 0 ((if (s 0) = 0 then (3 : Int32) else ((s 0) - (1 : Int32))))) 0).toNatClampNeg)) (EW (((upd s 0 ((if (s 0) = 0 then (3 : Int32) else ((s 0) - (1 : Int32))))) 0).toNatClampNeg)) (EL (((upd s 0 ((if (s 0) = 0 then (3 : Int32) else ((s 0) - (1 : Int32))))) 0).toNatClampNeg)) (EK (((upd s 0 ((if (s 0) = 0 then (3 : Int32) else ((s 0) - (1 : Int32))))) 0).toNatClampNeg))).2.2.1, (f_X0_copy r t W LF KF (ER (((upd s 0 ((if (s 0) = 0 then (3 : Int32) else ((s 0) - (1 : Int32))))) 0).toNatClampNeg)) (ET (((upd s 0 ((if (s 0) = 0 then (3 : Int32) else ((s 0) - (1 : Int32))))) 0).toNatClampNeg)) (EW (((upd s 0 ((if (s 0) = 0 then (3 : Int32) else ((s 0) - (1 : Int32))))) 0).toNatClampNeg)) (EL (((upd s 0 ((if (s 0) = 0 then (3 : Int32) else ((s 0) - (1 : Int32))))) 0).toNatClampNeg)) (EK (((upd s 0 ((if (s 0) = 0 then (3 : Int32) else ((s 0) - (1 : Int32))))) 0).toNatClampNeg))).2.2.2.1, (f_X0_copy r t W LF KF (ER (((upd s 0 ((if (s 0) = 0 then (3 : Int32) else ((s 0) - (1 : Int32))))) 0).toNatClampNeg)) (ET (((upd s 0 ((if (s 0) = 0 then (3 : Int32) else ((s 0) - (1 : Int32))))) 0).toNatClampNeg)) (EW (((upd s 0 ((if (s 0) = 0 then (3 : Int32) else ((s 0) - (1 : Int32))))) 0).toNatClampNeg)) (EL (((upd s 0 ((if (s 0) = 0 then (3 : Int32) else ((s 0) - (1 : Int32))))) 0).toNatClampNeg)) (EK (((upd s 0 ((if (s 0) = 0 then (3 : Int32) else ((s 0) - (1 : Int32))))) 0).toNatClampNeg))).2.2.2.2))
def p_X4_undo (s : (Nat → Int32)) (r : (Nat → Int32)) (t : (Nat → Int32)) (W : (Nat → Nat → Int32)) (LF : (Nat → Nat → Int32)) (KF : (Nat → Nat → Int32)) (ER : (Nat → Nat → Int32)) (ET : (Nat → Nat → Int32)) (EW : (Nat → Nat → Nat → Int32)) (EL : (Nat → Nat → Nat → Int32)) (EK : (Nat → Nat → Nat → Int32)) : Prop := (((s 1) = 0 → True) ∧ (¬ ((s 1) = 0) → (vp_in ((upd s 0 ((if (s 0) = 0 then (3 : Int32) else ((s 0) - (1 : Int32))))) 0) 4 ∧ (p_X0_copy r t W LF KF (ER (((upd s 0 ((if (s 0) = 0 then (3 : Int32) else ((s 0) - (1 : Int32))))) 0).toNatClampNeg)) (ET (((upd s 0 ((if (s 0) = 0 then (3 : Int32) else ((s 0) - (1 : Int32))))) 0).toNatClampNeg)) (EW (((upd s 0 ((if (s 0) = 0 then (3 : Int32) else ((s 0) - (1 : Int32))))) 0).toNatClampNeg)) (EL (((upd s 0 ((if (s 0) = 0 then (3 : Int32) else ((s 0) - (1 : Int32))))) 0).toNatClampNeg)) (EK (((upd s 0 ((if (s 0) = 0 then (3 : Int32) else ((s 0) - (1 : Int32))))) 0).toNatClampNeg)) ∧ True))))
set_option maxRecDepth 100000 in
set_option maxHeartbeats 4000000 in
theorem C_X4_undo (G : xG) (h : xH) (g : Nat) (s : (Nat → Int32)) (r : (Nat → Int32)) (t : (Nat → Int32)) (W : (Nat → Nat → Int32)) (LF : (Nat → Nat → Int32)) (KF : (Nat → Nat → Int32)) (ER : (Nat → Nat → Int32)) (ET : (Nat → Nat → Int32)) (EW : (Nat → Nat → Nat → Int32)) (EL : (Nat → Nat → Nat → Int32)) (EK : (Nat → Nat → Nat → Int32)) (k_g : hAt h g = some (gpC (g + 1) (g + 3) (g + 18) (g + 33) (g + 34) (g + 37) s)) (k_g3 : nk h (g + 3) r t W LF KF) (k_g33 : hAt h (g + 33) = some (arR 2 4 (fun j => some ((g + 38) + 15 * j)))) (k_g38 : ek h (g + 38) ER ET EW EL EK) (hp : p_X4_undo s r t W LF KF ER ET EW EL EK) : Ct G 3 0 0 yX4_undo cX4_undo 1 (some .int) [.ref g] h (fun v' h' => v' = (some (.int (f_X4_undo s r t W LF KF ER ET EW EL EK).1)) ∧ (hAt h' g = some (gpC (g + 1) (g + 3) (g + 18) (g + 33) (g + 34) (g + 37) (f_X4_undo s r t W LF KF ER ET EW EL EK).2.1)) ∧ (nk h' (g + 3) (f_X4_undo s r t W LF KF ER ET EW EL EK).2.2.1 (f_X4_undo s r t W LF KF ER ET EW EL EK).2.2.2.1 (f_X4_undo s r t W LF KF ER ET EW EL EK).2.2.2.2.1 (f_X4_undo s r t W LF KF ER ET EW EL EK).2.2.2.2.2.1 (f_X4_undo s r t W LF KF ER ET EW EL EK).2.2.2.2.2.2) ∧ fr (fun q => q = g ∨ ((g + 3) ≤ q ∧ q < (g + 3) + 15)) h h') := by
  refine Ct.of (by decide) (by rfl) ?_
  refine Wp.eqs (L' := [(0, .ref g)]) (st' := []) rfl rfl ?_
  obtain ⟨R, er⟩ : ∃ R, f_X4_undo s r t W LF KF ER ET EW EL EK = R := ⟨_, rfl⟩
  rw [er]
  unfold f_X4_undo at er
  unfold p_X4_undo at hp
  refine x_aload_n (pc := 0) dX4_undo_0 rfl ?_
  refine x_getf (pc := 1) (v := .int (s 1)) dX4_undo_1 xf_X4_74 k_g rfl ?_
  refine x_if_ne (pc := 4) (tgt := 10) dX4_undo_4 (by decide) (fun (c1 : ¬ ((s 1) = 0)) => ?_) (fun (c1 : (s 1) = 0) => ?_)
  · rw [if_neg c1] at er
    replace hp := hp.2 c1
    refine x_aload_n (pc := 10) dX4_undo_10 rfl ?_
    refine x_aload_n (pc := 11) dX4_undo_11 rfl ?_
    refine x_getf (pc := 12) (v := .int (s 0)) dX4_undo_12 xf_X4_130 k_g rfl ?_
    obtain ⟨F1, eF1⟩ : ∃ F, (if (s 0) = 0 then (3 : Int32) else ((s 0) - (1 : Int32))) = F := ⟨_, rfl⟩
    try rw [eF1] at er
    try rw [eF1] at hp
    refine x_mrg (pc' := 28) (L' := [(0, .ref g)]) (st' := [.int F1, .ref g]) (h' := h) (fun J => ?_) ?_
    · refine x_if_ne (pc := 15) (tgt := 22) dX4_undo_15 (by decide) (fun (c2 : ¬ ((s 0) = 0)) => ?_) (fun (c2 : (s 0) = 0) => ?_)
      · refine x_aload_n (pc := 22) dX4_undo_22 rfl ?_
        refine x_getf (pc := 23) (v := .int (s 0)) dX4_undo_23 xf_X4_130 k_g rfl ?_
        refine x_iconst (pc := 26) (v := (1 : Int32)) dX4_undo_26 (by decide) ?_
        refine x_isub (pc := 27) dX4_undo_27 ?_
        rw [if_neg c2] at eF1
        subst eF1
        exact J
      · refine x_iconst (pc := 18) (v := (3 : Int32)) dX4_undo_18 (by decide) ?_
        refine x_goto (pc := 19) (tgt := 28) dX4_undo_19 (by decide) ?_
        rw [if_pos c2] at eF1
        subst eF1
        exact J
    refine x_putf (pc := 28) (e' := gpC (g + 1) (g + 3) (g + 18) (g + 33) (g + 34) (g + 37) (upd s 0 F1)) dX4_undo_28 xf_X4_130 k_g rfl rfl rfl rfl ?_
    obtain ⟨h1, eh1⟩ : ∃ z, z = hSet h g (gpC (g + 1) (g + 3) (g + 18) (g + 33) (g + 34) (g + 37) (upd s 0 F1)) := ⟨_, rfl⟩
    rw [← eh1]
    have k_g_h1 : hAt h1 g = some (gpC (g + 1) (g + 3) (g + 18) (g + 33) (g + 34) (g + 37) (upd s 0 F1)) := by rw [eh1]; exact hAt_same
    have k_g3_h1 : nk h1 (g + 3) r t W LF KF := by rw [eh1]; exact nk_fr1 (by omega) k_g3
    have k_g33_h1 : hAt h1 (g + 33) = some (arR 2 4 (fun j => some ((g + 38) + 15 * j))) := by rw [eh1]; exact hAt_n (by omega) k_g33
    have k_g38_h1 : ek h1 (g + 38) ER ET EW EL EK := by rw [eh1]; exact ek_fr1 (by omega) k_g38
    have f_h1 : fr (fun q => q = g ∨ ((g + 3) ≤ q ∧ q < (g + 3) + 15)) h h1 := by rw [eh1]; exact fr_set fr_refl (show g = g ∨ ((g + 3) ≤ g ∧ g < (g + 3) + 15) by omega)
    refine x_aload_n (pc := 31) dX4_undo_31 rfl ?_
    refine x_getf (pc := 32) (v := .ref (g + 3)) dX4_undo_32 xf_X4_19 k_g_h1 rfl ?_
    refine x_aload_n (pc := 35) dX4_undo_35 rfl ?_
    refine x_getf (pc := 36) (v := .ref (g + 33)) dX4_undo_36 xf_X4_26 k_g_h1 rfl ?_
    refine x_aload_n (pc := 39) dX4_undo_39 rfl ?_
    refine x_getf (pc := 40) (v := .int ((upd s 0 F1) 0)) dX4_undo_40 xf_X4_130 k_g_h1 rfl ?_
    obtain ⟨q43, hp⟩ := hp
    have hj1 : (((upd s 0 F1) 0).toNatClampNeg) < 4 := vp_lt q43
    refine x_aald (pc := 43) (t := 2) (Cn := RX0) (b := ((g + 38) + 15 * (((upd s 0 F1) 0).toNatClampNeg))) rfl dX4_undo_43 k_g33_h1 q43 rfl ?_
    obtain ⟨q44, hp⟩ := hp
    refine x_cVQ (pc := 44) (As := [.ref ((g + 38) + 15 * (((upd s 0 F1) 0).toNatClampNeg))]) (rest := []) dX4_undo_44 xl_X4_64 xv_X0_copy (nk_nt k_g3_h1) rfl rfl rfl rfl rfl rfl (C_X0_copy G _ (g + 3) ((g + 38) + 15 * (((upd s 0 F1) 0).toNatClampNeg)) r t W LF KF (ER (((upd s 0 F1) 0).toNatClampNeg)) (ET (((upd s 0 F1) 0).toNatClampNeg)) (EW (((upd s 0 F1) 0).toNatClampNeg)) (EL (((upd s 0 F1) 0).toNatClampNeg)) (EK (((upd s 0 F1) 0).toNatClampNeg)) k_g3_h1 (k_g38_h1 (((upd s 0 F1) 0).toNatClampNeg) hj1) (by omega) q44) (fun v h2 hq => ?_)
    obtain ⟨ev, z0_h2, g_h2⟩ := hq
    subst ev
    refine Wp.eqs (L' := [(0, .ref g)]) (st' := []) rfl rfl ?_
    obtain ⟨F2, eF2⟩ : ∃ F, f_X0_copy r t W LF KF (ER (((upd s 0 F1) 0).toNatClampNeg)) (ET (((upd s 0 F1) 0).toNatClampNeg)) (EW (((upd s 0 F1) 0).toNatClampNeg)) (EL (((upd s 0 F1) 0).toNatClampNeg)) (EK (((upd s 0 F1) 0).toNatClampNeg)) = F := ⟨_, rfl⟩
    try rw [eF2] at er
    try rw [eF2] at hp
    try rw [eF2]
    try rw [eF2] at z0_h2
    have k_g_h2 : hAt h2 g = some (gpC (g + 1) (g + 3) (g + 18) (g + 33) (g + 34) (g + 37) (upd s 0 F1)) := (g_h2.2 g (show ¬ (((g + 3) ≤ g ∧ g < (g + 3) + 15)) by omega)).trans k_g_h1
    have k_g3_h2 : nk h2 (g + 3) F2.1 F2.2.1 F2.2.2.1 F2.2.2.2.1 F2.2.2.2.2 := z0_h2
    have k_g33_h2 : hAt h2 (g + 33) = some (arR 2 4 (fun j => some ((g + 38) + 15 * j))) := (g_h2.2 (g + 33) (show ¬ (((g + 3) ≤ (g + 33) ∧ (g + 33) < (g + 3) + 15)) by omega)).trans k_g33_h1
    have k_g38_h2 : ek h2 (g + 38) ER ET EW EL EK := ek_fr (fun q u1 u2 => g_h2.2 q (show ¬ (((g + 3) ≤ q ∧ q < (g + 3) + 15)) by omega)) k_g38_h1
    have f_h2 : fr (fun q => q = g ∨ ((g + 3) ≤ q ∧ q < (g + 3) + 15)) h h2 := fr_trans f_h1 (fr_mono (fun q (u : ((g + 3) ≤ q ∧ q < (g + 3) + 15)) => show q = g ∨ ((g + 3) ≤ q ∧ q < (g + 3) + 15) by omega) g_h2)
    refine x_aload_n (pc := 47) dX4_undo_47 rfl ?_
    refine x_dup (pc := 48) dX4_undo_48 rfl ?_
    refine x_getf (pc := 49) (v := .int ((upd s 0 F1) 1)) dX4_undo_49 xf_X4_74 k_g_h2 rfl ?_
    refine x_iconst (pc := 52) (v := (1 : Int32)) dX4_undo_52 (by decide) ?_
    refine x_isub (pc := 53) dX4_undo_53 ?_
    refine x_putf (pc := 54) (e' := gpC (g + 1) (g + 3) (g + 18) (g + 33) (g + 34) (g + 37) (upd (upd s 0 F1) 1 (((upd s 0 F1) 1) - (1 : Int32)))) dX4_undo_54 xf_X4_74 k_g_h2 rfl rfl rfl rfl ?_
    obtain ⟨h3, eh3⟩ : ∃ z, z = hSet h2 g (gpC (g + 1) (g + 3) (g + 18) (g + 33) (g + 34) (g + 37) (upd (upd s 0 F1) 1 (((upd s 0 F1) 1) - (1 : Int32)))) := ⟨_, rfl⟩
    rw [← eh3]
    have k_g_h3 : hAt h3 g = some (gpC (g + 1) (g + 3) (g + 18) (g + 33) (g + 34) (g + 37) (upd (upd s 0 F1) 1 (((upd s 0 F1) 1) - (1 : Int32)))) := by rw [eh3]; exact hAt_same
    have k_g3_h3 : nk h3 (g + 3) F2.1 F2.2.1 F2.2.2.1 F2.2.2.2.1 F2.2.2.2.2 := by rw [eh3]; exact nk_fr1 (by omega) k_g3_h2
    have k_g33_h3 : hAt h3 (g + 33) = some (arR 2 4 (fun j => some ((g + 38) + 15 * j))) := by rw [eh3]; exact hAt_n (by omega) k_g33_h2
    have k_g38_h3 : ek h3 (g + 38) ER ET EW EL EK := by rw [eh3]; exact ek_fr1 (by omega) k_g38_h2
    have f_h3 : fr (fun q => q = g ∨ ((g + 3) ≤ q ∧ q < (g + 3) + 15)) h h3 := by rw [eh3]; exact fr_set f_h2 (show g = g ∨ ((g + 3) ≤ g ∧ g < (g + 3) + 15) by omega)
    refine x_aload_n (pc := 57) dX4_undo_57 rfl ?_
    refine x_getf (pc := 58) (v := .int ((upd (upd s 0 F1) 1 (((upd s 0 F1) 1) - (1 : Int32))) 1)) dX4_undo_58 xf_X4_74 k_g_h3 rfl ?_
    subst er
    exact x_iret (pc := 61) dX4_undo_61 rfl rfl rfl rfl ⟨rfl, k_g_h3, k_g3_h3, f_h3⟩
  · rw [if_pos c1] at er
    replace hp := hp.1 c1
    refine x_bipush (pc := 7) (v := (-2 : Int32)) dX4_undo_7 (by decide) ?_
    subst er
    exact x_iret (pc := 9) dX4_undo_9 rfl rfl rfl rfl ⟨rfl, k_g, k_g3, fr_refl⟩
