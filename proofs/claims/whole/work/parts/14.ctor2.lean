def l_X4_init_95 : Nat → (Nat → Int32) → (Nat → Int32) → (Nat → Int32) → (Nat → Int32) → (Nat → Int32) → (Nat → Nat → Int32) → (Nat → Nat → Int32) → (Nat → Nat → Int32) → (Nat → Int32) → (Nat → Int32) → (Nat → Nat → Int32) → (Nat → Nat → Int32) → (Nat → Nat → Int32) → Int32 → (Nat → Int32) → (Nat → Int32) → Int32 × (Nat → Int32) × (Nat → Int32)
  | 0, _, _, _, _, _, _, _, _, _, _, _, _, _, _, _, _ => (0, (fun _ => 0), (fun _ => 0))
  | n + 1, s, x, lf, r, t, W, LF, KF, dr, dt, DW, DL, DK, v1, x_g1, x_g2 => (if (sLen 0) ≤ v1 then (v1, x_g1, x_g2) else (l_X4_init_95 n s x lf r t W LF KF dr dt DW DL DK (v1 + (1 : Int32)) (f_X2_append x_g1 x_g2 (sCh 0 v1)).1 (f_X2_append x_g1 x_g2 (sCh 0 v1)).2))
def q_X4_init_95 : Nat → (Nat → Int32) → (Nat → Int32) → (Nat → Int32) → (Nat → Int32) → (Nat → Int32) → (Nat → Nat → Int32) → (Nat → Nat → Int32) → (Nat → Nat → Int32) → (Nat → Int32) → (Nat → Int32) → (Nat → Nat → Int32) → (Nat → Nat → Int32) → (Nat → Nat → Int32) → Int32 → (Nat → Int32) → (Nat → Int32) → Prop
  | 0, _, _, _, _, _, _, _, _, _, _, _, _, _, _, _, _ => False
  | n + 1, s, x, lf, r, t, W, LF, KF, dr, dt, DW, DL, DK, v1, x_g1, x_g2 => (0 < 18 ∧ (((sLen 0) ≤ v1 → True) ∧ (¬ ((sLen 0) ≤ v1) → ((0 < 18 ∧ vp_in v1 (xLen.getD 0 0)) ∧ (p_X2_append x_g1 x_g2 (sCh 0 v1) ∧ (q_X4_init_95 n s x lf r t W LF KF dr dt DW DL DK (v1 + (1 : Int32)) (f_X2_append x_g1 x_g2 (sCh 0 v1)).1 (f_X2_append x_g1 x_g2 (sCh 0 v1)).2))))))
set_option maxRecDepth 100000 in
set_option maxHeartbeats 4000000 in
theorem L_X4_init_95 (G : xG) (h : xH) (g : Nat) (s : (Nat → Int32)) (x : (Nat → Int32)) (lf : (Nat → Int32)) (r : (Nat → Int32)) (t : (Nat → Int32)) (W : (Nat → Nat → Int32)) (LF : (Nat → Nat → Int32)) (KF : (Nat → Nat → Int32)) (dr : (Nat → Int32)) (dt : (Nat → Int32)) (DW : (Nat → Nat → Int32)) (DL : (Nat → Nat → Int32)) (DK : (Nat → Nat → Int32)) (k_g : hAt h g = some (gpC (g + 1) (g + 3) (g + 18) (g + 33) (g + 34) (g + 37) s)) (k_g1 : hAt h (g + 1) = some (txC (g + 2) x)) (k_g2 : hAt h (g + 2) = some (arC 240 lf)) (k_g3 : nk h (g + 3) r t W LF KF) (k_g18 : nk h (g + 18) dr dt DW DL DK) {Z : xZ} : ∀ (n : Nat) (v1 : Int32) (x_g1 : (Nat → Int32)) (x_g2 : (Nat → Int32)), ∀ (hh : xH), q_X4_init_95 n s x lf r t W LF KF dr dt DW DL DK v1 x_g1 x_g2 → hAt hh g = some (gpC (g + 1) (g + 3) (g + 18) (g + 33) (g + 34) (g + 37) s) → hAt hh (g + 1) = some (txC (g + 2) x_g1) → hAt hh (g + 2) = some (arC 240 x_g2) → nk hh (g + 3) r t W LF KF → nk hh (g + 18) dr dt DW DL DK → fr (fun q => q = (g + 1) ∨ q = (g + 2) ∨ ((g + 3) ≤ q ∧ q < (g + 3) + 15) ∨ ((g + 18) ≤ q ∧ q < (g + 18) + 15)) h hh → (∀ h2 : xH, hAt h2 g = some (gpC (g + 1) (g + 3) (g + 18) (g + 33) (g + 34) (g + 37) s) → hAt h2 (g + 1) = some (txC (g + 2) (l_X4_init_95 n s x lf r t W LF KF dr dt DW DL DK v1 x_g1 x_g2).2.1) → hAt h2 (g + 2) = some (arC 240 (l_X4_init_95 n s x lf r t W LF KF dr dt DW DL DK v1 x_g1 x_g2).2.2) → nk h2 (g + 3) r t W LF KF → nk h2 (g + 18) dr dt DW DL DK → fr (fun q => q = (g + 1) ∨ q = (g + 2) ∨ ((g + 3) ≤ q ∧ q < (g + 3) + 15) ∨ ((g + 18) ≤ q ∧ q < (g + 18) + 15)) h h2 → Wp G yX4_init.cls cX4_init 2 yX4_init.name none (xR 9 97 1005) Z 97 1005 123 [(1, .int (l_X4_init_95 n s x lf r t W LF KF dr dt DW DL DK v1 x_g1 x_g2).1), (0, .ref g)] [] h2) → Wp G yX4_init.cls cX4_init 2 yX4_init.name none (xR 9 97 1005) Z 97 1005 95 [(1, .int v1), (0, .ref g)] [] hh := by
  have u_0_1 : g ≠ (g + 1) := hne_k k_g k_g1 rfl
  have u_0_2 : g ≠ (g + 2) := hne_k k_g k_g2 rfl
  have u_1_2 : (g + 1) ≠ (g + 2) := hne_k k_g1 k_g2 rfl
  intro n
  induction n with
  | zero => intro v1 x_g1 x_g2 hh hp; exact absurd hp id
  | succ n ih =>
    intro v1 x_g1 x_g2 hh hp k_g_hh k_g1_hh k_g2_hh k_g3_hh k_g18_hh f_hh kk
    obtain ⟨R, er⟩ : ∃ R, l_X4_init_95 (n + 1) s x lf r t W LF KF dr dt DW DL DK v1 x_g1 x_g2 = R := ⟨_, rfl⟩
    rw [er] at kk
    rw [l_X4_init_95] at er
    rw [q_X4_init_95] at hp
    refine x_iload_n (pc := 95) dX4_init_95 rfl ?_
    refine x_ldcS (pc := 96) (i := 0) (tx := "way;hop 700 tell;hop 333 silent;way;hop 500 wrong;hop 900 tell;loss 10;way;hop 640 old;") dX4_init_96 rfl ?_
    obtain ⟨q98, hp⟩ := hp
    refine x_strLen (pc := 98) dX4_init_98 xl_X4_46 q98 rfl rfl rfl ?_
    refine x_icmp_ge (pc := 101) (tgt := 123) dX4_init_101 (by decide) (fun (c1 : (sLen 0) ≤ v1) => ?_) (fun (c1 : ¬ ((sLen 0) ≤ v1)) => ?_)
    · rw [if_pos c1] at er
      replace hp := hp.1 c1
      subst er
      exact kk hh k_g_hh k_g1_hh k_g2_hh k_g3_hh k_g18_hh f_hh
    · rw [if_neg c1] at er
      replace hp := hp.2 c1
      refine x_aload_n (pc := 104) dX4_init_104 rfl ?_
      refine x_getf (pc := 105) (v := .ref (g + 1)) dX4_init_105 xf_X4_10 k_g_hh rfl ?_
      refine x_ldcS (pc := 108) (i := 0) (tx := "way;hop 700 tell;hop 333 silent;way;hop 500 wrong;hop 900 tell;loss 10;way;hop 640 old;") dX4_init_108 rfl ?_
      refine x_iload_n (pc := 110) dX4_init_110 rfl ?_
      obtain ⟨q111, hp⟩ := hp
      refine x_strCh (pc := 111) dX4_init_111 xl_X4_52 q111.1 q111.2 rfl rfl rfl ?_
      obtain ⟨q114, hp⟩ := hp
      refine x_cV1v (pc := 114) dX4_init_114 xl_X4_56 xv_X2_append k_g1_hh rfl (C_X2_append G _ (g + 1) (g + 2) x_g1 x_g2 (sCh 0 v1) k_g1_hh k_g2_hh q114) rfl rfl rfl ?_
      obtain ⟨F2, eF2⟩ : ∃ F, f_X2_append x_g1 x_g2 (sCh 0 v1) = F := ⟨_, rfl⟩
      rw [eF2]
      try rw [eF2] at er
      try rw [eF2] at hp
      obtain ⟨h3, eh3⟩ : ∃ z, z = hSet hh (g + 1) (txC (g + 2) F2.1) := ⟨_, rfl⟩
      rw [← eh3]
      have k_g_h3 : hAt h3 g = some (gpC (g + 1) (g + 3) (g + 18) (g + 33) (g + 34) (g + 37) s) := by rw [eh3]; exact hAt_n (by omega) k_g_hh
      have k_g1_h3 : hAt h3 (g + 1) = some (txC (g + 2) F2.1) := by rw [eh3]; exact hAt_same
      have k_g2_h3 : hAt h3 (g + 2) = some (arC 240 x_g2) := by rw [eh3]; exact hAt_n (by omega) k_g2_hh
      have k_g3_h3 : nk h3 (g + 3) r t W LF KF := by rw [eh3]; exact nk_fr1 (by omega) k_g3_hh
      have k_g18_h3 : nk h3 (g + 18) dr dt DW DL DK := by rw [eh3]; exact nk_fr1 (by omega) k_g18_hh
      have f_h3 : fr (fun q => q = (g + 1) ∨ q = (g + 2) ∨ ((g + 3) ≤ q ∧ q < (g + 3) + 15) ∨ ((g + 18) ≤ q ∧ q < (g + 18) + 15)) h h3 := by rw [eh3]; exact fr_set f_hh (show (g + 1) = (g + 1) ∨ (g + 1) = (g + 2) ∨ ((g + 3) ≤ (g + 1) ∧ (g + 1) < (g + 3) + 15) ∨ ((g + 18) ≤ (g + 1) ∧ (g + 1) < (g + 18) + 15) by omega)
      obtain ⟨h4, eh4⟩ : ∃ z, z = hSet h3 (g + 2) (arC 240 F2.2) := ⟨_, rfl⟩
      rw [← eh4]
      have k_g_h4 : hAt h4 g = some (gpC (g + 1) (g + 3) (g + 18) (g + 33) (g + 34) (g + 37) s) := by rw [eh4]; exact hAt_n (by omega) k_g_h3
      have k_g1_h4 : hAt h4 (g + 1) = some (txC (g + 2) F2.1) := by rw [eh4]; exact hAt_n (by omega) k_g1_h3
      have k_g2_h4 : hAt h4 (g + 2) = some (arC 240 F2.2) := by rw [eh4]; exact hAt_same
      have k_g3_h4 : nk h4 (g + 3) r t W LF KF := by rw [eh4]; exact nk_fr1 (by omega) k_g3_h3
      have k_g18_h4 : nk h4 (g + 18) dr dt DW DL DK := by rw [eh4]; exact nk_fr1 (by omega) k_g18_h3
      have f_h4 : fr (fun q => q = (g + 1) ∨ q = (g + 2) ∨ ((g + 3) ≤ q ∧ q < (g + 3) + 15) ∨ ((g + 18) ≤ q ∧ q < (g + 18) + 15)) h h4 := by rw [eh4]; exact fr_set f_h3 (show (g + 2) = (g + 1) ∨ (g + 2) = (g + 2) ∨ ((g + 3) ≤ (g + 2) ∧ (g + 2) < (g + 3) + 15) ∨ ((g + 18) ≤ (g + 2) ∧ (g + 2) < (g + 18) + 15) by omega)
      refine x_iinc (pc := 117) (v := (v1 + (1 : Int32))) (L' := [(1, .int (v1 + (1 : Int32))), (0, .ref g)]) dX4_init_117 rfl rfl rfl rfl ?_
      refine x_goto (pc := 120) (tgt := 95) dX4_init_120 (by decide) ?_
      subst er
      exact ih (v1 + (1 : Int32)) F2.1 F2.2 h4 hp k_g_h4 k_g1_h4 k_g2_h4 k_g3_h4 k_g18_h4 f_h4 kk
def f_X4_init (s : (Nat → Int32)) (x : (Nat → Int32)) (lf : (Nat → Int32)) (r : (Nat → Int32)) (t : (Nat → Int32)) (W : (Nat → Nat → Int32)) (LF : (Nat → Nat → Int32)) (KF : (Nat → Nat → Int32)) (dr : (Nat → Int32)) (dt : (Nat → Int32)) (DW : (Nat → Nat → Int32)) (DL : (Nat → Nat → Int32)) (DK : (Nat → Nat → Int32)) : (Nat → Int32) × (Nat → Int32) × (Nat → Int32) × (Nat → Int32) × (Nat → Nat → Int32) × (Nat → Nat → Int32) × (Nat → Nat → Int32) × (Nat → Int32) × (Nat → Int32) × (Nat → Nat → Int32) × (Nat → Nat → Int32) × (Nat → Nat → Int32) := ((upd (f_X0_read dr dt DW DL DK (l_X4_init_95 xK s x lf r t W LF KF dr dt DW DL DK (0 : Int32) x lf).2.1 (l_X4_init_95 xK s x lf r t W LF KF dr dt DW DL DK (0 : Int32) x lf).2.2).2.2.2.2.2.2 0 (0 : Int32)), (l_X4_init_95 xK s x lf r t W LF KF dr dt DW DL DK (0 : Int32) x lf).2.2, (f_X0_copy r t W LF KF (f_X0_read dr dt DW DL DK (l_X4_init_95 xK s x lf r t W LF KF dr dt DW DL DK (0 : Int32) x lf).2.1 (l_X4_init_95 xK s x lf r t W LF KF dr dt DW DL DK (0 : Int32) x lf).2.2).2.1 (f_X0_read dr dt DW DL DK (l_X4_init_95 xK s x lf r t W LF KF dr dt DW DL DK (0 : Int32) x lf).2.1 (l_X4_init_95 xK s x lf r t W LF KF dr dt DW DL DK (0 : Int32) x lf).2.2).2.2.1 (f_X0_read dr dt DW DL DK (l_X4_init_95 xK s x lf r t W LF KF dr dt DW DL DK (0 : Int32) x lf).2.1 (l_X4_init_95 xK s x lf r t W LF KF dr dt DW DL DK (0 : Int32) x lf).2.2).2.2.2.1 (f_X0_read dr dt DW DL DK (l_X4_init_95 xK s x lf r t W LF KF dr dt DW DL DK (0 : Int32) x lf).2.1 (l_X4_init_95 xK s x lf r t W LF KF dr dt DW DL DK (0 : Int32) x lf).2.2).2.2.2.2.1 (f_X0_read dr dt DW DL DK (l_X4_init_95 xK s x lf r t W LF KF dr dt DW DL DK (0 : Int32) x lf).2.1 (l_X4_init_95 xK s x lf r t W LF KF dr dt DW DL DK (0 : Int32) x lf).2.2).2.2.2.2.2.1).1, (f_X0_copy r t W LF KF (f_X0_read dr dt DW DL DK (l_X4_init_95 xK s x lf r t W LF KF dr dt DW DL DK (0 : Int32) x lf).2.1 (l_X4_init_95 xK s x lf r t W LF KF dr dt DW DL DK (0 : Int32) x lf).2.2).2.1 (f_X0_read dr dt DW DL DK (l_X4_init_95 xK s x lf r t W LF KF dr dt DW DL DK (0 : Int32) x lf).2.1 (l_X4_init_95 xK s x lf r t W LF KF dr dt DW DL DK (0 : Int32) x lf).2.2).2.2.1 (f_X0_read dr dt DW DL DK (l_X4_init_95 xK s x lf r t W LF KF dr dt DW DL DK (0 : Int32) x lf).2.1 (l_X4_init_95 xK s x lf r t W LF KF dr dt DW DL DK (0 : Int32) x lf).2.2).2.2.2.1 (f_X0_read dr dt DW DL DK (l_X4_init_95 xK s x lf r t W LF KF dr dt DW DL DK (0 : Int32) x lf).2.1 (l_X4_init_95 xK s x lf r t W LF KF dr dt DW DL DK (0 : Int32) x lf).2.2).2.2.2.2.1 (f_X0_read dr dt DW DL DK (l_X4_init_95 xK s x lf r t W LF KF dr dt DW DL DK (0 : Int32) x lf).2.1 (l_X4_init_95 xK s x lf r t W LF KF dr dt DW DL DK (0 : Int32) x lf).2.2).2.2.2.2.2.1).2.1, (f_X0_copy r t W LF KF (f_X0_read dr dt DW DL DK (l_X4_init_95 xK s x lf r t W LF KF dr dt DW DL DK (0 : Int32) x lf).2.1 (l_X4_init_95 xK s x lf r t W LF KF dr dt DW DL DK (0 : Int32) x lf).2.2).2.1 (f_X0_read dr dt DW DL DK (l_X4_init_95 xK s x lf r t W LF KF dr dt DW DL DK (0 : Int32) x lf).2.1 (l_X4_init_95 xK s x lf r t W LF KF dr dt DW DL DK (0 : Int32) x lf).2.2).2.2.1 (f_X0_read dr dt DW DL DK (l_X4_init_95 xK s x lf r t W LF KF dr dt DW DL DK (0 : Int32) x lf).2.1 (l_X4_init_95 xK s x lf r t W LF KF dr dt DW DL DK (0 : Int32) x lf).2.2).2.2.2.1 (f_X0_read dr dt DW DL DK (l_X4_init_95 xK s x lf r t W LF KF dr dt DW DL DK (0 : Int32) x lf).2.1 (l_X4_init_95 xK s x lf r t W LF KF dr dt DW DL DK (0 : Int32) x lf).2.2).2.2.2.2.1 (f_X0_read dr dt DW DL DK (l_X4_init_95 xK s x lf r t W LF KF dr dt DW DL DK (0 : Int32) x lf).2.1 (l_X4_init_95 xK s x lf r t W LF KF dr dt DW DL DK (0 : Int32) x lf).2.2).2.2.2.2.2.1).2.2.1, (f_X0_copy r t W LF KF (f_X0_read dr dt DW DL DK (l_X4_init_95 xK s x lf r t W LF KF dr dt DW DL DK (0 : Int32) x lf).2.1 (l_X4_init_95 xK s x lf r t W LF KF dr dt DW DL DK (0 : Int32) x lf).2.2).2.1 (f_X0_read dr dt DW DL DK (l_X4_init_95 xK s x lf r t W LF KF dr dt DW DL DK (0 : Int32) x lf).2.1 (l_X4_init_95 xK s x lf r t W LF KF dr dt DW DL DK (0 : Int32) x lf).2.2).2.2.1 (f_X0_read dr dt DW DL DK (l_X4_init_95 xK s x lf r t W LF KF dr dt DW DL DK (0 : Int32) x lf).2.1 (l_X4_init_95 xK s x lf r t W LF KF dr dt DW DL DK (0 : Int32) x lf).2.2).2.2.2.1 (f_X0_read dr dt DW DL DK (l_X4_init_95 xK s x lf r t W LF KF dr dt DW DL DK (0 : Int32) x lf).2.1 (l_X4_init_95 xK s x lf r t W LF KF dr dt DW DL DK (0 : Int32) x lf).2.2).2.2.2.2.1 (f_X0_read dr dt DW DL DK (l_X4_init_95 xK s x lf r t W LF KF dr dt DW DL DK (0 : Int32) x lf).2.1 (l_X4_init_95 xK s x lf r t W LF KF dr dt DW DL DK (0 : Int32) x lf).2.2).2.2.2.2.2.1).2.2.2.1, (f_X0_copy r t W LF KF (f_X0_read dr dt DW DL DK (l_X4_init_95 xK s x lf r t W LF KF dr dt DW DL DK (0 : Int32) x lf).2.1 (l_X4_init_95 xK s x lf r t W LF KF dr dt DW DL DK (0 : Int32) x lf).2.2).2.1 (f_X0_read dr dt DW DL DK (l_X4_init_95 xK s x lf r t W LF KF dr dt DW DL DK (0 : Int32) x lf).2.1 (l_X4_init_95 xK s x lf r t W LF KF dr dt DW DL DK (0 : Int32) x lf).2.2).2.2.1 (f_X0_read dr dt DW DL DK (l_X4_init_95 xK s x lf r t W LF KF dr dt DW DL DK (0 : Int32) x lf).2.1 (l_X4_init_95 xK s x lf r t W LF KF dr dt DW DL DK (0 : Int32) x lf).2.2).2.2.2.1 (f_X0_read dr dt DW DL DK (l_X4_init_95 xK s x lf r t W LF KF dr dt DW DL DK (0 : Int32) x lf).2.1 (l_X4_init_95 xK s x lf r t W LF KF dr dt DW DL DK (0 : Int32) x lf).2.2).2.2.2.2.1 (f_X0_read dr dt DW DL DK (l_X4_init_95 xK s x lf r t W LF KF dr dt DW DL DK (0 : Int32) x lf).2.1 (l_X4_init_95 xK s x lf r t W LF KF dr dt DW DL DK (0 : Int32) x lf).2.2).2.2.2.2.2.1).2.2.2.2, (f_X0_read dr dt DW DL DK (l_X4_init_95 xK s x lf r t W LF KF dr dt DW DL DK (0 : Int32) x lf).2.1 (l_X4_init_95 xK s x lf r t W LF KF dr dt DW DL DK (0 : Int32) x lf).2.2).2.1, (f_X0_read dr dt DW DL DK (l_X4_init_95 xK s x lf r t W LF KF dr dt DW DL DK (0 : Int32) x lf).2.1 (l_X4_init_95 xK s x lf r t W LF KF dr dt DW DL DK (0 : Int32) x lf).2.2).2.2.1, (f_X0_read dr dt DW DL DK (l_X4_init_95 xK s x lf r t W LF KF dr dt DW DL DK (0 : Int32) x lf).2.1 (l_X4_init_95 xK s x lf r t W LF KF dr dt DW DL DK (0 : Int32) x lf).2.2).2.2.2.1, (f_X0_read dr dt DW DL DK (l_X4_init_95 xK s x lf r t W LF KF dr dt DW DL DK (0 : Int32) x lf).2.1 (l_X4_init_95 xK s x lf r t W LF KF dr dt DW DL DK (0 : Int32) x lf).2.2).2.2.2.2.1, (f_X0_read dr dt DW DL DK (l_X4_init_95 xK s x lf r t W LF KF dr dt DW DL DK (0 : Int32) x lf).2.1 (l_X4_init_95 xK s x lf r t W LF KF dr dt DW DL DK (0 : Int32) x lf).2.2).2.2.2.2.2.1)
def p_X4_init (s : (Nat → Int32)) (x : (Nat → Int32)) (lf : (Nat → Int32)) (r : (Nat → Int32)) (t : (Nat → Int32)) (W : (Nat → Nat → Int32)) (LF : (Nat → Nat → Int32)) (KF : (Nat → Nat → Int32)) (dr : (Nat → Int32)) (dt : (Nat → Int32)) (DW : (Nat → Nat → Int32)) (DL : (Nat → Nat → Int32)) (DK : (Nat → Nat → Int32)) : Prop := ((q_X4_init_95 xK s x lf r t W LF KF dr dt DW DL DK (0 : Int32) x lf) ∧ (p_X0_read dr dt DW DL DK (l_X4_init_95 xK s x lf r t W LF KF dr dt DW DL DK (0 : Int32) x lf).2.1 (l_X4_init_95 xK s x lf r t W LF KF dr dt DW DL DK (0 : Int32) x lf).2.2 ∧ (p_X0_copy r t W LF KF (f_X0_read dr dt DW DL DK (l_X4_init_95 xK s x lf r t W LF KF dr dt DW DL DK (0 : Int32) x lf).2.1 (l_X4_init_95 xK s x lf r t W LF KF dr dt DW DL DK (0 : Int32) x lf).2.2).2.1 (f_X0_read dr dt DW DL DK (l_X4_init_95 xK s x lf r t W LF KF dr dt DW DL DK (0 : Int32) x lf).2.1 (l_X4_init_95 xK s x lf r t W LF KF dr dt DW DL DK (0 : Int32) x lf).2.2).2.2.1 (f_X0_read dr dt DW DL DK (l_X4_init_95 xK s x lf r t W LF KF dr dt DW DL DK (0 : Int32) x lf).2.1 (l_X4_init_95 xK s x lf r t W LF KF dr dt DW DL DK (0 : Int32) x lf).2.2).2.2.2.1 (f_X0_read dr dt DW DL DK (l_X4_init_95 xK s x lf r t W LF KF dr dt DW DL DK (0 : Int32) x lf).2.1 (l_X4_init_95 xK s x lf r t W LF KF dr dt DW DL DK (0 : Int32) x lf).2.2).2.2.2.2.1 (f_X0_read dr dt DW DL DK (l_X4_init_95 xK s x lf r t W LF KF dr dt DW DL DK (0 : Int32) x lf).2.1 (l_X4_init_95 xK s x lf r t W LF KF dr dt DW DL DK (0 : Int32) x lf).2.2).2.2.2.2.2.1 ∧ True)))
set_option maxRecDepth 100000 in
set_option maxHeartbeats 4000000 in
theorem T_X4_init (G : xG) (h : xH) (g : Nat) (s : (Nat → Int32)) (x : (Nat → Int32)) (lf : (Nat → Int32)) (r : (Nat → Int32)) (t : (Nat → Int32)) (W : (Nat → Nat → Int32)) (LF : (Nat → Nat → Int32)) (KF : (Nat → Nat → Int32)) (dr : (Nat → Int32)) (dt : (Nat → Int32)) (DW : (Nat → Nat → Int32)) (DL : (Nat → Nat → Int32)) (DK : (Nat → Nat → Int32)) (k_g : hAt h g = some (gpC (g + 1) (g + 3) (g + 18) (g + 33) (g + 34) (g + 37) s)) (k_g1 : hAt h (g + 1) = some (txC (g + 2) x)) (k_g2 : hAt h (g + 2) = some (arC 240 lf)) (k_g3 : nk h (g + 3) r t W LF KF) (k_g18 : nk h (g + 18) dr dt DW DL DK) (hp : p_X4_init s x lf r t W LF KF dr dt DW DL DK) : Wp G yX4_init.cls cX4_init 2 yX4_init.name none (xR 9 97 1005) (xZm G 97 1005 (fun v' h' => v' = none ∧ (hAt h' (g + 1) = some (txC (g + 2) (f_X4_init s x lf r t W LF KF dr dt DW DL DK).1)) ∧ (hAt h' (g + 2) = some (arC 240 (f_X4_init s x lf r t W LF KF dr dt DW DL DK).2.1)) ∧ (nk h' (g + 3) (f_X4_init s x lf r t W LF KF dr dt DW DL DK).2.2.1 (f_X4_init s x lf r t W LF KF dr dt DW DL DK).2.2.2.1 (f_X4_init s x lf r t W LF KF dr dt DW DL DK).2.2.2.2.1 (f_X4_init s x lf r t W LF KF dr dt DW DL DK).2.2.2.2.2.1 (f_X4_init s x lf r t W LF KF dr dt DW DL DK).2.2.2.2.2.2.1) ∧ (nk h' (g + 18) (f_X4_init s x lf r t W LF KF dr dt DW DL DK).2.2.2.2.2.2.2.1 (f_X4_init s x lf r t W LF KF dr dt DW DL DK).2.2.2.2.2.2.2.2.1 (f_X4_init s x lf r t W LF KF dr dt DW DL DK).2.2.2.2.2.2.2.2.2.1 (f_X4_init s x lf r t W LF KF dr dt DW DL DK).2.2.2.2.2.2.2.2.2.2.1 (f_X4_init s x lf r t W LF KF dr dt DW DL DK).2.2.2.2.2.2.2.2.2.2.2) ∧ fr (fun q => q = (g + 1) ∨ q = (g + 2) ∨ ((g + 3) ≤ q ∧ q < (g + 3) + 15) ∨ ((g + 18) ≤ q ∧ q < (g + 18) + 15)) h h')) 97 1005 93 [(1, .int (4 : Int32)), (0, .ref g)] [] h := by
  have u_0_1 : g ≠ (g + 1) := hne_k k_g k_g1 rfl
  have u_0_2 : g ≠ (g + 2) := hne_k k_g k_g2 rfl
  have u_1_2 : (g + 1) ≠ (g + 2) := hne_k k_g1 k_g2 rfl
  obtain ⟨R, er⟩ : ∃ R, f_X4_init s x lf r t W LF KF dr dt DW DL DK = R := ⟨_, rfl⟩
  rw [er]
  unfold f_X4_init at er
  unfold p_X4_init at hp
  refine x_iconst (pc := 93) (v := (0 : Int32)) dX4_init_93 (by decide) ?_
  refine x_istore_n (pc := 94) (L' := [(1, .int (0 : Int32)), (0, .ref g)]) dX4_init_94 rfl rfl ?_
  obtain ⟨ql95, hp⟩ := hp
  refine L_X4_init_95 G h g s x lf r t W LF KF dr dt DW DL DK k_g k_g1 k_g2 k_g3 k_g18  xK (0 : Int32) x lf h ql95 k_g k_g1 k_g2 k_g3 k_g18 fr_refl (fun h5 k_g_h5 k_g1_h5 k_g2_h5 k_g3_h5 k_g18_h5 f_h5 => ?_)
  obtain ⟨F3, eF3⟩ : ∃ F, l_X4_init_95 xK s x lf r t W LF KF dr dt DW DL DK (0 : Int32) x lf = F := ⟨_, rfl⟩
  try rw [eF3]
  try rw [eF3] at er
  try rw [eF3] at hp
  try rw [eF3] at k_g_h5
  try rw [eF3] at k_g1_h5
  try rw [eF3] at k_g2_h5
  try rw [eF3] at k_g3_h5
  try rw [eF3] at k_g18_h5
  refine x_aload_n (pc := 123) dX4_init_123 rfl ?_
  refine x_getf (pc := 124) (v := .ref (g + 18)) dX4_init_124 xf_X4_23 k_g_h5 rfl ?_
  refine x_aload_n (pc := 127) dX4_init_127 rfl ?_
  refine x_getf (pc := 128) (v := .ref (g + 1)) dX4_init_128 xf_X4_10 k_g_h5 rfl ?_
  obtain ⟨q131, hp⟩ := hp
  refine x_cVQ (pc := 131) (As := [.ref (g + 1)]) (rest := []) dX4_init_131 xl_X4_60 xv_X0_read (nk_nt k_g18_h5) rfl rfl rfl rfl rfl rfl (C_X0_read G _ (g + 18) (g + 1) (g + 2) dr dt DW DL DK F3.2.1 F3.2.2 k_g18_h5 k_g1_h5 k_g2_h5 (by omega) (by omega) q131) (fun v h6 hq => ?_)
  obtain ⟨ev, z0_h6, z1_h6, g_h6⟩ := hq
  subst ev
  refine Wp.eqs (L' := [(1, .int F3.1), (0, .ref g)]) (st' := [.int (f_X0_read dr dt DW DL DK F3.2.1 F3.2.2).1]) rfl rfl ?_
  obtain ⟨F4, eF4⟩ : ∃ F, f_X0_read dr dt DW DL DK F3.2.1 F3.2.2 = F := ⟨_, rfl⟩
  try rw [eF4] at er
  try rw [eF4] at hp
  try rw [eF4]
  try rw [eF4] at z0_h6
  try rw [eF4] at z1_h6
  have k_g_h6 : hAt h6 g = some (gpC (g + 1) (g + 3) (g + 18) (g + 33) (g + 34) (g + 37) s) := (g_h6.2 g (show ¬ (((g + 18) ≤ g ∧ g < (g + 18) + 15) ∨ g = (g + 1)) by omega)).trans k_g_h5
  have k_g1_h6 : hAt h6 (g + 1) = some (txC (g + 2) F4.2.2.2.2.2.2) := z1_h6
  have k_g2_h6 : hAt h6 (g + 2) = some (arC 240 F3.2.2) := (g_h6.2 (g + 2) (show ¬ (((g + 18) ≤ (g + 2) ∧ (g + 2) < (g + 18) + 15) ∨ (g + 2) = (g + 1)) by omega)).trans k_g2_h5
  have k_g3_h6 : nk h6 (g + 3) r t W LF KF := nk_fr (fun q u1 u2 => g_h6.2 q (show ¬ (((g + 18) ≤ q ∧ q < (g + 18) + 15) ∨ q = (g + 1)) by omega)) k_g3_h5
  have k_g18_h6 : nk h6 (g + 18) F4.2.1 F4.2.2.1 F4.2.2.2.1 F4.2.2.2.2.1 F4.2.2.2.2.2.1 := z0_h6
  have f_h6 : fr (fun q => q = (g + 1) ∨ q = (g + 2) ∨ ((g + 3) ≤ q ∧ q < (g + 3) + 15) ∨ ((g + 18) ≤ q ∧ q < (g + 18) + 15)) h h6 := fr_trans f_h5 (fr_mono (fun q (u : ((g + 18) ≤ q ∧ q < (g + 18) + 15) ∨ q = (g + 1)) => show q = (g + 1) ∨ q = (g + 2) ∨ ((g + 3) ≤ q ∧ q < (g + 3) + 15) ∨ ((g + 18) ≤ q ∧ q < (g + 18) + 15) by omega) g_h6)
  refine x_pop (pc := 134) dX4_init_134 rfl ?_
  refine x_aload_n (pc := 135) dX4_init_135 rfl ?_
  refine x_getf (pc := 136) (v := .ref (g + 3)) dX4_init_136 xf_X4_19 k_g_h6 rfl ?_
  refine x_aload_n (pc := 139) dX4_init_139 rfl ?_
  refine x_getf (pc := 140) (v := .ref (g + 18)) dX4_init_140 xf_X4_23 k_g_h6 rfl ?_
  obtain ⟨q143, hp⟩ := hp
  refine x_cVQ (pc := 143) (As := [.ref (g + 18)]) (rest := []) dX4_init_143 xl_X4_64 xv_X0_copy (nk_nt k_g3_h6) rfl rfl rfl rfl rfl rfl (C_X0_copy G _ (g + 3) (g + 18) r t W LF KF F4.2.1 F4.2.2.1 F4.2.2.2.1 F4.2.2.2.2.1 F4.2.2.2.2.2.1 k_g3_h6 k_g18_h6 (by omega) q143) (fun v h7 hq => ?_)
  obtain ⟨ev, z0_h7, g_h7⟩ := hq
  subst ev
  refine Wp.eqs (L' := [(1, .int F3.1), (0, .ref g)]) (st' := []) rfl rfl ?_
  obtain ⟨F5, eF5⟩ : ∃ F, f_X0_copy r t W LF KF F4.2.1 F4.2.2.1 F4.2.2.2.1 F4.2.2.2.2.1 F4.2.2.2.2.2.1 = F := ⟨_, rfl⟩
  try rw [eF5] at er
  try rw [eF5] at hp
  try rw [eF5]
  try rw [eF5] at z0_h7
  have k_g_h7 : hAt h7 g = some (gpC (g + 1) (g + 3) (g + 18) (g + 33) (g + 34) (g + 37) s) := (g_h7.2 g (show ¬ (((g + 3) ≤ g ∧ g < (g + 3) + 15)) by omega)).trans k_g_h6
  have k_g1_h7 : hAt h7 (g + 1) = some (txC (g + 2) F4.2.2.2.2.2.2) := (g_h7.2 (g + 1) (show ¬ (((g + 3) ≤ (g + 1) ∧ (g + 1) < (g + 3) + 15)) by omega)).trans k_g1_h6
  have k_g2_h7 : hAt h7 (g + 2) = some (arC 240 F3.2.2) := (g_h7.2 (g + 2) (show ¬ (((g + 3) ≤ (g + 2) ∧ (g + 2) < (g + 3) + 15)) by omega)).trans k_g2_h6
  have k_g3_h7 : nk h7 (g + 3) F5.1 F5.2.1 F5.2.2.1 F5.2.2.2.1 F5.2.2.2.2 := z0_h7
  have k_g18_h7 : nk h7 (g + 18) F4.2.1 F4.2.2.1 F4.2.2.2.1 F4.2.2.2.2.1 F4.2.2.2.2.2.1 := nk_fr (fun q u1 u2 => g_h7.2 q (show ¬ (((g + 3) ≤ q ∧ q < (g + 3) + 15)) by omega)) k_g18_h6
  have f_h7 : fr (fun q => q = (g + 1) ∨ q = (g + 2) ∨ ((g + 3) ≤ q ∧ q < (g + 3) + 15) ∨ ((g + 18) ≤ q ∧ q < (g + 18) + 15)) h h7 := fr_trans f_h6 (fr_mono (fun q (u : ((g + 3) ≤ q ∧ q < (g + 3) + 15)) => show q = (g + 1) ∨ q = (g + 2) ∨ ((g + 3) ≤ q ∧ q < (g + 3) + 15) ∨ ((g + 18) ≤ q ∧ q < (g + 18) + 15) by omega) g_h7)
  refine x_aload_n (pc := 146) dX4_init_146 rfl ?_
  refine x_getf (pc := 147) (v := .ref (g + 1)) dX4_init_147 xf_X4_10 k_g_h7 rfl ?_
  refine x_iconst (pc := 150) (v := (0 : Int32)) dX4_init_150 (by decide) ?_
  refine x_putf (pc := 151) (e' := txC (g + 2) (upd F4.2.2.2.2.2.2 0 (0 : Int32))) dX4_init_151 xf_X4_68 k_g1_h7 rfl rfl rfl rfl ?_
  obtain ⟨h8, eh8⟩ : ∃ z, z = hSet h7 (g + 1) (txC (g + 2) (upd F4.2.2.2.2.2.2 0 (0 : Int32))) := ⟨_, rfl⟩
  rw [← eh8]
  have k_g_h8 : hAt h8 g = some (gpC (g + 1) (g + 3) (g + 18) (g + 33) (g + 34) (g + 37) s) := by rw [eh8]; exact hAt_n (by omega) k_g_h7
  have k_g1_h8 : hAt h8 (g + 1) = some (txC (g + 2) (upd F4.2.2.2.2.2.2 0 (0 : Int32))) := by rw [eh8]; exact hAt_same
  have k_g2_h8 : hAt h8 (g + 2) = some (arC 240 F3.2.2) := by rw [eh8]; exact hAt_n (by omega) k_g2_h7
  have k_g3_h8 : nk h8 (g + 3) F5.1 F5.2.1 F5.2.2.1 F5.2.2.2.1 F5.2.2.2.2 := by rw [eh8]; exact nk_fr1 (by omega) k_g3_h7
  have k_g18_h8 : nk h8 (g + 18) F4.2.1 F4.2.2.1 F4.2.2.2.1 F4.2.2.2.2.1 F4.2.2.2.2.2.1 := by rw [eh8]; exact nk_fr1 (by omega) k_g18_h7
  have f_h8 : fr (fun q => q = (g + 1) ∨ q = (g + 2) ∨ ((g + 3) ≤ q ∧ q < (g + 3) + 15) ∨ ((g + 18) ≤ q ∧ q < (g + 18) + 15)) h h8 := by rw [eh8]; exact fr_set f_h7 (show (g + 1) = (g + 1) ∨ (g + 1) = (g + 2) ∨ ((g + 3) ≤ (g + 1) ∧ (g + 1) < (g + 3) + 15) ∨ ((g + 18) ≤ (g + 1) ∧ (g + 1) < (g + 18) + 15) by omega)
  subst er
  exact x_vret (pc := 154) dX4_init_154 rfl rfl rfl ⟨rfl, k_g1_h8, k_g2_h8, k_g3_h8, k_g18_h8, f_h8⟩

theorem o4_f (g q : Nat) (u1 : q < g) : ¬ (q = (g + 1) ∨ q = (g + 2) ∨ ((g + 3) ≤ q ∧ q < (g + 3) + 15) ∨ ((g + 18) ≤ q ∧ q < (g + 18) + 15)) := by omega
theorem o4_g (g : Nat) : ¬ (g = (g + 1) ∨ g = (g + 2) ∨ ((g + 3) ≤ g ∧ g < (g + 3) + 15) ∨ ((g + 18) ≤ g ∧ g < (g + 18) + 15)) := by omega
theorem o4_g33 (g : Nat) : ¬ ((g + 33) = (g + 1) ∨ (g + 33) = (g + 2) ∨ ((g + 3) ≤ (g + 33) ∧ (g + 33) < (g + 3) + 15) ∨ ((g + 18) ≤ (g + 33) ∧ (g + 33) < (g + 18) + 15)) := by omega
theorem o4_E (g q : Nat) (u1 : (g + 38) ≤ q) (u2 : q < (g + 38) + 60) : ¬ (q = (g + 1) ∨ q = (g + 2) ∨ ((g + 3) ≤ q ∧ q < (g + 3) + 15) ∨ ((g + 18) ≤ q ∧ q < (g + 18) + 15)) := by omega
theorem o4_g34 (g : Nat) : ¬ ((g + 34) = (g + 1) ∨ (g + 34) = (g + 2) ∨ ((g + 3) ≤ (g + 34) ∧ (g + 34) < (g + 3) + 15) ∨ ((g + 18) ≤ (g + 34) ∧ (g + 34) < (g + 18) + 15)) := by omega
theorem o4_g35 (g : Nat) : ¬ ((g + 35) = (g + 1) ∨ (g + 35) = (g + 2) ∨ ((g + 3) ≤ (g + 35) ∧ (g + 35) < (g + 3) + 15) ∨ ((g + 18) ≤ (g + 35) ∧ (g + 35) < (g + 18) + 15)) := by omega
theorem o4_g36 (g : Nat) : ¬ ((g + 36) = (g + 1) ∨ (g + 36) = (g + 2) ∨ ((g + 3) ≤ (g + 36) ∧ (g + 36) < (g + 3) + 15) ∨ ((g + 18) ≤ (g + 36) ∧ (g + 36) < (g + 18) + 15)) := by omega
theorem o4_g37 (g : Nat) : ¬ ((g + 37) = (g + 1) ∨ (g + 37) = (g + 2) ∨ ((g + 3) ≤ (g + 37) ∧ (g + 37) < (g + 3) + 15) ∨ ((g + 18) ≤ (g + 37) ∧ (g + 37) < (g + 18) + 15)) := by omega
set_option maxRecDepth 100000 in
set_option maxHeartbeats 4000000 in
theorem C_X4_init (G : xG) (h : xH) (g : Nat) (k : hAt h g = some (.inr (4, [.null, .null, .null, .null, .int 0, .int 0, .null, .null]))) (z : h.1 = g + 1) (hp : p_X4_init (fun _ => 0) (fun _ => 0) (fun _ => 0) (fun _ => 0) (fun _ => 0) (fun _ _ => 0) (fun _ _ => 0) (fun _ _ => 0) (fun _ => 0) (fun _ => 0) (fun _ _ => 0) (fun _ _ => 0) (fun _ _ => 0)) : Ct G 9 97 1005 yX4_init cX4_init 2 none [.ref g] h (fun v' h' => v' = none ∧ h'.1 = g + 98 ∧ (hAt h' g = some (gpC (g + 1) (g + 3) (g + 18) (g + 33) (g + 34) (g + 37) (fun _ => 0))) ∧ (hAt h' (g + 1) = some (txC (g + 2) (f_X4_init (fun _ => 0) (fun _ => 0) (fun _ => 0) (fun _ => 0) (fun _ => 0) (fun _ _ => 0) (fun _ _ => 0) (fun _ _ => 0) (fun _ => 0) (fun _ => 0) (fun _ _ => 0) (fun _ _ => 0) (fun _ _ => 0)).1)) ∧ (hAt h' (g + 2) = some (arC 240 (f_X4_init (fun _ => 0) (fun _ => 0) (fun _ => 0) (fun _ => 0) (fun _ => 0) (fun _ _ => 0) (fun _ _ => 0) (fun _ _ => 0) (fun _ => 0) (fun _ => 0) (fun _ _ => 0) (fun _ _ => 0) (fun _ _ => 0)).2.1)) ∧ (nk h' (g + 3) (f_X4_init (fun _ => 0) (fun _ => 0) (fun _ => 0) (fun _ => 0) (fun _ => 0) (fun _ _ => 0) (fun _ _ => 0) (fun _ _ => 0) (fun _ => 0) (fun _ => 0) (fun _ _ => 0) (fun _ _ => 0) (fun _ _ => 0)).2.2.1 (f_X4_init (fun _ => 0) (fun _ => 0) (fun _ => 0) (fun _ => 0) (fun _ => 0) (fun _ _ => 0) (fun _ _ => 0) (fun _ _ => 0) (fun _ => 0) (fun _ => 0) (fun _ _ => 0) (fun _ _ => 0) (fun _ _ => 0)).2.2.2.1 (f_X4_init (fun _ => 0) (fun _ => 0) (fun _ => 0) (fun _ => 0) (fun _ => 0) (fun _ _ => 0) (fun _ _ => 0) (fun _ _ => 0) (fun _ => 0) (fun _ => 0) (fun _ _ => 0) (fun _ _ => 0) (fun _ _ => 0)).2.2.2.2.1 (f_X4_init (fun _ => 0) (fun _ => 0) (fun _ => 0) (fun _ => 0) (fun _ => 0) (fun _ _ => 0) (fun _ _ => 0) (fun _ _ => 0) (fun _ => 0) (fun _ => 0) (fun _ _ => 0) (fun _ _ => 0) (fun _ _ => 0)).2.2.2.2.2.1 (f_X4_init (fun _ => 0) (fun _ => 0) (fun _ => 0) (fun _ => 0) (fun _ => 0) (fun _ _ => 0) (fun _ _ => 0) (fun _ _ => 0) (fun _ => 0) (fun _ => 0) (fun _ _ => 0) (fun _ _ => 0) (fun _ _ => 0)).2.2.2.2.2.2.1) ∧ (nk h' (g + 18) (f_X4_init (fun _ => 0) (fun _ => 0) (fun _ => 0) (fun _ => 0) (fun _ => 0) (fun _ _ => 0) (fun _ _ => 0) (fun _ _ => 0) (fun _ => 0) (fun _ => 0) (fun _ _ => 0) (fun _ _ => 0) (fun _ _ => 0)).2.2.2.2.2.2.2.1 (f_X4_init (fun _ => 0) (fun _ => 0) (fun _ => 0) (fun _ => 0) (fun _ => 0) (fun _ _ => 0) (fun _ _ => 0) (fun _ _ => 0) (fun _ => 0) (fun _ => 0) (fun _ _ => 0) (fun _ _ => 0) (fun _ _ => 0)).2.2.2.2.2.2.2.2.1 (f_X4_init (fun _ => 0) (fun _ => 0) (fun _ => 0) (fun _ => 0) (fun _ => 0) (fun _ _ => 0) (fun _ _ => 0) (fun _ _ => 0) (fun _ => 0) (fun _ => 0) (fun _ _ => 0) (fun _ _ => 0) (fun _ _ => 0)).2.2.2.2.2.2.2.2.2.1 (f_X4_init (fun _ => 0) (fun _ => 0) (fun _ => 0) (fun _ => 0) (fun _ => 0) (fun _ _ => 0) (fun _ _ => 0) (fun _ _ => 0) (fun _ => 0) (fun _ => 0) (fun _ _ => 0) (fun _ _ => 0) (fun _ _ => 0)).2.2.2.2.2.2.2.2.2.2.1 (f_X4_init (fun _ => 0) (fun _ => 0) (fun _ => 0) (fun _ => 0) (fun _ => 0) (fun _ _ => 0) (fun _ _ => 0) (fun _ _ => 0) (fun _ => 0) (fun _ => 0) (fun _ _ => 0) (fun _ _ => 0) (fun _ _ => 0)).2.2.2.2.2.2.2.2.2.2.2) ∧ (hAt h' (g + 33) = some (arR 2 4 (fun j => some ((g + 38) + 15 * j)))) ∧ (ek h' (g + 38) (fun _ _ => 0) (fun _ _ => 0) (fun _ _ _ => 0) (fun _ _ _ => 0) (fun _ _ _ => 0)) ∧ (hAt h' (g + 34) = some (waC (g + 35) (g + 36) (fun _ => 0))) ∧ (hAt h' (g + 35) = some (arI 6 (fun _ => 0))) ∧ (hAt h' (g + 36) = some (arI 6 (fun _ => 0))) ∧ (hAt h' (g + 37) = some (ruC (fun _ => 0))) ∧ ∀ q, q < g → hAt h' q = hAt h q) := by
  refine Ct.of (by decide) (by rfl) ?_
  refine Wp.eqs (L' := [(0, .ref g)]) (st' := []) rfl rfl ?_
  have z_h : h.1 = (g + 1) := z
  have f_h : ∀ q, q < g → hAt h q = hAt h q := fun _ _ => rfl
  have k_g_h : hAt h g = some (.inr (4, [.null, .null, .null, .null, .int 0, .int 0, .null, .null])) := k
  refine x_aload_n (pc := 0) dX4_init_0 rfl ?_
  refine x_objInit (pc := 1) dX4_init_1 xl_X4_1 rfl rfl rfl ?_
  refine x_aload_n (pc := 4) dX4_init_4 rfl ?_
  refine x_new (pc := 5) dX4_init_5 xn_X4_7 rfl rfl ?_
  rw [z_h]
  obtain ⟨h1, eh1⟩ : ∃ z, z = hNew h (.inr (2, [.null, .int 0, .int 0])) := ⟨_, rfl⟩
  rw [← eh1]
  have k_g_h1 : hAt h1 g = some (.inr (4, [.null, .null, .null, .null, .int 0, .int 0, .null, .null])) := by rw [eh1]; exact hNew_o (cZ z_h (cNeL rfl)) k_g_h
  have k_g1_h1 : hAt h1 (g + 1) = some (.inr (2, [.null, .int 0, .int 0])) := by rw [eh1]; exact hNew_p z_h
  have z_h1 : h1.1 = (g + 2) := by rw [eh1]; exact cZn z_h
  have f_h1 : ∀ q, q < g → hAt h1 q = hAt h q := fun q hq => by rw [eh1]; exact (hNew_e (cZ z_h (cLt hq))).trans (f_h q hq)
  refine x_dup (pc := 8) dX4_init_8 rfl ?_
  refine x_callIN (pc := 9) (As := []) (rest := [.ref (g + 1), .ref g]) (mc := 1) (ms := 240) dX4_init_9 xnl_X4_9 xi_X2_init rfl rfl rfl rfl rfl (C_X2_init G h1 (g + 1) k_g1_h1 z_h1) (fun v h2 hq => ?_)
  obtain ⟨ev, y_h2, w0_h2, w1_h2, g_h2⟩ := hq
  subst ev
  refine Wp.eqs (L' := [(0, .ref g)]) (st' := [.ref (g + 1), .ref g]) rfl rfl ?_
  have k_g_h2 : hAt h2 g = some (.inr (4, [.null, .null, .null, .null, .int 0, .int 0, .null, .null])) := (g_h2 g (cTo0 rfl)).trans k_g_h1
  have k_g1_h2 : hAt h2 (g + 1) = some (txC (g + 2) (fun _ => 0)) := w0_h2
  have k_g2_h2 : hAt h2 (g + 2) = some (arC 240 (fun _ => 0)) := w1_h2
  have z_h2 : h2.1 = (g + 3) := y_h2
  have f_h2 : ∀ q, q < g → hAt h2 q = hAt h q := fun q hq => (g_h2 q (cToq hq)).trans (f_h1 q hq)
  refine x_putF (pc := 12) (e' := .inr (4, [.ref (g + 1), .null, .null, .null, .int 0, .int 0, .null, .null])) dX4_init_12 xf_X4_10 rfl rfl k_g_h2 rfl rfl rfl rfl ?_
  obtain ⟨h3, eh3⟩ : ∃ z, z = hSet h2 g (.inr (4, [.ref (g + 1), .null, .null, .null, .int 0, .int 0, .null, .null])) := ⟨_, rfl⟩
  rw [← eh3]
  have k_g1_h3 : hAt h3 (g + 1) = some (txC (g + 2) (fun _ => 0)) := by rw [eh3]; exact hAt_n (cNeR rfl) k_g1_h2
  have k_g2_h3 : hAt h3 (g + 2) = some (arC 240 (fun _ => 0)) := by rw [eh3]; exact hAt_n (cNeR rfl) k_g2_h2
  have k_g_h3 : hAt h3 g = some (.inr (4, [.ref (g + 1), .null, .null, .null, .int 0, .int 0, .null, .null])) := by rw [eh3]; exact hAt_same
  have z_h3 : h3.1 = (g + 3) := by rw [eh3]; exact z_h2
  have f_h3 : ∀ q, q < g → hAt h3 q = hAt h q := fun q hq => by rw [eh3]; exact (hAt_ne (cLt0 hq)).trans (f_h2 q hq)
  refine x_aload_n (pc := 15) dX4_init_15 rfl ?_
  refine x_new (pc := 16) dX4_init_16 xn_X4_16 rfl rfl ?_
  rw [z_h3]
  obtain ⟨h4, eh4⟩ : ∃ z, z = hNew h3 (.inr (0, [.null, .null, .int 0, .int 0])) := ⟨_, rfl⟩
  rw [← eh4]
  have k_g_h4 : hAt h4 g = some (.inr (4, [.ref (g + 1), .null, .null, .null, .int 0, .int 0, .null, .null])) := by rw [eh4]; exact hNew_o (cZ z_h3 (cNeL rfl)) k_g_h3
  have k_g1_h4 : hAt h4 (g + 1) = some (txC (g + 2) (fun _ => 0)) := by rw [eh4]; exact hNew_o (cZ z_h3 (cNe rfl)) k_g1_h3
  have k_g2_h4 : hAt h4 (g + 2) = some (arC 240 (fun _ => 0)) := by rw [eh4]; exact hNew_o (cZ z_h3 (cNe rfl)) k_g2_h3
  have k_g3_h4 : hAt h4 (g + 3) = some (.inr (0, [.null, .null, .int 0, .int 0])) := by rw [eh4]; exact hNew_p z_h3
  have z_h4 : h4.1 = (g + 4) := by rw [eh4]; exact cZn z_h3
  have f_h4 : ∀ q, q < g → hAt h4 q = hAt h q := fun q hq => by rw [eh4]; exact (hNew_e (cZ z_h3 (cLt hq))).trans (f_h3 q hq)
  refine x_dup (pc := 19) dX4_init_19 rfl ?_
  refine x_callI (pc := 20) (As := []) (rest := [.ref (g + 3), .ref g]) (mc := 14) (ms := 117) dX4_init_20 xl_X4_18 xi_X0_init rfl rfl rfl rfl rfl (C_X0_init G h4 (g + 3) k_g3_h4 z_h4) (fun v h5 hq => ?_)
  obtain ⟨ev, y_h5, w0_h5, g_h5⟩ := hq
  subst ev
  refine Wp.eqs (L' := [(0, .ref g)]) (st' := [.ref (g + 3), .ref g]) rfl rfl ?_
  have k_g_h5 : hAt h5 g = some (.inr (4, [.ref (g + 1), .null, .null, .null, .int 0, .int 0, .null, .null])) := (g_h5 g (cTo0 rfl)).trans k_g_h4
  have k_g1_h5 : hAt h5 (g + 1) = some (txC (g + 2) (fun _ => 0)) := (g_h5 (g + 1) (cTo rfl)).trans k_g1_h4
  have k_g2_h5 : hAt h5 (g + 2) = some (arC 240 (fun _ => 0)) := (g_h5 (g + 2) (cTo rfl)).trans k_g2_h4
  have k_g3_h5 : nk h5 (g + 3) (fun _ => 0) (fun _ => 0) (fun _ _ => 0) (fun _ _ => 0) (fun _ _ => 0) := w0_h5
  have z_h5 : h5.1 = (g + 18) := y_h5
  have f_h5 : ∀ q, q < g → hAt h5 q = hAt h q := fun q hq => (g_h5 q (cToq hq)).trans (f_h4 q hq)
  refine x_putF (pc := 23) (e' := .inr (4, [.ref (g + 1), .ref (g + 3), .null, .null, .int 0, .int 0, .null, .null])) dX4_init_23 xf_X4_19 rfl rfl k_g_h5 rfl rfl rfl rfl ?_
  obtain ⟨h6, eh6⟩ : ∃ z, z = hSet h5 g (.inr (4, [.ref (g + 1), .ref (g + 3), .null, .null, .int 0, .int 0, .null, .null])) := ⟨_, rfl⟩
  rw [← eh6]
  have k_g1_h6 : hAt h6 (g + 1) = some (txC (g + 2) (fun _ => 0)) := by rw [eh6]; exact hAt_n (cNeR rfl) k_g1_h5
  have k_g2_h6 : hAt h6 (g + 2) = some (arC 240 (fun _ => 0)) := by rw [eh6]; exact hAt_n (cNeR rfl) k_g2_h5
  have k_g3_h6 : nk h6 (g + 3) (fun _ => 0) (fun _ => 0) (fun _ _ => 0) (fun _ _ => 0) (fun _ _ => 0) := by rw [eh6]; exact nk_fr1 (cOut0 rfl) k_g3_h5
  have k_g_h6 : hAt h6 g = some (.inr (4, [.ref (g + 1), .ref (g + 3), .null, .null, .int 0, .int 0, .null, .null])) := by rw [eh6]; exact hAt_same
  have z_h6 : h6.1 = (g + 18) := by rw [eh6]; exact z_h5
  have f_h6 : ∀ q, q < g → hAt h6 q = hAt h q := fun q hq => by rw [eh6]; exact (hAt_ne (cLt0 hq)).trans (f_h5 q hq)
  refine x_aload_n (pc := 26) dX4_init_26 rfl ?_
  refine x_new (pc := 27) dX4_init_27 xn_X4_16 rfl rfl ?_
  rw [z_h6]
  obtain ⟨h7, eh7⟩ : ∃ z, z = hNew h6 (.inr (0, [.null, .null, .int 0, .int 0])) := ⟨_, rfl⟩
  rw [← eh7]
  have k_g_h7 : hAt h7 g = some (.inr (4, [.ref (g + 1), .ref (g + 3), .null, .null, .int 0, .int 0, .null, .null])) := by rw [eh7]; exact hNew_o (cZ z_h6 (cNeL rfl)) k_g_h6
  have k_g1_h7 : hAt h7 (g + 1) = some (txC (g + 2) (fun _ => 0)) := by rw [eh7]; exact hNew_o (cZ z_h6 (cNe rfl)) k_g1_h6
  have k_g2_h7 : hAt h7 (g + 2) = some (arC 240 (fun _ => 0)) := by rw [eh7]; exact hNew_o (cZ z_h6 (cNe rfl)) k_g2_h6
  have k_g3_h7 : nk h7 (g + 3) (fun _ => 0) (fun _ => 0) (fun _ _ => 0) (fun _ _ => 0) (fun _ _ => 0) := by rw [eh7]; exact nk_new (cZb z_h6 rfl) k_g3_h6
  have k_g18_h7 : hAt h7 (g + 18) = some (.inr (0, [.null, .null, .int 0, .int 0])) := by rw [eh7]; exact hNew_p z_h6
  have z_h7 : h7.1 = (g + 19) := by rw [eh7]; exact cZn z_h6
  have f_h7 : ∀ q, q < g → hAt h7 q = hAt h q := fun q hq => by rw [eh7]; exact (hNew_e (cZ z_h6 (cLt hq))).trans (f_h6 q hq)
  refine x_dup (pc := 30) dX4_init_30 rfl ?_
  refine x_callI (pc := 31) (As := []) (rest := [.ref (g + 18), .ref g]) (mc := 14) (ms := 117) dX4_init_31 xl_X4_18 xi_X0_init rfl rfl rfl rfl rfl (C_X0_init G h7 (g + 18) k_g18_h7 z_h7) (fun v h8 hq => ?_)
  obtain ⟨ev, y_h8, w0_h8, g_h8⟩ := hq
  subst ev
  refine Wp.eqs (L' := [(0, .ref g)]) (st' := [.ref (g + 18), .ref g]) rfl rfl ?_
  have k_g_h8 : hAt h8 g = some (.inr (4, [.ref (g + 1), .ref (g + 3), .null, .null, .int 0, .int 0, .null, .null])) := (g_h8 g (cTo0 rfl)).trans k_g_h7
  have k_g1_h8 : hAt h8 (g + 1) = some (txC (g + 2) (fun _ => 0)) := (g_h8 (g + 1) (cTo rfl)).trans k_g1_h7
  have k_g2_h8 : hAt h8 (g + 2) = some (arC 240 (fun _ => 0)) := (g_h8 (g + 2) (cTo rfl)).trans k_g2_h7
  have k_g3_h8 : nk h8 (g + 3) (fun _ => 0) (fun _ => 0) (fun _ _ => 0) (fun _ _ => 0) (fun _ _ => 0) := nk_fr (fun q u1 u2 => g_h8 q (cIn u2 rfl)) k_g3_h7
  have k_g18_h8 : nk h8 (g + 18) (fun _ => 0) (fun _ => 0) (fun _ _ => 0) (fun _ _ => 0) (fun _ _ => 0) := w0_h8
  have z_h8 : h8.1 = (g + 33) := y_h8
  have f_h8 : ∀ q, q < g → hAt h8 q = hAt h q := fun q hq => (g_h8 q (cToq hq)).trans (f_h7 q hq)
  refine x_putF (pc := 34) (e' := .inr (4, [.ref (g + 1), .ref (g + 3), .ref (g + 18), .null, .int 0, .int 0, .null, .null])) dX4_init_34 xf_X4_23 rfl rfl k_g_h8 rfl rfl rfl rfl ?_
  obtain ⟨h9, eh9⟩ : ∃ z, z = hSet h8 g (.inr (4, [.ref (g + 1), .ref (g + 3), .ref (g + 18), .null, .int 0, .int 0, .null, .null])) := ⟨_, rfl⟩
  rw [← eh9]
  have k_g1_h9 : hAt h9 (g + 1) = some (txC (g + 2) (fun _ => 0)) := by rw [eh9]; exact hAt_n (cNeR rfl) k_g1_h8
  have k_g2_h9 : hAt h9 (g + 2) = some (arC 240 (fun _ => 0)) := by rw [eh9]; exact hAt_n (cNeR rfl) k_g2_h8
  have k_g3_h9 : nk h9 (g + 3) (fun _ => 0) (fun _ => 0) (fun _ _ => 0) (fun _ _ => 0) (fun _ _ => 0) := by rw [eh9]; exact nk_fr1 (cOut0 rfl) k_g3_h8
  have k_g18_h9 : nk h9 (g + 18) (fun _ => 0) (fun _ => 0) (fun _ _ => 0) (fun _ _ => 0) (fun _ _ => 0) := by rw [eh9]; exact nk_fr1 (cOut0 rfl) k_g18_h8
  have k_g_h9 : hAt h9 g = some (.inr (4, [.ref (g + 1), .ref (g + 3), .ref (g + 18), .null, .int 0, .int 0, .null, .null])) := by rw [eh9]; exact hAt_same
  have z_h9 : h9.1 = (g + 33) := by rw [eh9]; exact z_h8
  have f_h9 : ∀ q, q < g → hAt h9 q = hAt h q := fun q hq => by rw [eh9]; exact (hAt_ne (cLt0 hq)).trans (f_h8 q hq)
  refine x_aload_n (pc := 37) dX4_init_37 rfl ?_
  refine x_iconst (pc := 38) (v := (4 : Int32)) dX4_init_38 (by decide) ?_
  refine x_newq (pc := 39) (t := 2) (N := 4) (Cn := RX0) dX4_init_39 rfl (fun _ E => E.2.1) xc_X4_16 rfl rfl rfl rfl ?_
  rw [z_h9]
  obtain ⟨h10, eh10⟩ : ∃ z, z = hNew h9 (arR 2 4 (fun _ => none)) := ⟨_, rfl⟩
  rw [← eh10]
  have k_g_h10 : hAt h10 g = some (.inr (4, [.ref (g + 1), .ref (g + 3), .ref (g + 18), .null, .int 0, .int 0, .null, .null])) := by rw [eh10]; exact hNew_o (cZ z_h9 (cNeL rfl)) k_g_h9
  have k_g1_h10 : hAt h10 (g + 1) = some (txC (g + 2) (fun _ => 0)) := by rw [eh10]; exact hNew_o (cZ z_h9 (cNe rfl)) k_g1_h9
  have k_g2_h10 : hAt h10 (g + 2) = some (arC 240 (fun _ => 0)) := by rw [eh10]; exact hNew_o (cZ z_h9 (cNe rfl)) k_g2_h9
  have k_g3_h10 : nk h10 (g + 3) (fun _ => 0) (fun _ => 0) (fun _ _ => 0) (fun _ _ => 0) (fun _ _ => 0) := by rw [eh10]; exact nk_new (cZb z_h9 rfl) k_g3_h9
  have k_g18_h10 : nk h10 (g + 18) (fun _ => 0) (fun _ => 0) (fun _ _ => 0) (fun _ _ => 0) (fun _ _ => 0) := by rw [eh10]; exact nk_new (cZb z_h9 rfl) k_g18_h9
  have k_g33_h10 : hAt h10 (g + 33) = some (arR 2 4 (fun _ => none)) := by rw [eh10]; exact hNew_p z_h9
  have z_h10 : h10.1 = (g + 34) := by rw [eh10]; exact cZn z_h9
  have f_h10 : ∀ q, q < g → hAt h10 q = hAt h q := fun q hq => by rw [eh10]; exact (hNew_e (cZ z_h9 (cLt hq))).trans (f_h9 q hq)
  refine x_putF (pc := 42) (e' := .inr (4, [.ref (g + 1), .ref (g + 3), .ref (g + 18), .ref (g + 33), .int 0, .int 0, .null, .null])) dX4_init_42 xf_X4_26 rfl rfl k_g_h10 rfl rfl rfl rfl ?_
  obtain ⟨h11, eh11⟩ : ∃ z, z = hSet h10 g (.inr (4, [.ref (g + 1), .ref (g + 3), .ref (g + 18), .ref (g + 33), .int 0, .int 0, .null, .null])) := ⟨_, rfl⟩
  rw [← eh11]
  have k_g1_h11 : hAt h11 (g + 1) = some (txC (g + 2) (fun _ => 0)) := by rw [eh11]; exact hAt_n (cNeR rfl) k_g1_h10
  have k_g2_h11 : hAt h11 (g + 2) = some (arC 240 (fun _ => 0)) := by rw [eh11]; exact hAt_n (cNeR rfl) k_g2_h10
  have k_g3_h11 : nk h11 (g + 3) (fun _ => 0) (fun _ => 0) (fun _ _ => 0) (fun _ _ => 0) (fun _ _ => 0) := by rw [eh11]; exact nk_fr1 (cOut0 rfl) k_g3_h10
  have k_g18_h11 : nk h11 (g + 18) (fun _ => 0) (fun _ => 0) (fun _ _ => 0) (fun _ _ => 0) (fun _ _ => 0) := by rw [eh11]; exact nk_fr1 (cOut0 rfl) k_g18_h10
  have k_g33_h11 : hAt h11 (g + 33) = some (arR 2 4 (fun _ => none)) := by rw [eh11]; exact hAt_n (cNeR rfl) k_g33_h10
  have k_g_h11 : hAt h11 g = some (.inr (4, [.ref (g + 1), .ref (g + 3), .ref (g + 18), .ref (g + 33), .int 0, .int 0, .null, .null])) := by rw [eh11]; exact hAt_same
  have z_h11 : h11.1 = (g + 34) := by rw [eh11]; exact z_h10
  have f_h11 : ∀ q, q < g → hAt h11 q = hAt h q := fun q hq => by rw [eh11]; exact (hAt_ne (cLt0 hq)).trans (f_h10 q hq)
  refine x_aload_n (pc := 45) dX4_init_45 rfl ?_
  refine x_new (pc := 46) dX4_init_46 xn_X4_30 rfl rfl ?_
  rw [z_h11]
  obtain ⟨h12, eh12⟩ : ∃ z, z = hNew h11 (.inr (3, [.int 0, .int 0, .null, .null, .int 0, .int 0, .int 0, .int 0, .int 0, .int 0, .int 0, .int 0, .int 0, .int 0, .int 0])) := ⟨_, rfl⟩
  rw [← eh12]
  have k_g_h12 : hAt h12 g = some (.inr (4, [.ref (g + 1), .ref (g + 3), .ref (g + 18), .ref (g + 33), .int 0, .int 0, .null, .null])) := by rw [eh12]; exact hNew_o (cZ z_h11 (cNeL rfl)) k_g_h11
  have k_g1_h12 : hAt h12 (g + 1) = some (txC (g + 2) (fun _ => 0)) := by rw [eh12]; exact hNew_o (cZ z_h11 (cNe rfl)) k_g1_h11
  have k_g2_h12 : hAt h12 (g + 2) = some (arC 240 (fun _ => 0)) := by rw [eh12]; exact hNew_o (cZ z_h11 (cNe rfl)) k_g2_h11
  have k_g3_h12 : nk h12 (g + 3) (fun _ => 0) (fun _ => 0) (fun _ _ => 0) (fun _ _ => 0) (fun _ _ => 0) := by rw [eh12]; exact nk_new (cZb z_h11 rfl) k_g3_h11
  have k_g18_h12 : nk h12 (g + 18) (fun _ => 0) (fun _ => 0) (fun _ _ => 0) (fun _ _ => 0) (fun _ _ => 0) := by rw [eh12]; exact nk_new (cZb z_h11 rfl) k_g18_h11
  have k_g33_h12 : hAt h12 (g + 33) = some (arR 2 4 (fun _ => none)) := by rw [eh12]; exact hNew_o (cZ z_h11 (cNe rfl)) k_g33_h11
  have k_g34_h12 : hAt h12 (g + 34) = some (.inr (3, [.int 0, .int 0, .null, .null, .int 0, .int 0, .int 0, .int 0, .int 0, .int 0, .int 0, .int 0, .int 0, .int 0, .int 0])) := by rw [eh12]; exact hNew_p z_h11
  have z_h12 : h12.1 = (g + 35) := by rw [eh12]; exact cZn z_h11
  have f_h12 : ∀ q, q < g → hAt h12 q = hAt h q := fun q hq => by rw [eh12]; exact (hNew_e (cZ z_h11 (cLt hq))).trans (f_h11 q hq)
  refine x_dup (pc := 49) dX4_init_49 rfl ?_
  refine x_callIN (pc := 50) (As := []) (rest := [.ref (g + 34), .ref g]) (mc := 2) (ms := 12) dX4_init_50 xnl_X4_32 xi_X3_init rfl rfl rfl rfl rfl (C_X3_init G h12 (g + 34) k_g34_h12 z_h12) (fun v h13 hq => ?_)
  obtain ⟨ev, y_h13, w0_h13, w1_h13, w2_h13, g_h13⟩ := hq
  subst ev
  refine Wp.eqs (L' := [(0, .ref g)]) (st' := [.ref (g + 34), .ref g]) rfl rfl ?_
  have k_g_h13 : hAt h13 g = some (.inr (4, [.ref (g + 1), .ref (g + 3), .ref (g + 18), .ref (g + 33), .int 0, .int 0, .null, .null])) := (g_h13 g (cTo0 rfl)).trans k_g_h12
  have k_g1_h13 : hAt h13 (g + 1) = some (txC (g + 2) (fun _ => 0)) := (g_h13 (g + 1) (cTo rfl)).trans k_g1_h12
  have k_g2_h13 : hAt h13 (g + 2) = some (arC 240 (fun _ => 0)) := (g_h13 (g + 2) (cTo rfl)).trans k_g2_h12
  have k_g3_h13 : nk h13 (g + 3) (fun _ => 0) (fun _ => 0) (fun _ _ => 0) (fun _ _ => 0) (fun _ _ => 0) := nk_fr (fun q u1 u2 => g_h13 q (cIn u2 rfl)) k_g3_h12
  have k_g18_h13 : nk h13 (g + 18) (fun _ => 0) (fun _ => 0) (fun _ _ => 0) (fun _ _ => 0) (fun _ _ => 0) := nk_fr (fun q u1 u2 => g_h13 q (cIn u2 rfl)) k_g18_h12
  have k_g33_h13 : hAt h13 (g + 33) = some (arR 2 4 (fun _ => none)) := (g_h13 (g + 33) (cTo rfl)).trans k_g33_h12
  have k_g34_h13 : hAt h13 (g + 34) = some (waC (g + 35) (g + 36) (fun _ => 0)) := w0_h13
  have k_g35_h13 : hAt h13 (g + 35) = some (arI 6 (fun _ => 0)) := w1_h13
  have k_g36_h13 : hAt h13 (g + 36) = some (arI 6 (fun _ => 0)) := w2_h13
  have z_h13 : h13.1 = (g + 37) := y_h13
  have f_h13 : ∀ q, q < g → hAt h13 q = hAt h q := fun q hq => (g_h13 q (cToq hq)).trans (f_h12 q hq)
  refine x_putF (pc := 53) (e' := .inr (4, [.ref (g + 1), .ref (g + 3), .ref (g + 18), .ref (g + 33), .int 0, .int 0, .ref (g + 34), .null])) dX4_init_53 xf_X4_33 rfl rfl k_g_h13 rfl rfl rfl rfl ?_
  obtain ⟨h14, eh14⟩ : ∃ z, z = hSet h13 g (.inr (4, [.ref (g + 1), .ref (g + 3), .ref (g + 18), .ref (g + 33), .int 0, .int 0, .ref (g + 34), .null])) := ⟨_, rfl⟩
  rw [← eh14]
  have k_g1_h14 : hAt h14 (g + 1) = some (txC (g + 2) (fun _ => 0)) := by rw [eh14]; exact hAt_n (cNeR rfl) k_g1_h13
  have k_g2_h14 : hAt h14 (g + 2) = some (arC 240 (fun _ => 0)) := by rw [eh14]; exact hAt_n (cNeR rfl) k_g2_h13
  have k_g3_h14 : nk h14 (g + 3) (fun _ => 0) (fun _ => 0) (fun _ _ => 0) (fun _ _ => 0) (fun _ _ => 0) := by rw [eh14]; exact nk_fr1 (cOut0 rfl) k_g3_h13
  have k_g18_h14 : nk h14 (g + 18) (fun _ => 0) (fun _ => 0) (fun _ _ => 0) (fun _ _ => 0) (fun _ _ => 0) := by rw [eh14]; exact nk_fr1 (cOut0 rfl) k_g18_h13
  have k_g33_h14 : hAt h14 (g + 33) = some (arR 2 4 (fun _ => none)) := by rw [eh14]; exact hAt_n (cNeR rfl) k_g33_h13
  have k_g34_h14 : hAt h14 (g + 34) = some (waC (g + 35) (g + 36) (fun _ => 0)) := by rw [eh14]; exact hAt_n (cNeR rfl) k_g34_h13
  have k_g35_h14 : hAt h14 (g + 35) = some (arI 6 (fun _ => 0)) := by rw [eh14]; exact hAt_n (cNeR rfl) k_g35_h13
  have k_g36_h14 : hAt h14 (g + 36) = some (arI 6 (fun _ => 0)) := by rw [eh14]; exact hAt_n (cNeR rfl) k_g36_h13
  have k_g_h14 : hAt h14 g = some (.inr (4, [.ref (g + 1), .ref (g + 3), .ref (g + 18), .ref (g + 33), .int 0, .int 0, .ref (g + 34), .null])) := by rw [eh14]; exact hAt_same
  have z_h14 : h14.1 = (g + 37) := by rw [eh14]; exact z_h13
  have f_h14 : ∀ q, q < g → hAt h14 q = hAt h q := fun q hq => by rw [eh14]; exact (hAt_ne (cLt0 hq)).trans (f_h13 q hq)
  refine x_aload_n (pc := 56) dX4_init_56 rfl ?_
  refine x_new (pc := 57) dX4_init_57 xn_X4_37 rfl rfl ?_
  rw [z_h14]
  obtain ⟨h15, eh15⟩ : ∃ z, z = hNew h14 (.inr (1, [.int 0, .int 0, .int 0, .int 0, .int 0])) := ⟨_, rfl⟩
  rw [← eh15]
  have k_g_h15 : hAt h15 g = some (.inr (4, [.ref (g + 1), .ref (g + 3), .ref (g + 18), .ref (g + 33), .int 0, .int 0, .ref (g + 34), .null])) := by rw [eh15]; exact hNew_o (cZ z_h14 (cNeL rfl)) k_g_h14
  have k_g1_h15 : hAt h15 (g + 1) = some (txC (g + 2) (fun _ => 0)) := by rw [eh15]; exact hNew_o (cZ z_h14 (cNe rfl)) k_g1_h14
  have k_g2_h15 : hAt h15 (g + 2) = some (arC 240 (fun _ => 0)) := by rw [eh15]; exact hNew_o (cZ z_h14 (cNe rfl)) k_g2_h14
  have k_g3_h15 : nk h15 (g + 3) (fun _ => 0) (fun _ => 0) (fun _ _ => 0) (fun _ _ => 0) (fun _ _ => 0) := by rw [eh15]; exact nk_new (cZb z_h14 rfl) k_g3_h14
  have k_g18_h15 : nk h15 (g + 18) (fun _ => 0) (fun _ => 0) (fun _ _ => 0) (fun _ _ => 0) (fun _ _ => 0) := by rw [eh15]; exact nk_new (cZb z_h14 rfl) k_g18_h14
  have k_g33_h15 : hAt h15 (g + 33) = some (arR 2 4 (fun _ => none)) := by rw [eh15]; exact hNew_o (cZ z_h14 (cNe rfl)) k_g33_h14
  have k_g34_h15 : hAt h15 (g + 34) = some (waC (g + 35) (g + 36) (fun _ => 0)) := by rw [eh15]; exact hNew_o (cZ z_h14 (cNe rfl)) k_g34_h14
  have k_g35_h15 : hAt h15 (g + 35) = some (arI 6 (fun _ => 0)) := by rw [eh15]; exact hNew_o (cZ z_h14 (cNe rfl)) k_g35_h14
  have k_g36_h15 : hAt h15 (g + 36) = some (arI 6 (fun _ => 0)) := by rw [eh15]; exact hNew_o (cZ z_h14 (cNe rfl)) k_g36_h14
  have k_g37_h15 : hAt h15 (g + 37) = some (.inr (1, [.int 0, .int 0, .int 0, .int 0, .int 0])) := by rw [eh15]; exact hNew_p z_h14
  have z_h15 : h15.1 = (g + 38) := by rw [eh15]; exact cZn z_h14
  have f_h15 : ∀ q, q < g → hAt h15 q = hAt h q := fun q hq => by rw [eh15]; exact (hNew_e (cZ z_h14 (cLt hq))).trans (f_h14 q hq)
  refine x_dup (pc := 60) dX4_init_60 rfl ?_
  refine x_callIN (pc := 61) (As := []) (rest := [.ref (g + 37), .ref g]) (mc := 0) (ms := 0) dX4_init_61 xnl_X4_39 xi_X1_init rfl rfl rfl rfl rfl (C_X1_init G h15 (g + 37) k_g37_h15) (fun v h16 hq => ?_)
  obtain ⟨ev, eh⟩ := hq
  subst ev
  rw [eh]
  refine Wp.eqs (L' := [(0, .ref g)]) (st' := [.ref (g + 37), .ref g]) rfl rfl ?_
  refine x_putF (pc := 64) (e' := .inr (4, [.ref (g + 1), .ref (g + 3), .ref (g + 18), .ref (g + 33), .int 0, .int 0, .ref (g + 34), .ref (g + 37)])) dX4_init_64 xf_X4_40 rfl rfl k_g_h15 rfl rfl rfl rfl ?_
  obtain ⟨h17, eh17⟩ : ∃ z, z = hSet h15 g (.inr (4, [.ref (g + 1), .ref (g + 3), .ref (g + 18), .ref (g + 33), .int 0, .int 0, .ref (g + 34), .ref (g + 37)])) := ⟨_, rfl⟩
  rw [← eh17]
  have k_g1_h17 : hAt h17 (g + 1) = some (txC (g + 2) (fun _ => 0)) := by rw [eh17]; exact hAt_n (cNeR rfl) k_g1_h15
  have k_g2_h17 : hAt h17 (g + 2) = some (arC 240 (fun _ => 0)) := by rw [eh17]; exact hAt_n (cNeR rfl) k_g2_h15
  have k_g3_h17 : nk h17 (g + 3) (fun _ => 0) (fun _ => 0) (fun _ _ => 0) (fun _ _ => 0) (fun _ _ => 0) := by rw [eh17]; exact nk_fr1 (cOut0 rfl) k_g3_h15
  have k_g18_h17 : nk h17 (g + 18) (fun _ => 0) (fun _ => 0) (fun _ _ => 0) (fun _ _ => 0) (fun _ _ => 0) := by rw [eh17]; exact nk_fr1 (cOut0 rfl) k_g18_h15
  have k_g33_h17 : hAt h17 (g + 33) = some (arR 2 4 (fun _ => none)) := by rw [eh17]; exact hAt_n (cNeR rfl) k_g33_h15
  have k_g34_h17 : hAt h17 (g + 34) = some (waC (g + 35) (g + 36) (fun _ => 0)) := by rw [eh17]; exact hAt_n (cNeR rfl) k_g34_h15
  have k_g35_h17 : hAt h17 (g + 35) = some (arI 6 (fun _ => 0)) := by rw [eh17]; exact hAt_n (cNeR rfl) k_g35_h15
  have k_g36_h17 : hAt h17 (g + 36) = some (arI 6 (fun _ => 0)) := by rw [eh17]; exact hAt_n (cNeR rfl) k_g36_h15
  have k_g37_h17 : hAt h17 (g + 37) = some (.inr (1, [.int 0, .int 0, .int 0, .int 0, .int 0])) := by rw [eh17]; exact hAt_n (cNeR rfl) k_g37_h15
  have k_g_h17 : hAt h17 g = some (.inr (4, [.ref (g + 1), .ref (g + 3), .ref (g + 18), .ref (g + 33), .int 0, .int 0, .ref (g + 34), .ref (g + 37)])) := by rw [eh17]; exact hAt_same
  have z_h17 : h17.1 = (g + 38) := by rw [eh17]; exact z_h15
  have f_h17 : ∀ q, q < g → hAt h17 q = hAt h q := fun q hq => by rw [eh17]; exact (hAt_ne (cLt0 hq)).trans (f_h15 q hq)
  refine x_iconst (pc := 67) (v := (0 : Int32)) dX4_init_67 (by decide) ?_
  refine x_istore_n (pc := 68) (L' := [(1, .int (0 : Int32)), (0, .ref g)]) dX4_init_68 rfl rfl ?_
  refine x_iload_n (pc := 69) dX4_init_69 rfl ?_
  refine x_iconst (pc := 70) (v := (4 : Int32)) dX4_init_70 (by decide) ?_
  refine x_icmp_ge (pc := 71) (tgt := 93) dX4_init_71 (by decide) (fun z => absurd z (by decide)) (fun _ => ?_)
  refine x_aload_n (pc := 74) dX4_init_74 rfl ?_
  refine x_getf (pc := 75) (v := .ref (g + 33)) dX4_init_75 xf_X4_26 k_g_h17 rfl ?_
  refine x_iload_n (pc := 78) dX4_init_78 rfl ?_
  refine x_new (pc := 79) dX4_init_79 xn_X4_16 rfl rfl ?_
  rw [z_h17]
  obtain ⟨h18, eh18⟩ : ∃ z, z = hNew h17 (.inr (0, [.null, .null, .int 0, .int 0])) := ⟨_, rfl⟩
  rw [← eh18]
  have k_g_h18 : hAt h18 g = some (.inr (4, [.ref (g + 1), .ref (g + 3), .ref (g + 18), .ref (g + 33), .int 0, .int 0, .ref (g + 34), .ref (g + 37)])) := by rw [eh18]; exact hNew_o (cZ z_h17 (cNeL rfl)) k_g_h17
  have k_g1_h18 : hAt h18 (g + 1) = some (txC (g + 2) (fun _ => 0)) := by rw [eh18]; exact hNew_o (cZ z_h17 (cNe rfl)) k_g1_h17
  have k_g2_h18 : hAt h18 (g + 2) = some (arC 240 (fun _ => 0)) := by rw [eh18]; exact hNew_o (cZ z_h17 (cNe rfl)) k_g2_h17
  have k_g3_h18 : nk h18 (g + 3) (fun _ => 0) (fun _ => 0) (fun _ _ => 0) (fun _ _ => 0) (fun _ _ => 0) := by rw [eh18]; exact nk_new (cZb z_h17 rfl) k_g3_h17
  have k_g18_h18 : nk h18 (g + 18) (fun _ => 0) (fun _ => 0) (fun _ _ => 0) (fun _ _ => 0) (fun _ _ => 0) := by rw [eh18]; exact nk_new (cZb z_h17 rfl) k_g18_h17
  have k_g33_h18 : hAt h18 (g + 33) = some (arR 2 4 (fun _ => none)) := by rw [eh18]; exact hNew_o (cZ z_h17 (cNe rfl)) k_g33_h17
  have k_g34_h18 : hAt h18 (g + 34) = some (waC (g + 35) (g + 36) (fun _ => 0)) := by rw [eh18]; exact hNew_o (cZ z_h17 (cNe rfl)) k_g34_h17
  have k_g35_h18 : hAt h18 (g + 35) = some (arI 6 (fun _ => 0)) := by rw [eh18]; exact hNew_o (cZ z_h17 (cNe rfl)) k_g35_h17
  have k_g36_h18 : hAt h18 (g + 36) = some (arI 6 (fun _ => 0)) := by rw [eh18]; exact hNew_o (cZ z_h17 (cNe rfl)) k_g36_h17
  have k_g37_h18 : hAt h18 (g + 37) = some (.inr (1, [.int 0, .int 0, .int 0, .int 0, .int 0])) := by rw [eh18]; exact hNew_o (cZ z_h17 (cNe rfl)) k_g37_h17
  have k_g38_h18 : hAt h18 (g + 38) = some (.inr (0, [.null, .null, .int 0, .int 0])) := by rw [eh18]; exact hNew_p z_h17
  have z_h18 : h18.1 = (g + 39) := by rw [eh18]; exact cZn z_h17
  have f_h18 : ∀ q, q < g → hAt h18 q = hAt h q := fun q hq => by rw [eh18]; exact (hNew_e (cZ z_h17 (cLt hq))).trans (f_h17 q hq)
  refine x_dup (pc := 82) dX4_init_82 rfl ?_
  refine x_callI (pc := 83) (As := []) (rest := [.ref (g + 38), .int (0 : Int32), .ref (g + 33)]) (mc := 14) (ms := 117) dX4_init_83 xl_X4_18 xi_X0_init rfl rfl rfl rfl rfl (C_X0_init G h18 (g + 38) k_g38_h18 z_h18) (fun v h19 hq => ?_)
  obtain ⟨ev, y_h19, w0_h19, g_h19⟩ := hq
  subst ev
  refine Wp.eqs (L' := [(1, .int (0 : Int32)), (0, .ref g)]) (st' := [.ref (g + 38), .int (0 : Int32), .ref (g + 33)]) rfl rfl ?_
  have k_g_h19 : hAt h19 g = some (.inr (4, [.ref (g + 1), .ref (g + 3), .ref (g + 18), .ref (g + 33), .int 0, .int 0, .ref (g + 34), .ref (g + 37)])) := (g_h19 g (cTo0 rfl)).trans k_g_h18
  have k_g1_h19 : hAt h19 (g + 1) = some (txC (g + 2) (fun _ => 0)) := (g_h19 (g + 1) (cTo rfl)).trans k_g1_h18
  have k_g2_h19 : hAt h19 (g + 2) = some (arC 240 (fun _ => 0)) := (g_h19 (g + 2) (cTo rfl)).trans k_g2_h18
  have k_g3_h19 : nk h19 (g + 3) (fun _ => 0) (fun _ => 0) (fun _ _ => 0) (fun _ _ => 0) (fun _ _ => 0) := nk_fr (fun q u1 u2 => g_h19 q (cIn u2 rfl)) k_g3_h18
  have k_g18_h19 : nk h19 (g + 18) (fun _ => 0) (fun _ => 0) (fun _ _ => 0) (fun _ _ => 0) (fun _ _ => 0) := nk_fr (fun q u1 u2 => g_h19 q (cIn u2 rfl)) k_g18_h18
  have k_g33_h19 : hAt h19 (g + 33) = some (arR 2 4 (fun _ => none)) := (g_h19 (g + 33) (cTo rfl)).trans k_g33_h18
  have k_g34_h19 : hAt h19 (g + 34) = some (waC (g + 35) (g + 36) (fun _ => 0)) := (g_h19 (g + 34) (cTo rfl)).trans k_g34_h18
  have k_g35_h19 : hAt h19 (g + 35) = some (arI 6 (fun _ => 0)) := (g_h19 (g + 35) (cTo rfl)).trans k_g35_h18
  have k_g36_h19 : hAt h19 (g + 36) = some (arI 6 (fun _ => 0)) := (g_h19 (g + 36) (cTo rfl)).trans k_g36_h18
  have k_g37_h19 : hAt h19 (g + 37) = some (.inr (1, [.int 0, .int 0, .int 0, .int 0, .int 0])) := (g_h19 (g + 37) (cTo rfl)).trans k_g37_h18
  have k_g38_h19 : nk h19 (g + 38) (fun _ => 0) (fun _ => 0) (fun _ _ => 0) (fun _ _ => 0) (fun _ _ => 0) := w0_h19
  have z_h19 : h19.1 = (g + 53) := y_h19
  have f_h19 : ∀ q, q < g → hAt h19 q = hAt h q := fun q hq => (g_h19 q (cToq hq)).trans (f_h18 q hq)
  refine x_aast (pc := 86) (t := 2) (e' := arR 2 4 (va_up (fun _ => none) 0 (some (g + 38)))) (ci := 0) rfl rfl dX4_init_86 k_g33_h19 (nk_nt k_g38_h19) (vp_in_nI (n := 0) (by decide) (by decide)) rfl ?_
  obtain ⟨h20, eh20⟩ : ∃ z, z = hSet h19 (g + 33) (arR 2 4 (va_up (fun _ => none) 0 (some (g + 38)))) := ⟨_, rfl⟩
  rw [← eh20]
  have k_g_h20 : hAt h20 g = some (.inr (4, [.ref (g + 1), .ref (g + 3), .ref (g + 18), .ref (g + 33), .int 0, .int 0, .ref (g + 34), .ref (g + 37)])) := by rw [eh20]; exact hAt_n (cNeL rfl) k_g_h19
  have k_g1_h20 : hAt h20 (g + 1) = some (txC (g + 2) (fun _ => 0)) := by rw [eh20]; exact hAt_n (cNe rfl) k_g1_h19
  have k_g2_h20 : hAt h20 (g + 2) = some (arC 240 (fun _ => 0)) := by rw [eh20]; exact hAt_n (cNe rfl) k_g2_h19
  have k_g3_h20 : nk h20 (g + 3) (fun _ => 0) (fun _ => 0) (fun _ _ => 0) (fun _ _ => 0) (fun _ _ => 0) := by rw [eh20]; exact nk_fr1 (cOut rfl) k_g3_h19
  have k_g18_h20 : nk h20 (g + 18) (fun _ => 0) (fun _ => 0) (fun _ _ => 0) (fun _ _ => 0) (fun _ _ => 0) := by rw [eh20]; exact nk_fr1 (cOut rfl) k_g18_h19
  have k_g34_h20 : hAt h20 (g + 34) = some (waC (g + 35) (g + 36) (fun _ => 0)) := by rw [eh20]; exact hAt_n (cNe rfl) k_g34_h19
  have k_g35_h20 : hAt h20 (g + 35) = some (arI 6 (fun _ => 0)) := by rw [eh20]; exact hAt_n (cNe rfl) k_g35_h19
  have k_g36_h20 : hAt h20 (g + 36) = some (arI 6 (fun _ => 0)) := by rw [eh20]; exact hAt_n (cNe rfl) k_g36_h19
  have k_g37_h20 : hAt h20 (g + 37) = some (.inr (1, [.int 0, .int 0, .int 0, .int 0, .int 0])) := by rw [eh20]; exact hAt_n (cNe rfl) k_g37_h19
  have k_g38_h20 : nk h20 (g + 38) (fun _ => 0) (fun _ => 0) (fun _ _ => 0) (fun _ _ => 0) (fun _ _ => 0) := by rw [eh20]; exact nk_fr1 (cOut rfl) k_g38_h19
  have k_g33_h20 : hAt h20 (g + 33) = some (arR 2 4 (va_up (fun _ => none) 0 (some (g + 38)))) := by rw [eh20]; exact hAt_same
  have z_h20 : h20.1 = (g + 53) := by rw [eh20]; exact z_h19
  have f_h20 : ∀ q, q < g → hAt h20 q = hAt h q := fun q hq => by rw [eh20]; exact (hAt_ne (cLt hq)).trans (f_h19 q hq)
  refine x_iinc (pc := 87) (v := (1 : Int32)) (L' := [(1, .int (1 : Int32)), (0, .ref g)]) dX4_init_87 rfl (by decide) rfl rfl ?_
  refine x_goto (pc := 90) (tgt := 69) dX4_init_90 (by decide) ?_
  refine x_iload_n (pc := 69) dX4_init_69 rfl ?_
  refine x_iconst (pc := 70) (v := (4 : Int32)) dX4_init_70 (by decide) ?_
  refine x_icmp_ge (pc := 71) (tgt := 93) dX4_init_71 (by decide) (fun z => absurd z (by decide)) (fun _ => ?_)
  refine x_aload_n (pc := 74) dX4_init_74 rfl ?_
  refine x_getf (pc := 75) (v := .ref (g + 33)) dX4_init_75 xf_X4_26 k_g_h20 rfl ?_
  refine x_iload_n (pc := 78) dX4_init_78 rfl ?_
  refine x_new (pc := 79) dX4_init_79 xn_X4_16 rfl rfl ?_
  rw [z_h20]
  obtain ⟨h21, eh21⟩ : ∃ z, z = hNew h20 (.inr (0, [.null, .null, .int 0, .int 0])) := ⟨_, rfl⟩
  rw [← eh21]
  have k_g_h21 : hAt h21 g = some (.inr (4, [.ref (g + 1), .ref (g + 3), .ref (g + 18), .ref (g + 33), .int 0, .int 0, .ref (g + 34), .ref (g + 37)])) := by rw [eh21]; exact hNew_o (cZ z_h20 (cNeL rfl)) k_g_h20
  have k_g1_h21 : hAt h21 (g + 1) = some (txC (g + 2) (fun _ => 0)) := by rw [eh21]; exact hNew_o (cZ z_h20 (cNe rfl)) k_g1_h20
  have k_g2_h21 : hAt h21 (g + 2) = some (arC 240 (fun _ => 0)) := by rw [eh21]; exact hNew_o (cZ z_h20 (cNe rfl)) k_g2_h20
  have k_g3_h21 : nk h21 (g + 3) (fun _ => 0) (fun _ => 0) (fun _ _ => 0) (fun _ _ => 0) (fun _ _ => 0) := by rw [eh21]; exact nk_new (cZb z_h20 rfl) k_g3_h20
  have k_g18_h21 : nk h21 (g + 18) (fun _ => 0) (fun _ => 0) (fun _ _ => 0) (fun _ _ => 0) (fun _ _ => 0) := by rw [eh21]; exact nk_new (cZb z_h20 rfl) k_g18_h20
  have k_g33_h21 : hAt h21 (g + 33) = some (arR 2 4 (va_up (fun _ => none) 0 (some (g + 38)))) := by rw [eh21]; exact hNew_o (cZ z_h20 (cNe rfl)) k_g33_h20
  have k_g34_h21 : hAt h21 (g + 34) = some (waC (g + 35) (g + 36) (fun _ => 0)) := by rw [eh21]; exact hNew_o (cZ z_h20 (cNe rfl)) k_g34_h20
  have k_g35_h21 : hAt h21 (g + 35) = some (arI 6 (fun _ => 0)) := by rw [eh21]; exact hNew_o (cZ z_h20 (cNe rfl)) k_g35_h20
  have k_g36_h21 : hAt h21 (g + 36) = some (arI 6 (fun _ => 0)) := by rw [eh21]; exact hNew_o (cZ z_h20 (cNe rfl)) k_g36_h20
  have k_g37_h21 : hAt h21 (g + 37) = some (.inr (1, [.int 0, .int 0, .int 0, .int 0, .int 0])) := by rw [eh21]; exact hNew_o (cZ z_h20 (cNe rfl)) k_g37_h20
  have k_g38_h21 : nk h21 (g + 38) (fun _ => 0) (fun _ => 0) (fun _ _ => 0) (fun _ _ => 0) (fun _ _ => 0) := by rw [eh21]; exact nk_new (cZb z_h20 rfl) k_g38_h20
  have k_g53_h21 : hAt h21 (g + 53) = some (.inr (0, [.null, .null, .int 0, .int 0])) := by rw [eh21]; exact hNew_p z_h20
  have z_h21 : h21.1 = (g + 54) := by rw [eh21]; exact cZn z_h20
  have f_h21 : ∀ q, q < g → hAt h21 q = hAt h q := fun q hq => by rw [eh21]; exact (hNew_e (cZ z_h20 (cLt hq))).trans (f_h20 q hq)
  refine x_dup (pc := 82) dX4_init_82 rfl ?_
  refine x_callI (pc := 83) (As := []) (rest := [.ref (g + 53), .int (1 : Int32), .ref (g + 33)]) (mc := 14) (ms := 117) dX4_init_83 xl_X4_18 xi_X0_init rfl rfl rfl rfl rfl (C_X0_init G h21 (g + 53) k_g53_h21 z_h21) (fun v h22 hq => ?_)
  obtain ⟨ev, y_h22, w0_h22, g_h22⟩ := hq
  subst ev
  refine Wp.eqs (L' := [(1, .int (1 : Int32)), (0, .ref g)]) (st' := [.ref (g + 53), .int (1 : Int32), .ref (g + 33)]) rfl rfl ?_
  have k_g_h22 : hAt h22 g = some (.inr (4, [.ref (g + 1), .ref (g + 3), .ref (g + 18), .ref (g + 33), .int 0, .int 0, .ref (g + 34), .ref (g + 37)])) := (g_h22 g (cTo0 rfl)).trans k_g_h21
  have k_g1_h22 : hAt h22 (g + 1) = some (txC (g + 2) (fun _ => 0)) := (g_h22 (g + 1) (cTo rfl)).trans k_g1_h21
  have k_g2_h22 : hAt h22 (g + 2) = some (arC 240 (fun _ => 0)) := (g_h22 (g + 2) (cTo rfl)).trans k_g2_h21
  have k_g3_h22 : nk h22 (g + 3) (fun _ => 0) (fun _ => 0) (fun _ _ => 0) (fun _ _ => 0) (fun _ _ => 0) := nk_fr (fun q u1 u2 => g_h22 q (cIn u2 rfl)) k_g3_h21
  have k_g18_h22 : nk h22 (g + 18) (fun _ => 0) (fun _ => 0) (fun _ _ => 0) (fun _ _ => 0) (fun _ _ => 0) := nk_fr (fun q u1 u2 => g_h22 q (cIn u2 rfl)) k_g18_h21
  have k_g33_h22 : hAt h22 (g + 33) = some (arR 2 4 (va_up (fun _ => none) 0 (some (g + 38)))) := (g_h22 (g + 33) (cTo rfl)).trans k_g33_h21
  have k_g34_h22 : hAt h22 (g + 34) = some (waC (g + 35) (g + 36) (fun _ => 0)) := (g_h22 (g + 34) (cTo rfl)).trans k_g34_h21
  have k_g35_h22 : hAt h22 (g + 35) = some (arI 6 (fun _ => 0)) := (g_h22 (g + 35) (cTo rfl)).trans k_g35_h21
  have k_g36_h22 : hAt h22 (g + 36) = some (arI 6 (fun _ => 0)) := (g_h22 (g + 36) (cTo rfl)).trans k_g36_h21
  have k_g37_h22 : hAt h22 (g + 37) = some (.inr (1, [.int 0, .int 0, .int 0, .int 0, .int 0])) := (g_h22 (g + 37) (cTo rfl)).trans k_g37_h21
  have k_g38_h22 : nk h22 (g + 38) (fun _ => 0) (fun _ => 0) (fun _ _ => 0) (fun _ _ => 0) (fun _ _ => 0) := nk_fr (fun q u1 u2 => g_h22 q (cIn u2 rfl)) k_g38_h21
  have k_g53_h22 : nk h22 (g + 53) (fun _ => 0) (fun _ => 0) (fun _ _ => 0) (fun _ _ => 0) (fun _ _ => 0) := w0_h22
  have z_h22 : h22.1 = (g + 68) := y_h22
  have f_h22 : ∀ q, q < g → hAt h22 q = hAt h q := fun q hq => (g_h22 q (cToq hq)).trans (f_h21 q hq)
  refine x_aast (pc := 86) (t := 2) (e' := arR 2 4 (va_up (va_up (fun _ => none) 0 (some (g + 38))) 1 (some (g + 53)))) (ci := 0) rfl rfl dX4_init_86 k_g33_h22 (nk_nt k_g53_h22) (vp_in_nI (n := 1) (by decide) (by decide)) rfl ?_
  obtain ⟨h23, eh23⟩ : ∃ z, z = hSet h22 (g + 33) (arR 2 4 (va_up (va_up (fun _ => none) 0 (some (g + 38))) 1 (some (g + 53)))) := ⟨_, rfl⟩
  rw [← eh23]
  have k_g_h23 : hAt h23 g = some (.inr (4, [.ref (g + 1), .ref (g + 3), .ref (g + 18), .ref (g + 33), .int 0, .int 0, .ref (g + 34), .ref (g + 37)])) := by rw [eh23]; exact hAt_n (cNeL rfl) k_g_h22
  have k_g1_h23 : hAt h23 (g + 1) = some (txC (g + 2) (fun _ => 0)) := by rw [eh23]; exact hAt_n (cNe rfl) k_g1_h22
  have k_g2_h23 : hAt h23 (g + 2) = some (arC 240 (fun _ => 0)) := by rw [eh23]; exact hAt_n (cNe rfl) k_g2_h22
  have k_g3_h23 : nk h23 (g + 3) (fun _ => 0) (fun _ => 0) (fun _ _ => 0) (fun _ _ => 0) (fun _ _ => 0) := by rw [eh23]; exact nk_fr1 (cOut rfl) k_g3_h22
  have k_g18_h23 : nk h23 (g + 18) (fun _ => 0) (fun _ => 0) (fun _ _ => 0) (fun _ _ => 0) (fun _ _ => 0) := by rw [eh23]; exact nk_fr1 (cOut rfl) k_g18_h22
  have k_g34_h23 : hAt h23 (g + 34) = some (waC (g + 35) (g + 36) (fun _ => 0)) := by rw [eh23]; exact hAt_n (cNe rfl) k_g34_h22
  have k_g35_h23 : hAt h23 (g + 35) = some (arI 6 (fun _ => 0)) := by rw [eh23]; exact hAt_n (cNe rfl) k_g35_h22
  have k_g36_h23 : hAt h23 (g + 36) = some (arI 6 (fun _ => 0)) := by rw [eh23]; exact hAt_n (cNe rfl) k_g36_h22
  have k_g37_h23 : hAt h23 (g + 37) = some (.inr (1, [.int 0, .int 0, .int 0, .int 0, .int 0])) := by rw [eh23]; exact hAt_n (cNe rfl) k_g37_h22
  have k_g38_h23 : nk h23 (g + 38) (fun _ => 0) (fun _ => 0) (fun _ _ => 0) (fun _ _ => 0) (fun _ _ => 0) := by rw [eh23]; exact nk_fr1 (cOut rfl) k_g38_h22
  have k_g53_h23 : nk h23 (g + 53) (fun _ => 0) (fun _ => 0) (fun _ _ => 0) (fun _ _ => 0) (fun _ _ => 0) := by rw [eh23]; exact nk_fr1 (cOut rfl) k_g53_h22
  have k_g33_h23 : hAt h23 (g + 33) = some (arR 2 4 (va_up (va_up (fun _ => none) 0 (some (g + 38))) 1 (some (g + 53)))) := by rw [eh23]; exact hAt_same
  have z_h23 : h23.1 = (g + 68) := by rw [eh23]; exact z_h22
  have f_h23 : ∀ q, q < g → hAt h23 q = hAt h q := fun q hq => by rw [eh23]; exact (hAt_ne (cLt hq)).trans (f_h22 q hq)
  refine x_iinc (pc := 87) (v := (2 : Int32)) (L' := [(1, .int (2 : Int32)), (0, .ref g)]) dX4_init_87 rfl (by decide) rfl rfl ?_
  refine x_goto (pc := 90) (tgt := 69) dX4_init_90 (by decide) ?_
  refine x_iload_n (pc := 69) dX4_init_69 rfl ?_
  refine x_iconst (pc := 70) (v := (4 : Int32)) dX4_init_70 (by decide) ?_
  refine x_icmp_ge (pc := 71) (tgt := 93) dX4_init_71 (by decide) (fun z => absurd z (by decide)) (fun _ => ?_)
  refine x_aload_n (pc := 74) dX4_init_74 rfl ?_
  refine x_getf (pc := 75) (v := .ref (g + 33)) dX4_init_75 xf_X4_26 k_g_h23 rfl ?_
  refine x_iload_n (pc := 78) dX4_init_78 rfl ?_
  refine x_new (pc := 79) dX4_init_79 xn_X4_16 rfl rfl ?_
  rw [z_h23]
  obtain ⟨h24, eh24⟩ : ∃ z, z = hNew h23 (.inr (0, [.null, .null, .int 0, .int 0])) := ⟨_, rfl⟩
  rw [← eh24]
  have k_g_h24 : hAt h24 g = some (.inr (4, [.ref (g + 1), .ref (g + 3), .ref (g + 18), .ref (g + 33), .int 0, .int 0, .ref (g + 34), .ref (g + 37)])) := by rw [eh24]; exact hNew_o (cZ z_h23 (cNeL rfl)) k_g_h23
  have k_g1_h24 : hAt h24 (g + 1) = some (txC (g + 2) (fun _ => 0)) := by rw [eh24]; exact hNew_o (cZ z_h23 (cNe rfl)) k_g1_h23
  have k_g2_h24 : hAt h24 (g + 2) = some (arC 240 (fun _ => 0)) := by rw [eh24]; exact hNew_o (cZ z_h23 (cNe rfl)) k_g2_h23
  have k_g3_h24 : nk h24 (g + 3) (fun _ => 0) (fun _ => 0) (fun _ _ => 0) (fun _ _ => 0) (fun _ _ => 0) := by rw [eh24]; exact nk_new (cZb z_h23 rfl) k_g3_h23
  have k_g18_h24 : nk h24 (g + 18) (fun _ => 0) (fun _ => 0) (fun _ _ => 0) (fun _ _ => 0) (fun _ _ => 0) := by rw [eh24]; exact nk_new (cZb z_h23 rfl) k_g18_h23
  have k_g33_h24 : hAt h24 (g + 33) = some (arR 2 4 (va_up (va_up (fun _ => none) 0 (some (g + 38))) 1 (some (g + 53)))) := by rw [eh24]; exact hNew_o (cZ z_h23 (cNe rfl)) k_g33_h23
  have k_g34_h24 : hAt h24 (g + 34) = some (waC (g + 35) (g + 36) (fun _ => 0)) := by rw [eh24]; exact hNew_o (cZ z_h23 (cNe rfl)) k_g34_h23
  have k_g35_h24 : hAt h24 (g + 35) = some (arI 6 (fun _ => 0)) := by rw [eh24]; exact hNew_o (cZ z_h23 (cNe rfl)) k_g35_h23
  have k_g36_h24 : hAt h24 (g + 36) = some (arI 6 (fun _ => 0)) := by rw [eh24]; exact hNew_o (cZ z_h23 (cNe rfl)) k_g36_h23
  have k_g37_h24 : hAt h24 (g + 37) = some (.inr (1, [.int 0, .int 0, .int 0, .int 0, .int 0])) := by rw [eh24]; exact hNew_o (cZ z_h23 (cNe rfl)) k_g37_h23
  have k_g38_h24 : nk h24 (g + 38) (fun _ => 0) (fun _ => 0) (fun _ _ => 0) (fun _ _ => 0) (fun _ _ => 0) := by rw [eh24]; exact nk_new (cZb z_h23 rfl) k_g38_h23
  have k_g53_h24 : nk h24 (g + 53) (fun _ => 0) (fun _ => 0) (fun _ _ => 0) (fun _ _ => 0) (fun _ _ => 0) := by rw [eh24]; exact nk_new (cZb z_h23 rfl) k_g53_h23
  have k_g68_h24 : hAt h24 (g + 68) = some (.inr (0, [.null, .null, .int 0, .int 0])) := by rw [eh24]; exact hNew_p z_h23
  have z_h24 : h24.1 = (g + 69) := by rw [eh24]; exact cZn z_h23
  have f_h24 : ∀ q, q < g → hAt h24 q = hAt h q := fun q hq => by rw [eh24]; exact (hNew_e (cZ z_h23 (cLt hq))).trans (f_h23 q hq)
  refine x_dup (pc := 82) dX4_init_82 rfl ?_
  refine x_callI (pc := 83) (As := []) (rest := [.ref (g + 68), .int (2 : Int32), .ref (g + 33)]) (mc := 14) (ms := 117) dX4_init_83 xl_X4_18 xi_X0_init rfl rfl rfl rfl rfl (C_X0_init G h24 (g + 68) k_g68_h24 z_h24) (fun v h25 hq => ?_)
  obtain ⟨ev, y_h25, w0_h25, g_h25⟩ := hq
  subst ev
  refine Wp.eqs (L' := [(1, .int (2 : Int32)), (0, .ref g)]) (st' := [.ref (g + 68), .int (2 : Int32), .ref (g + 33)]) rfl rfl ?_
  have k_g_h25 : hAt h25 g = some (.inr (4, [.ref (g + 1), .ref (g + 3), .ref (g + 18), .ref (g + 33), .int 0, .int 0, .ref (g + 34), .ref (g + 37)])) := (g_h25 g (cTo0 rfl)).trans k_g_h24
  have k_g1_h25 : hAt h25 (g + 1) = some (txC (g + 2) (fun _ => 0)) := (g_h25 (g + 1) (cTo rfl)).trans k_g1_h24
  have k_g2_h25 : hAt h25 (g + 2) = some (arC 240 (fun _ => 0)) := (g_h25 (g + 2) (cTo rfl)).trans k_g2_h24
  have k_g3_h25 : nk h25 (g + 3) (fun _ => 0) (fun _ => 0) (fun _ _ => 0) (fun _ _ => 0) (fun _ _ => 0) := nk_fr (fun q u1 u2 => g_h25 q (cIn u2 rfl)) k_g3_h24
  have k_g18_h25 : nk h25 (g + 18) (fun _ => 0) (fun _ => 0) (fun _ _ => 0) (fun _ _ => 0) (fun _ _ => 0) := nk_fr (fun q u1 u2 => g_h25 q (cIn u2 rfl)) k_g18_h24
  have k_g33_h25 : hAt h25 (g + 33) = some (arR 2 4 (va_up (va_up (fun _ => none) 0 (some (g + 38))) 1 (some (g + 53)))) := (g_h25 (g + 33) (cTo rfl)).trans k_g33_h24
  have k_g34_h25 : hAt h25 (g + 34) = some (waC (g + 35) (g + 36) (fun _ => 0)) := (g_h25 (g + 34) (cTo rfl)).trans k_g34_h24
  have k_g35_h25 : hAt h25 (g + 35) = some (arI 6 (fun _ => 0)) := (g_h25 (g + 35) (cTo rfl)).trans k_g35_h24
  have k_g36_h25 : hAt h25 (g + 36) = some (arI 6 (fun _ => 0)) := (g_h25 (g + 36) (cTo rfl)).trans k_g36_h24
  have k_g37_h25 : hAt h25 (g + 37) = some (.inr (1, [.int 0, .int 0, .int 0, .int 0, .int 0])) := (g_h25 (g + 37) (cTo rfl)).trans k_g37_h24
  have k_g38_h25 : nk h25 (g + 38) (fun _ => 0) (fun _ => 0) (fun _ _ => 0) (fun _ _ => 0) (fun _ _ => 0) := nk_fr (fun q u1 u2 => g_h25 q (cIn u2 rfl)) k_g38_h24
  have k_g53_h25 : nk h25 (g + 53) (fun _ => 0) (fun _ => 0) (fun _ _ => 0) (fun _ _ => 0) (fun _ _ => 0) := nk_fr (fun q u1 u2 => g_h25 q (cIn u2 rfl)) k_g53_h24
  have k_g68_h25 : nk h25 (g + 68) (fun _ => 0) (fun _ => 0) (fun _ _ => 0) (fun _ _ => 0) (fun _ _ => 0) := w0_h25
  have z_h25 : h25.1 = (g + 83) := y_h25
  have f_h25 : ∀ q, q < g → hAt h25 q = hAt h q := fun q hq => (g_h25 q (cToq hq)).trans (f_h24 q hq)
  refine x_aast (pc := 86) (t := 2) (e' := arR 2 4 (va_up (va_up (va_up (fun _ => none) 0 (some (g + 38))) 1 (some (g + 53))) 2 (some (g + 68)))) (ci := 0) rfl rfl dX4_init_86 k_g33_h25 (nk_nt k_g68_h25) (vp_in_nI (n := 2) (by decide) (by decide)) rfl ?_
  obtain ⟨h26, eh26⟩ : ∃ z, z = hSet h25 (g + 33) (arR 2 4 (va_up (va_up (va_up (fun _ => none) 0 (some (g + 38))) 1 (some (g + 53))) 2 (some (g + 68)))) := ⟨_, rfl⟩
  rw [← eh26]
  have k_g_h26 : hAt h26 g = some (.inr (4, [.ref (g + 1), .ref (g + 3), .ref (g + 18), .ref (g + 33), .int 0, .int 0, .ref (g + 34), .ref (g + 37)])) := by rw [eh26]; exact hAt_n (cNeL rfl) k_g_h25
  have k_g1_h26 : hAt h26 (g + 1) = some (txC (g + 2) (fun _ => 0)) := by rw [eh26]; exact hAt_n (cNe rfl) k_g1_h25
  have k_g2_h26 : hAt h26 (g + 2) = some (arC 240 (fun _ => 0)) := by rw [eh26]; exact hAt_n (cNe rfl) k_g2_h25
  have k_g3_h26 : nk h26 (g + 3) (fun _ => 0) (fun _ => 0) (fun _ _ => 0) (fun _ _ => 0) (fun _ _ => 0) := by rw [eh26]; exact nk_fr1 (cOut rfl) k_g3_h25
  have k_g18_h26 : nk h26 (g + 18) (fun _ => 0) (fun _ => 0) (fun _ _ => 0) (fun _ _ => 0) (fun _ _ => 0) := by rw [eh26]; exact nk_fr1 (cOut rfl) k_g18_h25
  have k_g34_h26 : hAt h26 (g + 34) = some (waC (g + 35) (g + 36) (fun _ => 0)) := by rw [eh26]; exact hAt_n (cNe rfl) k_g34_h25
  have k_g35_h26 : hAt h26 (g + 35) = some (arI 6 (fun _ => 0)) := by rw [eh26]; exact hAt_n (cNe rfl) k_g35_h25
  have k_g36_h26 : hAt h26 (g + 36) = some (arI 6 (fun _ => 0)) := by rw [eh26]; exact hAt_n (cNe rfl) k_g36_h25
  have k_g37_h26 : hAt h26 (g + 37) = some (.inr (1, [.int 0, .int 0, .int 0, .int 0, .int 0])) := by rw [eh26]; exact hAt_n (cNe rfl) k_g37_h25
  have k_g38_h26 : nk h26 (g + 38) (fun _ => 0) (fun _ => 0) (fun _ _ => 0) (fun _ _ => 0) (fun _ _ => 0) := by rw [eh26]; exact nk_fr1 (cOut rfl) k_g38_h25
  have k_g53_h26 : nk h26 (g + 53) (fun _ => 0) (fun _ => 0) (fun _ _ => 0) (fun _ _ => 0) (fun _ _ => 0) := by rw [eh26]; exact nk_fr1 (cOut rfl) k_g53_h25
  have k_g68_h26 : nk h26 (g + 68) (fun _ => 0) (fun _ => 0) (fun _ _ => 0) (fun _ _ => 0) (fun _ _ => 0) := by rw [eh26]; exact nk_fr1 (cOut rfl) k_g68_h25
  have k_g33_h26 : hAt h26 (g + 33) = some (arR 2 4 (va_up (va_up (va_up (fun _ => none) 0 (some (g + 38))) 1 (some (g + 53))) 2 (some (g + 68)))) := by rw [eh26]; exact hAt_same
  have z_h26 : h26.1 = (g + 83) := by rw [eh26]; exact z_h25
  have f_h26 : ∀ q, q < g → hAt h26 q = hAt h q := fun q hq => by rw [eh26]; exact (hAt_ne (cLt hq)).trans (f_h25 q hq)
  refine x_iinc (pc := 87) (v := (3 : Int32)) (L' := [(1, .int (3 : Int32)), (0, .ref g)]) dX4_init_87 rfl (by decide) rfl rfl ?_
  refine x_goto (pc := 90) (tgt := 69) dX4_init_90 (by decide) ?_
  refine x_iload_n (pc := 69) dX4_init_69 rfl ?_
  refine x_iconst (pc := 70) (v := (4 : Int32)) dX4_init_70 (by decide) ?_
  refine x_icmp_ge (pc := 71) (tgt := 93) dX4_init_71 (by decide) (fun z => absurd z (by decide)) (fun _ => ?_)
  refine x_aload_n (pc := 74) dX4_init_74 rfl ?_
  refine x_getf (pc := 75) (v := .ref (g + 33)) dX4_init_75 xf_X4_26 k_g_h26 rfl ?_
  refine x_iload_n (pc := 78) dX4_init_78 rfl ?_
  refine x_new (pc := 79) dX4_init_79 xn_X4_16 rfl rfl ?_
  rw [z_h26]
  obtain ⟨h27, eh27⟩ : ∃ z, z = hNew h26 (.inr (0, [.null, .null, .int 0, .int 0])) := ⟨_, rfl⟩
  rw [← eh27]
  have k_g_h27 : hAt h27 g = some (.inr (4, [.ref (g + 1), .ref (g + 3), .ref (g + 18), .ref (g + 33), .int 0, .int 0, .ref (g + 34), .ref (g + 37)])) := by rw [eh27]; exact hNew_o (cZ z_h26 (cNeL rfl)) k_g_h26
  have k_g1_h27 : hAt h27 (g + 1) = some (txC (g + 2) (fun _ => 0)) := by rw [eh27]; exact hNew_o (cZ z_h26 (cNe rfl)) k_g1_h26
  have k_g2_h27 : hAt h27 (g + 2) = some (arC 240 (fun _ => 0)) := by rw [eh27]; exact hNew_o (cZ z_h26 (cNe rfl)) k_g2_h26
  have k_g3_h27 : nk h27 (g + 3) (fun _ => 0) (fun _ => 0) (fun _ _ => 0) (fun _ _ => 0) (fun _ _ => 0) := by rw [eh27]; exact nk_new (cZb z_h26 rfl) k_g3_h26
  have k_g18_h27 : nk h27 (g + 18) (fun _ => 0) (fun _ => 0) (fun _ _ => 0) (fun _ _ => 0) (fun _ _ => 0) := by rw [eh27]; exact nk_new (cZb z_h26 rfl) k_g18_h26
  have k_g33_h27 : hAt h27 (g + 33) = some (arR 2 4 (va_up (va_up (va_up (fun _ => none) 0 (some (g + 38))) 1 (some (g + 53))) 2 (some (g + 68)))) := by rw [eh27]; exact hNew_o (cZ z_h26 (cNe rfl)) k_g33_h26
  have k_g34_h27 : hAt h27 (g + 34) = some (waC (g + 35) (g + 36) (fun _ => 0)) := by rw [eh27]; exact hNew_o (cZ z_h26 (cNe rfl)) k_g34_h26
  have k_g35_h27 : hAt h27 (g + 35) = some (arI 6 (fun _ => 0)) := by rw [eh27]; exact hNew_o (cZ z_h26 (cNe rfl)) k_g35_h26
  have k_g36_h27 : hAt h27 (g + 36) = some (arI 6 (fun _ => 0)) := by rw [eh27]; exact hNew_o (cZ z_h26 (cNe rfl)) k_g36_h26
  have k_g37_h27 : hAt h27 (g + 37) = some (.inr (1, [.int 0, .int 0, .int 0, .int 0, .int 0])) := by rw [eh27]; exact hNew_o (cZ z_h26 (cNe rfl)) k_g37_h26
  have k_g38_h27 : nk h27 (g + 38) (fun _ => 0) (fun _ => 0) (fun _ _ => 0) (fun _ _ => 0) (fun _ _ => 0) := by rw [eh27]; exact nk_new (cZb z_h26 rfl) k_g38_h26
  have k_g53_h27 : nk h27 (g + 53) (fun _ => 0) (fun _ => 0) (fun _ _ => 0) (fun _ _ => 0) (fun _ _ => 0) := by rw [eh27]; exact nk_new (cZb z_h26 rfl) k_g53_h26
  have k_g68_h27 : nk h27 (g + 68) (fun _ => 0) (fun _ => 0) (fun _ _ => 0) (fun _ _ => 0) (fun _ _ => 0) := by rw [eh27]; exact nk_new (cZb z_h26 rfl) k_g68_h26
  have k_g83_h27 : hAt h27 (g + 83) = some (.inr (0, [.null, .null, .int 0, .int 0])) := by rw [eh27]; exact hNew_p z_h26
  have z_h27 : h27.1 = (g + 84) := by rw [eh27]; exact cZn z_h26
  have f_h27 : ∀ q, q < g → hAt h27 q = hAt h q := fun q hq => by rw [eh27]; exact (hNew_e (cZ z_h26 (cLt hq))).trans (f_h26 q hq)
  refine x_dup (pc := 82) dX4_init_82 rfl ?_
  refine x_callI (pc := 83) (As := []) (rest := [.ref (g + 83), .int (3 : Int32), .ref (g + 33)]) (mc := 14) (ms := 117) dX4_init_83 xl_X4_18 xi_X0_init rfl rfl rfl rfl rfl (C_X0_init G h27 (g + 83) k_g83_h27 z_h27) (fun v h28 hq => ?_)
  obtain ⟨ev, y_h28, w0_h28, g_h28⟩ := hq
  subst ev
  refine Wp.eqs (L' := [(1, .int (3 : Int32)), (0, .ref g)]) (st' := [.ref (g + 83), .int (3 : Int32), .ref (g + 33)]) rfl rfl ?_
  have k_g_h28 : hAt h28 g = some (.inr (4, [.ref (g + 1), .ref (g + 3), .ref (g + 18), .ref (g + 33), .int 0, .int 0, .ref (g + 34), .ref (g + 37)])) := (g_h28 g (cTo0 rfl)).trans k_g_h27
  have k_g1_h28 : hAt h28 (g + 1) = some (txC (g + 2) (fun _ => 0)) := (g_h28 (g + 1) (cTo rfl)).trans k_g1_h27
  have k_g2_h28 : hAt h28 (g + 2) = some (arC 240 (fun _ => 0)) := (g_h28 (g + 2) (cTo rfl)).trans k_g2_h27
  have k_g3_h28 : nk h28 (g + 3) (fun _ => 0) (fun _ => 0) (fun _ _ => 0) (fun _ _ => 0) (fun _ _ => 0) := nk_fr (fun q u1 u2 => g_h28 q (cIn u2 rfl)) k_g3_h27
  have k_g18_h28 : nk h28 (g + 18) (fun _ => 0) (fun _ => 0) (fun _ _ => 0) (fun _ _ => 0) (fun _ _ => 0) := nk_fr (fun q u1 u2 => g_h28 q (cIn u2 rfl)) k_g18_h27
  have k_g33_h28 : hAt h28 (g + 33) = some (arR 2 4 (va_up (va_up (va_up (fun _ => none) 0 (some (g + 38))) 1 (some (g + 53))) 2 (some (g + 68)))) := (g_h28 (g + 33) (cTo rfl)).trans k_g33_h27
  have k_g34_h28 : hAt h28 (g + 34) = some (waC (g + 35) (g + 36) (fun _ => 0)) := (g_h28 (g + 34) (cTo rfl)).trans k_g34_h27
  have k_g35_h28 : hAt h28 (g + 35) = some (arI 6 (fun _ => 0)) := (g_h28 (g + 35) (cTo rfl)).trans k_g35_h27
  have k_g36_h28 : hAt h28 (g + 36) = some (arI 6 (fun _ => 0)) := (g_h28 (g + 36) (cTo rfl)).trans k_g36_h27
  have k_g37_h28 : hAt h28 (g + 37) = some (.inr (1, [.int 0, .int 0, .int 0, .int 0, .int 0])) := (g_h28 (g + 37) (cTo rfl)).trans k_g37_h27
  have k_g38_h28 : nk h28 (g + 38) (fun _ => 0) (fun _ => 0) (fun _ _ => 0) (fun _ _ => 0) (fun _ _ => 0) := nk_fr (fun q u1 u2 => g_h28 q (cIn u2 rfl)) k_g38_h27
  have k_g53_h28 : nk h28 (g + 53) (fun _ => 0) (fun _ => 0) (fun _ _ => 0) (fun _ _ => 0) (fun _ _ => 0) := nk_fr (fun q u1 u2 => g_h28 q (cIn u2 rfl)) k_g53_h27
  have k_g68_h28 : nk h28 (g + 68) (fun _ => 0) (fun _ => 0) (fun _ _ => 0) (fun _ _ => 0) (fun _ _ => 0) := nk_fr (fun q u1 u2 => g_h28 q (cIn u2 rfl)) k_g68_h27
  have k_g83_h28 : nk h28 (g + 83) (fun _ => 0) (fun _ => 0) (fun _ _ => 0) (fun _ _ => 0) (fun _ _ => 0) := w0_h28
  have z_h28 : h28.1 = (g + 98) := y_h28
  have f_h28 : ∀ q, q < g → hAt h28 q = hAt h q := fun q hq => (g_h28 q (cToq hq)).trans (f_h27 q hq)
  refine x_aast (pc := 86) (t := 2) (e' := arR 2 4 (va_up (va_up (va_up (va_up (fun _ => none) 0 (some (g + 38))) 1 (some (g + 53))) 2 (some (g + 68))) 3 (some (g + 83)))) (ci := 0) rfl rfl dX4_init_86 k_g33_h28 (nk_nt k_g83_h28) (vp_in_nI (n := 3) (by decide) (by decide)) rfl ?_
  obtain ⟨h29, eh29⟩ : ∃ z, z = hSet h28 (g + 33) (arR 2 4 (va_up (va_up (va_up (va_up (fun _ => none) 0 (some (g + 38))) 1 (some (g + 53))) 2 (some (g + 68))) 3 (some (g + 83)))) := ⟨_, rfl⟩
  rw [← eh29]
  have k_g_h29 : hAt h29 g = some (.inr (4, [.ref (g + 1), .ref (g + 3), .ref (g + 18), .ref (g + 33), .int 0, .int 0, .ref (g + 34), .ref (g + 37)])) := by rw [eh29]; exact hAt_n (cNeL rfl) k_g_h28
  have k_g1_h29 : hAt h29 (g + 1) = some (txC (g + 2) (fun _ => 0)) := by rw [eh29]; exact hAt_n (cNe rfl) k_g1_h28
  have k_g2_h29 : hAt h29 (g + 2) = some (arC 240 (fun _ => 0)) := by rw [eh29]; exact hAt_n (cNe rfl) k_g2_h28
  have k_g3_h29 : nk h29 (g + 3) (fun _ => 0) (fun _ => 0) (fun _ _ => 0) (fun _ _ => 0) (fun _ _ => 0) := by rw [eh29]; exact nk_fr1 (cOut rfl) k_g3_h28
  have k_g18_h29 : nk h29 (g + 18) (fun _ => 0) (fun _ => 0) (fun _ _ => 0) (fun _ _ => 0) (fun _ _ => 0) := by rw [eh29]; exact nk_fr1 (cOut rfl) k_g18_h28
  have k_g34_h29 : hAt h29 (g + 34) = some (waC (g + 35) (g + 36) (fun _ => 0)) := by rw [eh29]; exact hAt_n (cNe rfl) k_g34_h28
  have k_g35_h29 : hAt h29 (g + 35) = some (arI 6 (fun _ => 0)) := by rw [eh29]; exact hAt_n (cNe rfl) k_g35_h28
  have k_g36_h29 : hAt h29 (g + 36) = some (arI 6 (fun _ => 0)) := by rw [eh29]; exact hAt_n (cNe rfl) k_g36_h28
  have k_g37_h29 : hAt h29 (g + 37) = some (.inr (1, [.int 0, .int 0, .int 0, .int 0, .int 0])) := by rw [eh29]; exact hAt_n (cNe rfl) k_g37_h28
  have k_g38_h29 : nk h29 (g + 38) (fun _ => 0) (fun _ => 0) (fun _ _ => 0) (fun _ _ => 0) (fun _ _ => 0) := by rw [eh29]; exact nk_fr1 (cOut rfl) k_g38_h28
  have k_g53_h29 : nk h29 (g + 53) (fun _ => 0) (fun _ => 0) (fun _ _ => 0) (fun _ _ => 0) (fun _ _ => 0) := by rw [eh29]; exact nk_fr1 (cOut rfl) k_g53_h28
  have k_g68_h29 : nk h29 (g + 68) (fun _ => 0) (fun _ => 0) (fun _ _ => 0) (fun _ _ => 0) (fun _ _ => 0) := by rw [eh29]; exact nk_fr1 (cOut rfl) k_g68_h28
  have k_g83_h29 : nk h29 (g + 83) (fun _ => 0) (fun _ => 0) (fun _ _ => 0) (fun _ _ => 0) (fun _ _ => 0) := by rw [eh29]; exact nk_fr1 (cOut rfl) k_g83_h28
  have k_g33_h29 : hAt h29 (g + 33) = some (arR 2 4 (va_up (va_up (va_up (va_up (fun _ => none) 0 (some (g + 38))) 1 (some (g + 53))) 2 (some (g + 68))) 3 (some (g + 83)))) := by rw [eh29]; exact hAt_same
  have z_h29 : h29.1 = (g + 98) := by rw [eh29]; exact z_h28
  have f_h29 : ∀ q, q < g → hAt h29 q = hAt h q := fun q hq => by rw [eh29]; exact (hAt_ne (cLt hq)).trans (f_h28 q hq)
  refine x_iinc (pc := 87) (v := (4 : Int32)) (L' := [(1, .int (4 : Int32)), (0, .ref g)]) dX4_init_87 rfl (by decide) rfl rfl ?_
  refine x_goto (pc := 90) (tgt := 69) dX4_init_90 (by decide) ?_
  refine x_iload_n (pc := 69) dX4_init_69 rfl ?_
  refine x_iconst (pc := 70) (v := (4 : Int32)) dX4_init_70 (by decide) ?_
  refine x_icmp_ge (pc := 71) (tgt := 93) dX4_init_71 (by decide) (fun _ => ?_) (fun z => absurd (by decide) z)
  refine x_arrEq (a := g + 33) (t := 2) (n := 4) (g := fun j => some ((g + 38) + 15 * j)) k_g33_h29 (fun j hj => ?_) ?_
  · match j, hj with
    | 0, _ => rfl
    | 1, _ => exact congrArg some (Nat.add_assoc g 38 15).symm
    | 2, _ => exact congrArg some (Nat.add_assoc g 38 30).symm
    | 3, _ => exact congrArg some (Nat.add_assoc g 38 45).symm
    | j + 4, hj => exact absurd hj (by omega)
  obtain ⟨h30, eh30⟩ : ∃ z, z = hSet h29 (g + 33) (arR 2 4 (fun j => some ((g + 38) + 15 * j))) := ⟨_, rfl⟩
  rw [← eh30]
  have k_g_h30 : hAt h30 g = some (.inr (4, [.ref (g + 1), .ref (g + 3), .ref (g + 18), .ref (g + 33), .int 0, .int 0, .ref (g + 34), .ref (g + 37)])) := by rw [eh30]; exact hAt_n (cNeL rfl) k_g_h29
  have k_g1_h30 : hAt h30 (g + 1) = some (txC (g + 2) (fun _ => 0)) := by rw [eh30]; exact hAt_n (cNe rfl) k_g1_h29
  have k_g2_h30 : hAt h30 (g + 2) = some (arC 240 (fun _ => 0)) := by rw [eh30]; exact hAt_n (cNe rfl) k_g2_h29
  have k_g3_h30 : nk h30 (g + 3) (fun _ => 0) (fun _ => 0) (fun _ _ => 0) (fun _ _ => 0) (fun _ _ => 0) := by rw [eh30]; exact nk_fr1 (cOut rfl) k_g3_h29
  have k_g18_h30 : nk h30 (g + 18) (fun _ => 0) (fun _ => 0) (fun _ _ => 0) (fun _ _ => 0) (fun _ _ => 0) := by rw [eh30]; exact nk_fr1 (cOut rfl) k_g18_h29
  have k_g34_h30 : hAt h30 (g + 34) = some (waC (g + 35) (g + 36) (fun _ => 0)) := by rw [eh30]; exact hAt_n (cNe rfl) k_g34_h29
  have k_g35_h30 : hAt h30 (g + 35) = some (arI 6 (fun _ => 0)) := by rw [eh30]; exact hAt_n (cNe rfl) k_g35_h29
  have k_g36_h30 : hAt h30 (g + 36) = some (arI 6 (fun _ => 0)) := by rw [eh30]; exact hAt_n (cNe rfl) k_g36_h29
  have k_g37_h30 : hAt h30 (g + 37) = some (.inr (1, [.int 0, .int 0, .int 0, .int 0, .int 0])) := by rw [eh30]; exact hAt_n (cNe rfl) k_g37_h29
  have k_g38_h30 : nk h30 (g + 38) (fun _ => 0) (fun _ => 0) (fun _ _ => 0) (fun _ _ => 0) (fun _ _ => 0) := by rw [eh30]; exact nk_fr1 (cOut rfl) k_g38_h29
  have k_g53_h30 : nk h30 (g + 53) (fun _ => 0) (fun _ => 0) (fun _ _ => 0) (fun _ _ => 0) (fun _ _ => 0) := by rw [eh30]; exact nk_fr1 (cOut rfl) k_g53_h29
  have k_g68_h30 : nk h30 (g + 68) (fun _ => 0) (fun _ => 0) (fun _ _ => 0) (fun _ _ => 0) (fun _ _ => 0) := by rw [eh30]; exact nk_fr1 (cOut rfl) k_g68_h29
  have k_g83_h30 : nk h30 (g + 83) (fun _ => 0) (fun _ => 0) (fun _ _ => 0) (fun _ _ => 0) (fun _ _ => 0) := by rw [eh30]; exact nk_fr1 (cOut rfl) k_g83_h29
  have k_g33_h30 : hAt h30 (g + 33) = some (arR 2 4 (fun j => some ((g + 38) + 15 * j))) := by rw [eh30]; exact hAt_same
  have z_h30 : h30.1 = (g + 98) := by rw [eh30]; exact z_h29
  have f_h30 : ∀ q, q < g → hAt h30 q = hAt h q := fun q hq => by rw [eh30]; exact (hAt_ne (cLt hq)).trans (f_h29 q hq)
  have kE : ek h30 (g + 38) (fun _ _ => 0) (fun _ _ => 0) (fun _ _ _ => 0) (fun _ _ _ => 0) (fun _ _ _ => 0) := fun j hj => match j, hj with
    | 0, _ => k_g38_h30
    | 1, _ => k_g53_h30
    | 2, _ => k_g68_h30
    | 3, _ => k_g83_h30
    | j + 4, hj => absurd hj (by omega)
  refine Wp.mono ?_ (T_X4_init G h30 g (fun _ => 0) (fun _ => 0) (fun _ => 0) (fun _ => 0) (fun _ => 0) (fun _ _ => 0) (fun _ _ => 0) (fun _ _ => 0) (fun _ => 0) (fun _ => 0) (fun _ _ => 0) (fun _ _ => 0) (fun _ _ => 0) k_g_h30 k_g1_h30 k_g2_h30 k_g3_h30 k_g18_h30 hp)
  rintro v h' ⟨ev, m0, m1, m2, m3, ff⟩
  exact ⟨ev, ff.1.trans z_h30, (ff.2 g (o4_g g)).trans k_g_h30, m0, m1, m2, m3, (ff.2 (g + 33) (o4_g33 g)).trans k_g33_h30, ek_fr (fun q u1 u2 => ff.2 q (o4_E g q u1 u2)) kE, (ff.2 (g + 34) (o4_g34 g)).trans k_g34_h30, (ff.2 (g + 35) (o4_g35 g)).trans k_g35_h30, (ff.2 (g + 36) (o4_g36 g)).trans k_g36_h30, (ff.2 (g + 37) (o4_g37 g)).trans k_g37_h30, fun q hq => (ff.2 q (o4_f g q hq)).trans (f_h30 q hq)⟩

def f_X5_init (m : (Nat → Int32)) (tn : (Nat → Int32)) (tr : (Nat → Int32)) : (Nat → Int32) × (Nat → Int32) × (Nat → Int32) := ((f_X5_takes m tn (f_X5_addsHop m (f_X5_addsWay m (upd (f_X5_addsHop m (f_X5_addsHop m (f_X5_addsWay m (f_X5_addsHop m (f_X5_addsHop m (f_X5_addsWay m (f_X5_begins m tr)).2 (700 : Int32) (0 : Int32)).2 (333 : Int32) (3 : Int32)).2).2 (500 : Int32) (1 : Int32)).2 (900 : Int32) (0 : Int32)).2 ((f_X5_at (1 : Int32) (10 : Int32)).toNatClampNeg) (10 : Int32))).2 (640 : Int32) (2 : Int32)).2).1, (f_X5_takes m tn (f_X5_addsHop m (f_X5_addsWay m (upd (f_X5_addsHop m (f_X5_addsHop m (f_X5_addsWay m (f_X5_addsHop m (f_X5_addsHop m (f_X5_addsWay m (f_X5_begins m tr)).2 (700 : Int32) (0 : Int32)).2 (333 : Int32) (3 : Int32)).2).2 (500 : Int32) (1 : Int32)).2 (900 : Int32) (0 : Int32)).2 ((f_X5_at (1 : Int32) (10 : Int32)).toNatClampNeg) (10 : Int32))).2 (640 : Int32) (2 : Int32)).2).2.1, (f_X5_takes m tn (f_X5_addsHop m (f_X5_addsWay m (upd (f_X5_addsHop m (f_X5_addsHop m (f_X5_addsWay m (f_X5_addsHop m (f_X5_addsHop m (f_X5_addsWay m (f_X5_begins m tr)).2 (700 : Int32) (0 : Int32)).2 (333 : Int32) (3 : Int32)).2).2 (500 : Int32) (1 : Int32)).2 (900 : Int32) (0 : Int32)).2 ((f_X5_at (1 : Int32) (10 : Int32)).toNatClampNeg) (10 : Int32))).2 (640 : Int32) (2 : Int32)).2).2.2)
def p_X5_init (m : (Nat → Int32)) (tn : (Nat → Int32)) (tr : (Nat → Int32)) : Prop := (p_X5_begins m tr ∧ (p_X5_addsHop m (f_X5_addsWay m (f_X5_begins m tr)).2 (700 : Int32) (0 : Int32) ∧ (p_X5_addsHop m (f_X5_addsHop m (f_X5_addsWay m (f_X5_begins m tr)).2 (700 : Int32) (0 : Int32)).2 (333 : Int32) (3 : Int32) ∧ (p_X5_addsHop m (f_X5_addsWay m (f_X5_addsHop m (f_X5_addsHop m (f_X5_addsWay m (f_X5_begins m tr)).2 (700 : Int32) (0 : Int32)).2 (333 : Int32) (3 : Int32)).2).2 (500 : Int32) (1 : Int32) ∧ (p_X5_addsHop m (f_X5_addsHop m (f_X5_addsWay m (f_X5_addsHop m (f_X5_addsHop m (f_X5_addsWay m (f_X5_begins m tr)).2 (700 : Int32) (0 : Int32)).2 (333 : Int32) (3 : Int32)).2).2 (500 : Int32) (1 : Int32)).2 (900 : Int32) (0 : Int32) ∧ (vp_in (f_X5_at (1 : Int32) (10 : Int32)) 103 ∧ (p_X5_addsHop m (f_X5_addsWay m (upd (f_X5_addsHop m (f_X5_addsHop m (f_X5_addsWay m (f_X5_addsHop m (f_X5_addsHop m (f_X5_addsWay m (f_X5_begins m tr)).2 (700 : Int32) (0 : Int32)).2 (333 : Int32) (3 : Int32)).2).2 (500 : Int32) (1 : Int32)).2 (900 : Int32) (0 : Int32)).2 ((f_X5_at (1 : Int32) (10 : Int32)).toNatClampNeg) (10 : Int32))).2 (640 : Int32) (2 : Int32) ∧ (p_X5_takes m tn (f_X5_addsHop m (f_X5_addsWay m (upd (f_X5_addsHop m (f_X5_addsHop m (f_X5_addsWay m (f_X5_addsHop m (f_X5_addsHop m (f_X5_addsWay m (f_X5_begins m tr)).2 (700 : Int32) (0 : Int32)).2 (333 : Int32) (3 : Int32)).2).2 (500 : Int32) (1 : Int32)).2 (900 : Int32) (0 : Int32)).2 ((f_X5_at (1 : Int32) (10 : Int32)).toNatClampNeg) (10 : Int32))).2 (640 : Int32) (2 : Int32)).2 ∧ True))))))))
set_option maxRecDepth 100000 in
set_option maxHeartbeats 4000000 in
theorem T_X5_init (G : xG) (h : xH) (o : Nat) (m : (Nat → Int32)) (tn : (Nat → Int32)) (tr : (Nat → Int32)) (k_o : hAt h o = some (moC (o + 1) (o + 2) (o + 3) (o + 4) (o + 5) m)) (k_o1 : hAt h (o + 1) = some (arI 103 tn)) (k_o2 : hAt h (o + 2) = some (arI 103 tr)) (hp : p_X5_init m tn tr) : Wp G yX5_init.cls cX5_init 1 yX5_init.name none (xR 2 5 961) (xZm G 5 961 (fun v' h' => v' = none ∧ (hAt h' o = some (moC (o + 1) (o + 2) (o + 3) (o + 4) (o + 5) (f_X5_init m tn tr).1)) ∧ (hAt h' (o + 1) = some (arI 103 (f_X5_init m tn tr).2.1)) ∧ (hAt h' (o + 2) = some (arI 103 (f_X5_init m tn tr).2.2)) ∧ fr (fun q => q = o ∨ q = (o + 1) ∨ q = (o + 2)) h h')) 5 961 46 [(0, .ref o)] [] h := by
  have u_0_1 : o ≠ (o + 1) := hne_k k_o k_o1 rfl
  have u_0_2 : o ≠ (o + 2) := hne_k k_o k_o2 rfl
  obtain ⟨R, er⟩ : ∃ R, f_X5_init m tn tr = R := ⟨_, rfl⟩
  rw [er]
  unfold f_X5_init at er
  unfold p_X5_init at hp
  refine x_aload_n (pc := 46) dX5_init_46 rfl ?_
  obtain ⟨q47, hp⟩ := hp
  refine x_cV0v (pc := 47) dX5_init_47 xl_X5_25 xv_X5_begins k_o rfl (C_X5_begins G _ o (o + 1) (o + 2) (o + 3) (o + 4) (o + 5) m tr k_o k_o2 q47) rfl rfl rfl ?_
  obtain ⟨F1, eF1⟩ : ∃ F, f_X5_begins m tr = F := ⟨_, rfl⟩
  rw [eF1]
  try rw [eF1] at er
  try rw [eF1] at hp
  obtain ⟨h1, eh1⟩ : ∃ z, z = hSet h (o + 2) (arI 103 F1) := ⟨_, rfl⟩
  rw [← eh1]
  have k_o_h1 : hAt h1 o = some (moC (o + 1) (o + 2) (o + 3) (o + 4) (o + 5) m) := by rw [eh1]; exact hAt_n (by omega) k_o
  have k_o1_h1 : hAt h1 (o + 1) = some (arI 103 tn) := by rw [eh1]; exact hAt_n (by omega) k_o1
  have k_o2_h1 : hAt h1 (o + 2) = some (arI 103 F1) := by rw [eh1]; exact hAt_same
  have f_h1 : fr (fun q => q = o ∨ q = (o + 1) ∨ q = (o + 2)) h h1 := by rw [eh1]; exact fr_set fr_refl (show (o + 2) = o ∨ (o + 2) = (o + 1) ∨ (o + 2) = (o + 2) by omega)
  refine x_aload_n (pc := 50) dX5_init_50 rfl ?_
  refine x_cV0i (pc := 51) dX5_init_51 xl_X5_28 xv_X5_addsWay k_o_h1 rfl (C_X5_addsWay G _ o (o + 1) (o + 2) (o + 3) (o + 4) (o + 5) m F1 k_o_h1 k_o2_h1) rfl rfl rfl ?_
  obtain ⟨F2, eF2⟩ : ∃ F, f_X5_addsWay m F1 = F := ⟨_, rfl⟩
  rw [eF2]
  try rw [eF2] at er
  try rw [eF2] at hp
  have bF2_1 : xB F2.1 := by rw [← eF2]; exact (B_X5_addsWay _ _)
  obtain ⟨h2, eh2⟩ : ∃ z, z = hSet h1 (o + 2) (arI 103 F2.2) := ⟨_, rfl⟩
  rw [← eh2]
  have k_o_h2 : hAt h2 o = some (moC (o + 1) (o + 2) (o + 3) (o + 4) (o + 5) m) := by rw [eh2]; exact hAt_n (by omega) k_o_h1
  have k_o1_h2 : hAt h2 (o + 1) = some (arI 103 tn) := by rw [eh2]; exact hAt_n (by omega) k_o1_h1
  have k_o2_h2 : hAt h2 (o + 2) = some (arI 103 F2.2) := by rw [eh2]; exact hAt_same
  have f_h2 : fr (fun q => q = o ∨ q = (o + 1) ∨ q = (o + 2)) h h2 := by rw [eh2]; exact fr_set f_h1 (show (o + 2) = o ∨ (o + 2) = (o + 1) ∨ (o + 2) = (o + 2) by omega)
  refine x_pop (pc := 54) dX5_init_54 rfl ?_
  refine x_aload_n (pc := 55) dX5_init_55 rfl ?_
  refine x_sipush (pc := 56) (v := (700 : Int32)) dX5_init_56 (by decide) ?_
  refine x_iconst (pc := 59) (v := (0 : Int32)) dX5_init_59 (by decide) ?_
  obtain ⟨q60, hp⟩ := hp
  refine x_cV2i (pc := 60) dX5_init_60 xl_X5_32 xv_X5_addsHop k_o_h2 rfl (C_X5_addsHop G _ o (o + 1) (o + 2) (o + 3) (o + 4) (o + 5) m F2.2 (700 : Int32) (0 : Int32) k_o_h2 k_o2_h2 q60) rfl rfl rfl ?_
  obtain ⟨F3, eF3⟩ : ∃ F, f_X5_addsHop m F2.2 (700 : Int32) (0 : Int32) = F := ⟨_, rfl⟩
  rw [eF3]
  try rw [eF3] at er
  try rw [eF3] at hp
  have bF3_1 : xB F3.1 := by rw [← eF3]; exact (B_X5_addsHop _ _ _ _)
  obtain ⟨h3, eh3⟩ : ∃ z, z = hSet h2 (o + 2) (arI 103 F3.2) := ⟨_, rfl⟩
  rw [← eh3]
  have k_o_h3 : hAt h3 o = some (moC (o + 1) (o + 2) (o + 3) (o + 4) (o + 5) m) := by rw [eh3]; exact hAt_n (by omega) k_o_h2
  have k_o1_h3 : hAt h3 (o + 1) = some (arI 103 tn) := by rw [eh3]; exact hAt_n (by omega) k_o1_h2
  have k_o2_h3 : hAt h3 (o + 2) = some (arI 103 F3.2) := by rw [eh3]; exact hAt_same
  have f_h3 : fr (fun q => q = o ∨ q = (o + 1) ∨ q = (o + 2)) h h3 := by rw [eh3]; exact fr_set f_h2 (show (o + 2) = o ∨ (o + 2) = (o + 1) ∨ (o + 2) = (o + 2) by omega)
  refine x_pop (pc := 63) dX5_init_63 rfl ?_
  refine x_aload_n (pc := 64) dX5_init_64 rfl ?_
  refine x_sipush (pc := 65) (v := (333 : Int32)) dX5_init_65 (by decide) ?_
  refine x_iconst (pc := 68) (v := (3 : Int32)) dX5_init_68 (by decide) ?_
  obtain ⟨q69, hp⟩ := hp
  refine x_cV2i (pc := 69) dX5_init_69 xl_X5_32 xv_X5_addsHop k_o_h3 rfl (C_X5_addsHop G _ o (o + 1) (o + 2) (o + 3) (o + 4) (o + 5) m F3.2 (333 : Int32) (3 : Int32) k_o_h3 k_o2_h3 q69) rfl rfl rfl ?_
  obtain ⟨F4, eF4⟩ : ∃ F, f_X5_addsHop m F3.2 (333 : Int32) (3 : Int32) = F := ⟨_, rfl⟩
  rw [eF4]
  try rw [eF4] at er
  try rw [eF4] at hp
  have bF4_1 : xB F4.1 := by rw [← eF4]; exact (B_X5_addsHop _ _ _ _)
  obtain ⟨h4, eh4⟩ : ∃ z, z = hSet h3 (o + 2) (arI 103 F4.2) := ⟨_, rfl⟩
  rw [← eh4]
  have k_o_h4 : hAt h4 o = some (moC (o + 1) (o + 2) (o + 3) (o + 4) (o + 5) m) := by rw [eh4]; exact hAt_n (by omega) k_o_h3
  have k_o1_h4 : hAt h4 (o + 1) = some (arI 103 tn) := by rw [eh4]; exact hAt_n (by omega) k_o1_h3
  have k_o2_h4 : hAt h4 (o + 2) = some (arI 103 F4.2) := by rw [eh4]; exact hAt_same
  have f_h4 : fr (fun q => q = o ∨ q = (o + 1) ∨ q = (o + 2)) h h4 := by rw [eh4]; exact fr_set f_h3 (show (o + 2) = o ∨ (o + 2) = (o + 1) ∨ (o + 2) = (o + 2) by omega)
  refine x_pop (pc := 72) dX5_init_72 rfl ?_
  refine x_aload_n (pc := 73) dX5_init_73 rfl ?_
  refine x_cV0i (pc := 74) dX5_init_74 xl_X5_28 xv_X5_addsWay k_o_h4 rfl (C_X5_addsWay G _ o (o + 1) (o + 2) (o + 3) (o + 4) (o + 5) m F4.2 k_o_h4 k_o2_h4) rfl rfl rfl ?_
  obtain ⟨F5, eF5⟩ : ∃ F, f_X5_addsWay m F4.2 = F := ⟨_, rfl⟩
  rw [eF5]
  try rw [eF5] at er
  try rw [eF5] at hp
  have bF5_1 : xB F5.1 := by rw [← eF5]; exact (B_X5_addsWay _ _)
  obtain ⟨h5, eh5⟩ : ∃ z, z = hSet h4 (o + 2) (arI 103 F5.2) := ⟨_, rfl⟩
  rw [← eh5]
  have k_o_h5 : hAt h5 o = some (moC (o + 1) (o + 2) (o + 3) (o + 4) (o + 5) m) := by rw [eh5]; exact hAt_n (by omega) k_o_h4
  have k_o1_h5 : hAt h5 (o + 1) = some (arI 103 tn) := by rw [eh5]; exact hAt_n (by omega) k_o1_h4
  have k_o2_h5 : hAt h5 (o + 2) = some (arI 103 F5.2) := by rw [eh5]; exact hAt_same
  have f_h5 : fr (fun q => q = o ∨ q = (o + 1) ∨ q = (o + 2)) h h5 := by rw [eh5]; exact fr_set f_h4 (show (o + 2) = o ∨ (o + 2) = (o + 1) ∨ (o + 2) = (o + 2) by omega)
  refine x_pop (pc := 77) dX5_init_77 rfl ?_
  refine x_aload_n (pc := 78) dX5_init_78 rfl ?_
  refine x_sipush (pc := 79) (v := (500 : Int32)) dX5_init_79 (by decide) ?_
  refine x_iconst (pc := 82) (v := (1 : Int32)) dX5_init_82 (by decide) ?_
  obtain ⟨q83, hp⟩ := hp
  refine x_cV2i (pc := 83) dX5_init_83 xl_X5_32 xv_X5_addsHop k_o_h5 rfl (C_X5_addsHop G _ o (o + 1) (o + 2) (o + 3) (o + 4) (o + 5) m F5.2 (500 : Int32) (1 : Int32) k_o_h5 k_o2_h5 q83) rfl rfl rfl ?_
  obtain ⟨F6, eF6⟩ : ∃ F, f_X5_addsHop m F5.2 (500 : Int32) (1 : Int32) = F := ⟨_, rfl⟩
  rw [eF6]
  try rw [eF6] at er
  try rw [eF6] at hp
  have bF6_1 : xB F6.1 := by rw [← eF6]; exact (B_X5_addsHop _ _ _ _)
  obtain ⟨h6, eh6⟩ : ∃ z, z = hSet h5 (o + 2) (arI 103 F6.2) := ⟨_, rfl⟩
  rw [← eh6]
  have k_o_h6 : hAt h6 o = some (moC (o + 1) (o + 2) (o + 3) (o + 4) (o + 5) m) := by rw [eh6]; exact hAt_n (by omega) k_o_h5
  have k_o1_h6 : hAt h6 (o + 1) = some (arI 103 tn) := by rw [eh6]; exact hAt_n (by omega) k_o1_h5
  have k_o2_h6 : hAt h6 (o + 2) = some (arI 103 F6.2) := by rw [eh6]; exact hAt_same
  have f_h6 : fr (fun q => q = o ∨ q = (o + 1) ∨ q = (o + 2)) h h6 := by rw [eh6]; exact fr_set f_h5 (show (o + 2) = o ∨ (o + 2) = (o + 1) ∨ (o + 2) = (o + 2) by omega)
  refine x_pop (pc := 86) dX5_init_86 rfl ?_
  refine x_aload_n (pc := 87) dX5_init_87 rfl ?_
  refine x_sipush (pc := 88) (v := (900 : Int32)) dX5_init_88 (by decide) ?_
  refine x_iconst (pc := 91) (v := (0 : Int32)) dX5_init_91 (by decide) ?_
  obtain ⟨q92, hp⟩ := hp
  refine x_cV2i (pc := 92) dX5_init_92 xl_X5_32 xv_X5_addsHop k_o_h6 rfl (C_X5_addsHop G _ o (o + 1) (o + 2) (o + 3) (o + 4) (o + 5) m F6.2 (900 : Int32) (0 : Int32) k_o_h6 k_o2_h6 q92) rfl rfl rfl ?_
  obtain ⟨F7, eF7⟩ : ∃ F, f_X5_addsHop m F6.2 (900 : Int32) (0 : Int32) = F := ⟨_, rfl⟩
  rw [eF7]
  try rw [eF7] at er
  try rw [eF7] at hp
  have bF7_1 : xB F7.1 := by rw [← eF7]; exact (B_X5_addsHop _ _ _ _)
  obtain ⟨h7, eh7⟩ : ∃ z, z = hSet h6 (o + 2) (arI 103 F7.2) := ⟨_, rfl⟩
  rw [← eh7]
  have k_o_h7 : hAt h7 o = some (moC (o + 1) (o + 2) (o + 3) (o + 4) (o + 5) m) := by rw [eh7]; exact hAt_n (by omega) k_o_h6
  have k_o1_h7 : hAt h7 (o + 1) = some (arI 103 tn) := by rw [eh7]; exact hAt_n (by omega) k_o1_h6
  have k_o2_h7 : hAt h7 (o + 2) = some (arI 103 F7.2) := by rw [eh7]; exact hAt_same
  have f_h7 : fr (fun q => q = o ∨ q = (o + 1) ∨ q = (o + 2)) h h7 := by rw [eh7]; exact fr_set f_h6 (show (o + 2) = o ∨ (o + 2) = (o + 1) ∨ (o + 2) = (o + 2) by omega)
  refine x_pop (pc := 95) dX5_init_95 rfl ?_
  refine x_aload_n (pc := 96) dX5_init_96 rfl ?_
  refine x_getf (pc := 97) (v := .ref (o + 2)) dX5_init_97 xf_X5_13 k_o_h7 rfl ?_
  refine x_iconst (pc := 100) (v := (1 : Int32)) dX5_init_100 (by decide) ?_
  refine x_bipush (pc := 101) (v := (10 : Int32)) dX5_init_101 (by decide) ?_
  refine x_cS2i (pc := 103) dX5_init_103 xl_X5_36 xs_X5_at (C_X5_at G _ (1 : Int32) (10 : Int32)) rfl rfl rfl ?_
  obtain ⟨F8, eF8⟩ : ∃ F, f_X5_at (1 : Int32) (10 : Int32) = F := ⟨_, rfl⟩
  rw [eF8]
  try rw [eF8] at er
  try rw [eF8] at hp
  refine x_bipush (pc := 106) (v := (10 : Int32)) dX5_init_106 (by decide) ?_
  obtain ⟨q108, hp⟩ := hp
  refine x_iast (pc := 108) (e' := arI 103 (upd F7.2 (F8.toNatClampNeg) (10 : Int32))) dX5_init_108 k_o2_h7 q108 (j := (F8.toNatClampNeg)) rfl rfl ?_
  obtain ⟨h8, eh8⟩ : ∃ z, z = hSet h7 (o + 2) (arI 103 (upd F7.2 (F8.toNatClampNeg) (10 : Int32))) := ⟨_, rfl⟩
  rw [← eh8]
  have k_o_h8 : hAt h8 o = some (moC (o + 1) (o + 2) (o + 3) (o + 4) (o + 5) m) := by rw [eh8]; exact hAt_n (by omega) k_o_h7
  have k_o1_h8 : hAt h8 (o + 1) = some (arI 103 tn) := by rw [eh8]; exact hAt_n (by omega) k_o1_h7
  have k_o2_h8 : hAt h8 (o + 2) = some (arI 103 (upd F7.2 (F8.toNatClampNeg) (10 : Int32))) := by rw [eh8]; exact hAt_same
  have f_h8 : fr (fun q => q = o ∨ q = (o + 1) ∨ q = (o + 2)) h h8 := by rw [eh8]; exact fr_set f_h7 (show (o + 2) = o ∨ (o + 2) = (o + 1) ∨ (o + 2) = (o + 2) by omega)
  refine x_aload_n (pc := 109) dX5_init_109 rfl ?_
  refine x_cV0i (pc := 110) dX5_init_110 xl_X5_28 xv_X5_addsWay k_o_h8 rfl (C_X5_addsWay G _ o (o + 1) (o + 2) (o + 3) (o + 4) (o + 5) m (upd F7.2 (F8.toNatClampNeg) (10 : Int32)) k_o_h8 k_o2_h8) rfl rfl rfl ?_
  obtain ⟨F9, eF9⟩ : ∃ F, f_X5_addsWay m (upd F7.2 (F8.toNatClampNeg) (10 : Int32)) = F := ⟨_, rfl⟩
  rw [eF9]
  try rw [eF9] at er
  try rw [eF9] at hp
  have bF9_1 : xB F9.1 := by rw [← eF9]; exact (B_X5_addsWay _ _)
  obtain ⟨h9, eh9⟩ : ∃ z, z = hSet h8 (o + 2) (arI 103 F9.2) := ⟨_, rfl⟩
  rw [← eh9]
  have k_o_h9 : hAt h9 o = some (moC (o + 1) (o + 2) (o + 3) (o + 4) (o + 5) m) := by rw [eh9]; exact hAt_n (by omega) k_o_h8
  have k_o1_h9 : hAt h9 (o + 1) = some (arI 103 tn) := by rw [eh9]; exact hAt_n (by omega) k_o1_h8
  have k_o2_h9 : hAt h9 (o + 2) = some (arI 103 F9.2) := by rw [eh9]; exact hAt_same
  have f_h9 : fr (fun q => q = o ∨ q = (o + 1) ∨ q = (o + 2)) h h9 := by rw [eh9]; exact fr_set f_h8 (show (o + 2) = o ∨ (o + 2) = (o + 1) ∨ (o + 2) = (o + 2) by omega)
  refine x_pop (pc := 113) dX5_init_113 rfl ?_
  refine x_aload_n (pc := 114) dX5_init_114 rfl ?_
  refine x_sipush (pc := 115) (v := (640 : Int32)) dX5_init_115 (by decide) ?_
  refine x_iconst (pc := 118) (v := (2 : Int32)) dX5_init_118 (by decide) ?_
  obtain ⟨q119, hp⟩ := hp
  refine x_cV2i (pc := 119) dX5_init_119 xl_X5_32 xv_X5_addsHop k_o_h9 rfl (C_X5_addsHop G _ o (o + 1) (o + 2) (o + 3) (o + 4) (o + 5) m F9.2 (640 : Int32) (2 : Int32) k_o_h9 k_o2_h9 q119) rfl rfl rfl ?_
  obtain ⟨F10, eF10⟩ : ∃ F, f_X5_addsHop m F9.2 (640 : Int32) (2 : Int32) = F := ⟨_, rfl⟩
  rw [eF10]
  try rw [eF10] at er
  try rw [eF10] at hp
  have bF10_1 : xB F10.1 := by rw [← eF10]; exact (B_X5_addsHop _ _ _ _)
  obtain ⟨h10, eh10⟩ : ∃ z, z = hSet h9 (o + 2) (arI 103 F10.2) := ⟨_, rfl⟩
  rw [← eh10]
  have k_o_h10 : hAt h10 o = some (moC (o + 1) (o + 2) (o + 3) (o + 4) (o + 5) m) := by rw [eh10]; exact hAt_n (by omega) k_o_h9
  have k_o1_h10 : hAt h10 (o + 1) = some (arI 103 tn) := by rw [eh10]; exact hAt_n (by omega) k_o1_h9
  have k_o2_h10 : hAt h10 (o + 2) = some (arI 103 F10.2) := by rw [eh10]; exact hAt_same
  have f_h10 : fr (fun q => q = o ∨ q = (o + 1) ∨ q = (o + 2)) h h10 := by rw [eh10]; exact fr_set f_h9 (show (o + 2) = o ∨ (o + 2) = (o + 1) ∨ (o + 2) = (o + 2) by omega)
  refine x_pop (pc := 122) dX5_init_122 rfl ?_
  refine x_aload_n (pc := 123) dX5_init_123 rfl ?_
  obtain ⟨q124, hp⟩ := hp
  refine x_cV0v (pc := 124) dX5_init_124 xl_X5_40 xv_X5_takes k_o_h10 rfl (C_X5_takes G _ o (o + 1) (o + 2) (o + 3) (o + 4) (o + 5) m tn F10.2 k_o_h10 k_o1_h10 k_o2_h10 (by omega) q124) rfl rfl rfl ?_
  obtain ⟨F11, eF11⟩ : ∃ F, f_X5_takes m tn F10.2 = F := ⟨_, rfl⟩
  rw [eF11]
  try rw [eF11] at er
  try rw [eF11] at hp
  obtain ⟨h11, eh11⟩ : ∃ z, z = hSet h10 o (moC (o + 1) (o + 2) (o + 3) (o + 4) (o + 5) F11.1) := ⟨_, rfl⟩
  rw [← eh11]
  have k_o_h11 : hAt h11 o = some (moC (o + 1) (o + 2) (o + 3) (o + 4) (o + 5) F11.1) := by rw [eh11]; exact hAt_same
  have k_o1_h11 : hAt h11 (o + 1) = some (arI 103 tn) := by rw [eh11]; exact hAt_n (by omega) k_o1_h10
  have k_o2_h11 : hAt h11 (o + 2) = some (arI 103 F10.2) := by rw [eh11]; exact hAt_n (by omega) k_o2_h10
  have f_h11 : fr (fun q => q = o ∨ q = (o + 1) ∨ q = (o + 2)) h h11 := by rw [eh11]; exact fr_set f_h10 (show o = o ∨ o = (o + 1) ∨ o = (o + 2) by omega)
  obtain ⟨h12, eh12⟩ : ∃ z, z = hSet h11 (o + 1) (arI 103 F11.2.1) := ⟨_, rfl⟩
  rw [← eh12]
  have k_o_h12 : hAt h12 o = some (moC (o + 1) (o + 2) (o + 3) (o + 4) (o + 5) F11.1) := by rw [eh12]; exact hAt_n (by omega) k_o_h11
  have k_o1_h12 : hAt h12 (o + 1) = some (arI 103 F11.2.1) := by rw [eh12]; exact hAt_same
  have k_o2_h12 : hAt h12 (o + 2) = some (arI 103 F10.2) := by rw [eh12]; exact hAt_n (by omega) k_o2_h11
  have f_h12 : fr (fun q => q = o ∨ q = (o + 1) ∨ q = (o + 2)) h h12 := by rw [eh12]; exact fr_set f_h11 (show (o + 1) = o ∨ (o + 1) = (o + 1) ∨ (o + 1) = (o + 2) by omega)
  obtain ⟨h13, eh13⟩ : ∃ z, z = hSet h12 (o + 2) (arI 103 F11.2.2) := ⟨_, rfl⟩
  rw [← eh13]
  have k_o_h13 : hAt h13 o = some (moC (o + 1) (o + 2) (o + 3) (o + 4) (o + 5) F11.1) := by rw [eh13]; exact hAt_n (by omega) k_o_h12
  have k_o1_h13 : hAt h13 (o + 1) = some (arI 103 F11.2.1) := by rw [eh13]; exact hAt_n (by omega) k_o1_h12
  have k_o2_h13 : hAt h13 (o + 2) = some (arI 103 F11.2.2) := by rw [eh13]; exact hAt_same
  have f_h13 : fr (fun q => q = o ∨ q = (o + 1) ∨ q = (o + 2)) h h13 := by rw [eh13]; exact fr_set f_h12 (show (o + 2) = o ∨ (o + 2) = (o + 1) ∨ (o + 2) = (o + 2) by omega)
  subst er
  exact x_vret (pc := 127) dX5_init_127 rfl rfl rfl ⟨rfl, k_o_h13, k_o1_h13, k_o2_h13, f_h13⟩

set_option maxRecDepth 100000 in
set_option maxHeartbeats 4000000 in
theorem C_X5_init (G : xG) (h : xH) (o : Nat) (k : hAt h o = some (.inr (5, [.null, .null, .null, .null, .int 0, .null, .int 0, .int 0, .int 0, .int 0]))) (z : h.1 = o + 1) (hp : p_X5_init (fun _ => 0) (fun _ => 0) (fun _ => 0)) : Ct G 2 5 961 yX5_init cX5_init 1 none [.ref o] h (fun v' h' => v' = none ∧ h'.1 = o + 6 ∧ (hAt h' o = some (moC (o + 1) (o + 2) (o + 3) (o + 4) (o + 5) (f_X5_init (fun _ => 0) (fun _ => 0) (fun _ => 0)).1)) ∧ (hAt h' (o + 1) = some (arI 103 (f_X5_init (fun _ => 0) (fun _ => 0) (fun _ => 0)).2.1)) ∧ (hAt h' (o + 2) = some (arI 103 (f_X5_init (fun _ => 0) (fun _ => 0) (fun _ => 0)).2.2)) ∧ (hAt h' (o + 3) = some (arI 103 (fun _ => 0))) ∧ (hAt h' (o + 4) = some (arI 412 (fun _ => 0))) ∧ (hAt h' (o + 5) = some (arI 240 (fun _ => 0))) ∧ ∀ q, q < o → hAt h' q = hAt h q) := by
  refine Ct.of (by decide) (by rfl) ?_
  refine Wp.eqs (L' := [(0, .ref o)]) (st' := []) rfl rfl ?_
  have z_h : h.1 = (o + 1) := z
  have f_h : ∀ q, q < o → hAt h q = hAt h q := fun _ _ => rfl
  have k_o_h : hAt h o = some (.inr (5, [.null, .null, .null, .null, .int 0, .null, .int 0, .int 0, .int 0, .int 0])) := k
  refine x_aload_n (pc := 0) dX5_init_0 rfl ?_
  refine x_objInit (pc := 1) dX5_init_1 xl_X5_1 rfl rfl rfl ?_
  refine x_aload_n (pc := 4) dX5_init_4 rfl ?_
  refine x_bipush (pc := 5) (v := (103 : Int32)) dX5_init_5 (by decide) ?_
  refine x_newa (pc := 7) (t := 0) (N := 103) (ty := .int) dX5_init_7 rfl rfl (fun _ z => by cases z) rfl xw_arr_int rfl rfl (by decide) rfl rfl ?_
  rw [z_h]
  obtain ⟨h1, eh1⟩ : ∃ z, z = hNew h (arI 103 (fun _ => 0)) := ⟨_, rfl⟩
  rw [← eh1]
  have k_o_h1 : hAt h1 o = some (.inr (5, [.null, .null, .null, .null, .int 0, .null, .int 0, .int 0, .int 0, .int 0])) := by rw [eh1]; exact hNew_o (cZ z_h (cNeL rfl)) k_o_h
  have k_o1_h1 : hAt h1 (o + 1) = some (arI 103 (fun _ => 0)) := by rw [eh1]; exact hNew_p z_h
  have z_h1 : h1.1 = (o + 2) := by rw [eh1]; exact cZn z_h
  have f_h1 : ∀ q, q < o → hAt h1 q = hAt h q := fun q hq => by rw [eh1]; exact (hNew_e (cZ z_h (cLt hq))).trans (f_h q hq)
  refine x_putF (pc := 9) (e' := .inr (5, [.ref (o + 1), .null, .null, .null, .int 0, .null, .int 0, .int 0, .int 0, .int 0])) dX5_init_9 xf_X5_7 rfl rfl k_o_h1 rfl rfl rfl rfl ?_
  obtain ⟨h2, eh2⟩ : ∃ z, z = hSet h1 o (.inr (5, [.ref (o + 1), .null, .null, .null, .int 0, .null, .int 0, .int 0, .int 0, .int 0])) := ⟨_, rfl⟩
  rw [← eh2]
  have k_o1_h2 : hAt h2 (o + 1) = some (arI 103 (fun _ => 0)) := by rw [eh2]; exact hAt_n (cNeR rfl) k_o1_h1
  have k_o_h2 : hAt h2 o = some (.inr (5, [.ref (o + 1), .null, .null, .null, .int 0, .null, .int 0, .int 0, .int 0, .int 0])) := by rw [eh2]; exact hAt_same
  have z_h2 : h2.1 = (o + 2) := by rw [eh2]; exact z_h1
  have f_h2 : ∀ q, q < o → hAt h2 q = hAt h q := fun q hq => by rw [eh2]; exact (hAt_ne (cLt0 hq)).trans (f_h1 q hq)
  refine x_aload_n (pc := 12) dX5_init_12 rfl ?_
  refine x_bipush (pc := 13) (v := (103 : Int32)) dX5_init_13 (by decide) ?_
  refine x_newa (pc := 15) (t := 0) (N := 103) (ty := .int) dX5_init_15 rfl rfl (fun _ z => by cases z) rfl xw_arr_int rfl rfl (by decide) rfl rfl ?_
  rw [z_h2]
  obtain ⟨h3, eh3⟩ : ∃ z, z = hNew h2 (arI 103 (fun _ => 0)) := ⟨_, rfl⟩
  rw [← eh3]
  have k_o_h3 : hAt h3 o = some (.inr (5, [.ref (o + 1), .null, .null, .null, .int 0, .null, .int 0, .int 0, .int 0, .int 0])) := by rw [eh3]; exact hNew_o (cZ z_h2 (cNeL rfl)) k_o_h2
  have k_o1_h3 : hAt h3 (o + 1) = some (arI 103 (fun _ => 0)) := by rw [eh3]; exact hNew_o (cZ z_h2 (cNe rfl)) k_o1_h2
  have k_o2_h3 : hAt h3 (o + 2) = some (arI 103 (fun _ => 0)) := by rw [eh3]; exact hNew_p z_h2
  have z_h3 : h3.1 = (o + 3) := by rw [eh3]; exact cZn z_h2
  have f_h3 : ∀ q, q < o → hAt h3 q = hAt h q := fun q hq => by rw [eh3]; exact (hNew_e (cZ z_h2 (cLt hq))).trans (f_h2 q hq)
  refine x_putF (pc := 17) (e' := .inr (5, [.ref (o + 1), .ref (o + 2), .null, .null, .int 0, .null, .int 0, .int 0, .int 0, .int 0])) dX5_init_17 xf_X5_13 rfl rfl k_o_h3 rfl rfl rfl rfl ?_
  obtain ⟨h4, eh4⟩ : ∃ z, z = hSet h3 o (.inr (5, [.ref (o + 1), .ref (o + 2), .null, .null, .int 0, .null, .int 0, .int 0, .int 0, .int 0])) := ⟨_, rfl⟩
  rw [← eh4]
  have k_o1_h4 : hAt h4 (o + 1) = some (arI 103 (fun _ => 0)) := by rw [eh4]; exact hAt_n (cNeR rfl) k_o1_h3
  have k_o2_h4 : hAt h4 (o + 2) = some (arI 103 (fun _ => 0)) := by rw [eh4]; exact hAt_n (cNeR rfl) k_o2_h3
  have k_o_h4 : hAt h4 o = some (.inr (5, [.ref (o + 1), .ref (o + 2), .null, .null, .int 0, .null, .int 0, .int 0, .int 0, .int 0])) := by rw [eh4]; exact hAt_same
  have z_h4 : h4.1 = (o + 3) := by rw [eh4]; exact z_h3
  have f_h4 : ∀ q, q < o → hAt h4 q = hAt h q := fun q hq => by rw [eh4]; exact (hAt_ne (cLt0 hq)).trans (f_h3 q hq)
  refine x_aload_n (pc := 20) dX5_init_20 rfl ?_
  refine x_bipush (pc := 21) (v := (103 : Int32)) dX5_init_21 (by decide) ?_
  refine x_newa (pc := 23) (t := 0) (N := 103) (ty := .int) dX5_init_23 rfl rfl (fun _ z => by cases z) rfl xw_arr_int rfl rfl (by decide) rfl rfl ?_
  rw [z_h4]
  obtain ⟨h5, eh5⟩ : ∃ z, z = hNew h4 (arI 103 (fun _ => 0)) := ⟨_, rfl⟩
  rw [← eh5]
  have k_o_h5 : hAt h5 o = some (.inr (5, [.ref (o + 1), .ref (o + 2), .null, .null, .int 0, .null, .int 0, .int 0, .int 0, .int 0])) := by rw [eh5]; exact hNew_o (cZ z_h4 (cNeL rfl)) k_o_h4
  have k_o1_h5 : hAt h5 (o + 1) = some (arI 103 (fun _ => 0)) := by rw [eh5]; exact hNew_o (cZ z_h4 (cNe rfl)) k_o1_h4
  have k_o2_h5 : hAt h5 (o + 2) = some (arI 103 (fun _ => 0)) := by rw [eh5]; exact hNew_o (cZ z_h4 (cNe rfl)) k_o2_h4
  have k_o3_h5 : hAt h5 (o + 3) = some (arI 103 (fun _ => 0)) := by rw [eh5]; exact hNew_p z_h4
  have z_h5 : h5.1 = (o + 4) := by rw [eh5]; exact cZn z_h4
  have f_h5 : ∀ q, q < o → hAt h5 q = hAt h q := fun q hq => by rw [eh5]; exact (hNew_e (cZ z_h4 (cLt hq))).trans (f_h4 q hq)
  refine x_putF (pc := 25) (e' := .inr (5, [.ref (o + 1), .ref (o + 2), .ref (o + 3), .null, .int 0, .null, .int 0, .int 0, .int 0, .int 0])) dX5_init_25 xf_X5_16 rfl rfl k_o_h5 rfl rfl rfl rfl ?_
  obtain ⟨h6, eh6⟩ : ∃ z, z = hSet h5 o (.inr (5, [.ref (o + 1), .ref (o + 2), .ref (o + 3), .null, .int 0, .null, .int 0, .int 0, .int 0, .int 0])) := ⟨_, rfl⟩
  rw [← eh6]
  have k_o1_h6 : hAt h6 (o + 1) = some (arI 103 (fun _ => 0)) := by rw [eh6]; exact hAt_n (cNeR rfl) k_o1_h5
  have k_o2_h6 : hAt h6 (o + 2) = some (arI 103 (fun _ => 0)) := by rw [eh6]; exact hAt_n (cNeR rfl) k_o2_h5
  have k_o3_h6 : hAt h6 (o + 3) = some (arI 103 (fun _ => 0)) := by rw [eh6]; exact hAt_n (cNeR rfl) k_o3_h5
  have k_o_h6 : hAt h6 o = some (.inr (5, [.ref (o + 1), .ref (o + 2), .ref (o + 3), .null, .int 0, .null, .int 0, .int 0, .int 0, .int 0])) := by rw [eh6]; exact hAt_same
  have z_h6 : h6.1 = (o + 4) := by rw [eh6]; exact z_h5
  have f_h6 : ∀ q, q < o → hAt h6 q = hAt h q := fun q hq => by rw [eh6]; exact (hAt_ne (cLt0 hq)).trans (f_h5 q hq)
  refine x_aload_n (pc := 28) dX5_init_28 rfl ?_
  refine x_sipush (pc := 29) (v := (412 : Int32)) dX5_init_29 (by decide) ?_
  refine x_newa (pc := 32) (t := 0) (N := 412) (ty := .int) dX5_init_32 rfl rfl (fun _ z => by cases z) rfl xw_arr_int rfl rfl (by decide) rfl rfl ?_
  rw [z_h6]
  obtain ⟨h7, eh7⟩ : ∃ z, z = hNew h6 (arI 412 (fun _ => 0)) := ⟨_, rfl⟩
  rw [← eh7]
  have k_o_h7 : hAt h7 o = some (.inr (5, [.ref (o + 1), .ref (o + 2), .ref (o + 3), .null, .int 0, .null, .int 0, .int 0, .int 0, .int 0])) := by rw [eh7]; exact hNew_o (cZ z_h6 (cNeL rfl)) k_o_h6
  have k_o1_h7 : hAt h7 (o + 1) = some (arI 103 (fun _ => 0)) := by rw [eh7]; exact hNew_o (cZ z_h6 (cNe rfl)) k_o1_h6
  have k_o2_h7 : hAt h7 (o + 2) = some (arI 103 (fun _ => 0)) := by rw [eh7]; exact hNew_o (cZ z_h6 (cNe rfl)) k_o2_h6
  have k_o3_h7 : hAt h7 (o + 3) = some (arI 103 (fun _ => 0)) := by rw [eh7]; exact hNew_o (cZ z_h6 (cNe rfl)) k_o3_h6
  have k_o4_h7 : hAt h7 (o + 4) = some (arI 412 (fun _ => 0)) := by rw [eh7]; exact hNew_p z_h6
  have z_h7 : h7.1 = (o + 5) := by rw [eh7]; exact cZn z_h6
  have f_h7 : ∀ q, q < o → hAt h7 q = hAt h q := fun q hq => by rw [eh7]; exact (hNew_e (cZ z_h6 (cLt hq))).trans (f_h6 q hq)
  refine x_putF (pc := 34) (e' := .inr (5, [.ref (o + 1), .ref (o + 2), .ref (o + 3), .ref (o + 4), .int 0, .null, .int 0, .int 0, .int 0, .int 0])) dX5_init_34 xf_X5_19 rfl rfl k_o_h7 rfl rfl rfl rfl ?_
  obtain ⟨h8, eh8⟩ : ∃ z, z = hSet h7 o (.inr (5, [.ref (o + 1), .ref (o + 2), .ref (o + 3), .ref (o + 4), .int 0, .null, .int 0, .int 0, .int 0, .int 0])) := ⟨_, rfl⟩
  rw [← eh8]
  have k_o1_h8 : hAt h8 (o + 1) = some (arI 103 (fun _ => 0)) := by rw [eh8]; exact hAt_n (cNeR rfl) k_o1_h7
  have k_o2_h8 : hAt h8 (o + 2) = some (arI 103 (fun _ => 0)) := by rw [eh8]; exact hAt_n (cNeR rfl) k_o2_h7
  have k_o3_h8 : hAt h8 (o + 3) = some (arI 103 (fun _ => 0)) := by rw [eh8]; exact hAt_n (cNeR rfl) k_o3_h7
  have k_o4_h8 : hAt h8 (o + 4) = some (arI 412 (fun _ => 0)) := by rw [eh8]; exact hAt_n (cNeR rfl) k_o4_h7
  have k_o_h8 : hAt h8 o = some (.inr (5, [.ref (o + 1), .ref (o + 2), .ref (o + 3), .ref (o + 4), .int 0, .null, .int 0, .int 0, .int 0, .int 0])) := by rw [eh8]; exact hAt_same
  have z_h8 : h8.1 = (o + 5) := by rw [eh8]; exact z_h7
  have f_h8 : ∀ q, q < o → hAt h8 q = hAt h q := fun q hq => by rw [eh8]; exact (hAt_ne (cLt0 hq)).trans (f_h7 q hq)
  refine x_aload_n (pc := 37) dX5_init_37 rfl ?_
  refine x_sipush (pc := 38) (v := (240 : Int32)) dX5_init_38 (by decide) ?_
  refine x_newa (pc := 41) (t := 0) (N := 240) (ty := .int) dX5_init_41 rfl rfl (fun _ z => by cases z) rfl xw_arr_int rfl rfl (by decide) rfl rfl ?_
  rw [z_h8]
  obtain ⟨h9, eh9⟩ : ∃ z, z = hNew h8 (arI 240 (fun _ => 0)) := ⟨_, rfl⟩
  rw [← eh9]
  have k_o_h9 : hAt h9 o = some (.inr (5, [.ref (o + 1), .ref (o + 2), .ref (o + 3), .ref (o + 4), .int 0, .null, .int 0, .int 0, .int 0, .int 0])) := by rw [eh9]; exact hNew_o (cZ z_h8 (cNeL rfl)) k_o_h8
  have k_o1_h9 : hAt h9 (o + 1) = some (arI 103 (fun _ => 0)) := by rw [eh9]; exact hNew_o (cZ z_h8 (cNe rfl)) k_o1_h8
  have k_o2_h9 : hAt h9 (o + 2) = some (arI 103 (fun _ => 0)) := by rw [eh9]; exact hNew_o (cZ z_h8 (cNe rfl)) k_o2_h8
  have k_o3_h9 : hAt h9 (o + 3) = some (arI 103 (fun _ => 0)) := by rw [eh9]; exact hNew_o (cZ z_h8 (cNe rfl)) k_o3_h8
  have k_o4_h9 : hAt h9 (o + 4) = some (arI 412 (fun _ => 0)) := by rw [eh9]; exact hNew_o (cZ z_h8 (cNe rfl)) k_o4_h8
  have k_o5_h9 : hAt h9 (o + 5) = some (arI 240 (fun _ => 0)) := by rw [eh9]; exact hNew_p z_h8
  have z_h9 : h9.1 = (o + 6) := by rw [eh9]; exact cZn z_h8
  have f_h9 : ∀ q, q < o → hAt h9 q = hAt h q := fun q hq => by rw [eh9]; exact (hNew_e (cZ z_h8 (cLt hq))).trans (f_h8 q hq)
  refine x_putF (pc := 43) (e' := .inr (5, [.ref (o + 1), .ref (o + 2), .ref (o + 3), .ref (o + 4), .int 0, .ref (o + 5), .int 0, .int 0, .int 0, .int 0])) dX5_init_43 xf_X5_22 rfl rfl k_o_h9 rfl rfl rfl rfl ?_
  obtain ⟨h10, eh10⟩ : ∃ z, z = hSet h9 o (.inr (5, [.ref (o + 1), .ref (o + 2), .ref (o + 3), .ref (o + 4), .int 0, .ref (o + 5), .int 0, .int 0, .int 0, .int 0])) := ⟨_, rfl⟩
  rw [← eh10]
  have k_o1_h10 : hAt h10 (o + 1) = some (arI 103 (fun _ => 0)) := by rw [eh10]; exact hAt_n (cNeR rfl) k_o1_h9
  have k_o2_h10 : hAt h10 (o + 2) = some (arI 103 (fun _ => 0)) := by rw [eh10]; exact hAt_n (cNeR rfl) k_o2_h9
  have k_o3_h10 : hAt h10 (o + 3) = some (arI 103 (fun _ => 0)) := by rw [eh10]; exact hAt_n (cNeR rfl) k_o3_h9
  have k_o4_h10 : hAt h10 (o + 4) = some (arI 412 (fun _ => 0)) := by rw [eh10]; exact hAt_n (cNeR rfl) k_o4_h9
  have k_o5_h10 : hAt h10 (o + 5) = some (arI 240 (fun _ => 0)) := by rw [eh10]; exact hAt_n (cNeR rfl) k_o5_h9
  have k_o_h10 : hAt h10 o = some (.inr (5, [.ref (o + 1), .ref (o + 2), .ref (o + 3), .ref (o + 4), .int 0, .ref (o + 5), .int 0, .int 0, .int 0, .int 0])) := by rw [eh10]; exact hAt_same
  have z_h10 : h10.1 = (o + 6) := by rw [eh10]; exact z_h9
  have f_h10 : ∀ q, q < o → hAt h10 q = hAt h q := fun q hq => by rw [eh10]; exact (hAt_ne (cLt0 hq)).trans (f_h9 q hq)
  refine Wp.mono ?_ (T_X5_init G h10 o (fun _ => 0) (fun _ => 0) (fun _ => 0) k_o_h10 k_o1_h10 k_o2_h10 hp)
  rintro v h' ⟨ev, m0, m1, m2, ff⟩
  exact ⟨ev, ff.1.trans z_h10, m0, m1, m2, (ff.2 (o + 3) (show ¬ ((o + 3) = o ∨ (o + 3) = (o + 1) ∨ (o + 3) = (o + 2)) by omega)).trans k_o3_h10, (ff.2 (o + 4) (show ¬ ((o + 4) = o ∨ (o + 4) = (o + 1) ∨ (o + 4) = (o + 2)) by omega)).trans k_o4_h10, (ff.2 (o + 5) (show ¬ ((o + 5) = o ∨ (o + 5) = (o + 1) ∨ (o + 5) = (o + 2)) by omega)).trans k_o5_h10, fun q hq => (ff.2 q (show ¬ (q = o ∨ q = (o + 1) ∨ q = (o + 2)) by omega)).trans (f_h10 q hq)⟩

