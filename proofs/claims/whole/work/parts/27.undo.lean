/-! PURE. Part 27: remembered and undone -/
theorem f_X5_keeps_e {m tn tp : Nat → Int32} {G : (Nat → Int32) × (Nat → Int32)} (e0 : (g_X5_keeps_5 m tn tp (m 0)) = G) : f_X5_keeps m tn tp = ((upd G.1 0 ((G.1 0) + (1 : Int32))), (f_X5_copiesB tn G.2 (0 : Int32) ((103 : Int32) * (G.1 0)))) := by
  subst e0
  rfl
theorem p_X5_keeps_e {m tn tp : Nat → Int32} {G : (Nat → Int32) × (Nat → Int32)} (e0 : (g_X5_keeps_5 m tn tp (m 0)) = G) : p_X5_keeps m tn tp = ((h_X5_keeps_5 m tn tp (m 0)) ∧ (p_X5_copiesB tn G.2 (0 : Int32) ((103 : Int32) * (G.1 0)) ∧ True)) := by
  subst e0
  rfl
theorem f_X4_remember_e {s : (Nat → Int32)} {r : (Nat → Int32)} {t : (Nat → Int32)} {W : (Nat → Nat → Int32)} {LF : (Nat → Nat → Int32)} {KF : (Nat → Nat → Int32)} {ER : (Nat → Nat → Int32)} {ET : (Nat → Nat → Int32)} {EW : (Nat → Nat → Nat → Int32)} {EL : (Nat → Nat → Nat → Int32)} {EK : (Nat → Nat → Nat → Int32)} {C : (Nat → Int32) × (Nat → Int32) × (Nat → Nat → Int32) × (Nat → Nat → Int32) × (Nat → Nat → Int32)} (e0 : (f_X0_copy (ER ((s 0).toNatClampNeg)) (ET ((s 0).toNatClampNeg)) (EW ((s 0).toNatClampNeg)) (EL ((s 0).toNatClampNeg)) (EK ((s 0).toNatClampNeg)) r t W LF KF) = C) : f_X4_remember s r t W LF KF ER ET EW EL EK = ((g_X4_remember_43 (upd s 0 ((if (s 0) = (3 : Int32) then (0 : Int32) else ((s 0) + (1 : Int32))))) ((upd s 0 ((if (s 0) = (3 : Int32) then (0 : Int32) else ((s 0) + (1 : Int32))))) 1)), (va_up ER ((s 0).toNatClampNeg) C.1), (va_up ET ((s 0).toNatClampNeg) C.2.1), (va_up EW ((s 0).toNatClampNeg) C.2.2.1), (va_up EL ((s 0).toNatClampNeg) C.2.2.2.1), (va_up EK ((s 0).toNatClampNeg) C.2.2.2.2)) := by
  subst e0
  rfl
theorem f_X4_undo_e {s : (Nat → Int32)} {r : (Nat → Int32)} {t : (Nat → Int32)} {W : (Nat → Nat → Int32)} {LF : (Nat → Nat → Int32)} {KF : (Nat → Nat → Int32)} {ER : (Nat → Nat → Int32)} {ET : (Nat → Nat → Int32)} {EW : (Nat → Nat → Nat → Int32)} {EL : (Nat → Nat → Nat → Int32)} {EK : (Nat → Nat → Nat → Int32)} {S : Int32} {C : (Nat → Int32) × (Nat → Int32) × (Nat → Nat → Int32) × (Nat → Nat → Int32) × (Nat → Nat → Int32)} (e0 : ((if (s 0) = 0 then (3 : Int32) else ((s 0) - (1 : Int32)))) = S) (e1 : (f_X0_copy r t W LF KF (ER (((upd s 0 S) 0).toNatClampNeg)) (ET (((upd s 0 S) 0).toNatClampNeg)) (EW (((upd s 0 S) 0).toNatClampNeg)) (EL (((upd s 0 S) 0).toNatClampNeg)) (EK (((upd s 0 S) 0).toNatClampNeg))) = C) : f_X4_undo s r t W LF KF ER ET EW EL EK = (if (s 1) = 0 then ((-2 : Int32), s, r, t, W, LF, KF) else (((upd (upd s 0 S) 1 (((upd s 0 S) 1) - (1 : Int32))) 1), (upd (upd s 0 S) 1 (((upd s 0 S) 1) - (1 : Int32))), C.1, C.2.1, C.2.2.1, C.2.2.2.1, C.2.2.2.2)) := by
  subst e0
  subst e1
  rfl
theorem p_X4_undo_e {s : (Nat → Int32)} {r : (Nat → Int32)} {t : (Nat → Int32)} {W : (Nat → Nat → Int32)} {LF : (Nat → Nat → Int32)} {KF : (Nat → Nat → Int32)} {ER : (Nat → Nat → Int32)} {ET : (Nat → Nat → Int32)} {EW : (Nat → Nat → Nat → Int32)} {EL : (Nat → Nat → Nat → Int32)} {EK : (Nat → Nat → Nat → Int32)} {S : Int32} (e0 : ((if (s 0) = 0 then (3 : Int32) else ((s 0) - (1 : Int32)))) = S) : p_X4_undo s r t W LF KF ER ET EW EL EK = (((s 1) = 0 → True) ∧ (¬ ((s 1) = 0) → (vp_in ((upd s 0 S) 0) 4 ∧ (p_X0_copy r t W LF KF (ER (((upd s 0 S) 0).toNatClampNeg)) (ET (((upd s 0 S) 0).toNatClampNeg)) (EW (((upd s 0 S) 0).toNatClampNeg)) (EL (((upd s 0 S) 0).toNatClampNeg)) (EK (((upd s 0 S) 0).toNatClampNeg)) ∧ True)))) := by
  subst e0
  rfl
theorem va_s3 {F : Nat → Nat → Nat → Int32} {i : Nat} {x : Nat → Nat → Int32} : va_up F i x i = x := by simp [va_up]
theorem va_o3 {F : Nat → Nat → Nat → Int32} {i j : Nat} {x : Nat → Nat → Int32} (h : j ≠ i) : va_up F i x j = F j := by simp [va_up, h]
def UR (s : Nat → Int32) (ER ET : Nat → Nat → Int32) (EW EL EK : Nat → Nat → Nat → Int32) (m tp : Nat → Int32) : Prop := ∃ U S, U ≤ 4 ∧ S < 4 ∧ s 0 = nI S ∧ s 1 = nI U ∧ m 0 = nI U ∧ ∀ c, c < U → NR (ER ((S + 4 - U + c) % 4)) (ET ((S + 4 - U + c) % 4)) (EW ((S + 4 - U + c) % 4)) (EL ((S + 4 - U + c) % 4)) (EK ((S + 4 - U + c) % 4)) (fun q => tp (103 * c + q))
theorem UR.m {s m m' tp : Nat → Int32} {ER ET : Nat → Nat → Int32} {EW EL EK : Nat → Nat → Nat → Int32} (h : UR s ER ET EW EL EK m tp) (e : m' 0 = m 0) : UR s ER ET EW EL EK m' tp := by
  obtain ⟨U, S, h1, h2, h3, h4, h5, h6⟩ := h
  exact ⟨U, S, h1, h2, h3, h4, by rw [e]; exact h5, h6⟩
theorem keeps5 {m tn tp : Nat → Int32} {U : Nat} (hU : U ≤ 4) (hm : m 0 = nI U) : ∃ V mg tg, V ≤ 3 ∧ V ≤ U ∧ U ≤ V + 1 ∧ (U < 4 → V = U) ∧ g_X5_keeps_5 m tn tp (m 0) = (mg, tg) ∧ h_X5_keeps_5 m tn tp (m 0) ∧ mg 0 = nI V ∧ (∀ k, k ≠ 0 → mg k = m k) ∧ (∀ c q, c < V → q < 103 → tg (103 * c + q) = tp (103 * (c + (U - V)) + q)) := by
  unfold g_X5_keeps_5 h_X5_keeps_5
  by_cases c : U = 4
  · subst c
    have c' : m 0 = (4 : Int32) := hm
    obtain ⟨g1, g2⟩ := shiftL (m := m) (tn := tn) (tp := tp) 309 0 xK tp (by omega) (by unfold xK; omega)
    rw [nI_0] at g1 g2
    rw [if_pos c']
    refine ⟨3, _, _, by decide, by decide, by decide, fun z => absurd z (by decide), rfl, ⟨fun _ => ⟨g2, trivial⟩, fun z => absurd c' z⟩, ?_, fun k hk => upd_o hk, fun d q h1 h2 => ?_⟩
    · rw [upd_s, c']; rfl
    · rw [g1, if_pos (by omega)]
      exact congrArg tp (by omega)
  · have c' : ¬ (m 0 = (4 : Int32)) := fun z => c ((nI_eq (by omega) (by decide)).mp (hm.symm.trans (show m 0 = nI 4 from z)))
    rw [if_neg c']
    exact ⟨U, m, tp, by omega, by omega, by omega, fun _ => rfl, rfl, ⟨fun z => absurd z c', fun _ => trivial⟩, hm, fun _ _ => rfl, fun d q _ _ => congrArg tp (by omega)⟩
theorem rememberR {s r t m tn tp : Nat → Int32} {W LF KF ER ET : Nat → Nat → Int32} {EW EL EK : Nat → Nat → Nat → Int32} (hn : NR r t W LF KF tn) (hu : UR s ER ET EW EL EK m tp) :
    ∃ s' ER' ET' EW' EL' EK' m' tp', f_X4_remember s r t W LF KF ER ET EW EL EK = (s', ER', ET', EW', EL', EK') ∧ f_X5_keeps m tn tp = (m', tp') ∧ p_X4_remember s r t W LF KF ER ET EW EL EK ∧ p_X5_keeps m tn tp ∧ UR s' ER' ET' EW' EL' EK' m' tp' ∧ (∀ k, k ≠ 0 → m' k = m k) := by
  obtain ⟨U, S, hU, hS, s0, s1, m0, hb⟩ := hu
  obtain ⟨V, mg, tg, v1, v2, v2b, v3, g1, g2, g3, g4, g5⟩ := keeps5 (tn := tn) (tp := tp) hU m0
  have hc : (s 0).toNatClampNeg = S := by rw [s0]; exact nI_clamp (by omega)
  obtain ⟨p1, n1⟩ := NR.copy (r := ER S) (t := ET S) (W := EW S) (LF := EL S) (KF := EK S) hn
  obtain ⟨C, hC⟩ : ∃ C, f_X0_copy (ER S) (ET S) (EW S) (EL S) (EK S) r t W LF KF = C := ⟨_, rfl⟩
  rw [hC] at n1
  have hC' : f_X0_copy (ER ((s 0).toNatClampNeg)) (ET ((s 0).toNatClampNeg)) (EW ((s 0).toNatClampNeg)) (EL ((s 0).toNatClampNeg)) (EK ((s 0).toNatClampNeg)) r t W LF KF = C := by rw [hc]; exact hC
  obtain ⟨b1, b2⟩ := cp_B (ff := tn) (gf := tg) (a := 0) (b := 103 * V) (x := 0) (y := (103 : Int32) * mg 0) nI_0.symm (by rw [g3]; exact pk_mul 103 V) (by decide) (by omega)
  rw [f_X4_remember_e hC', f_X5_keeps_e g1, p_X5_keeps_e g1, hc]
  refine ⟨_, _, _, _, _, _, _, _, rfl, rfl, ⟨by rw [s0]; exact vp_in_nI hS (by decide), by rw [hc]; exact p1, trivial⟩, ⟨g2, b2, trivial⟩, ?_, fun k hk => by rw [upd_o hk]; exact g4 k hk⟩
  have e3 : (if s 0 = (3 : Int32) then (0 : Int32) else s 0 + 1) = nI ((S + 1) % 4) := by
    rw [s0]
    by_cases c : S = 3
    · subst c; rfl
    · have c' : ¬ (nI S = (3 : Int32)) := fun z => c ((nI_eq (by omega) (by decide)).mp (show nI S = nI 3 from z))
      rw [if_neg c', nI_1]
      exact congrArg nI (by omega)
  rw [e3]
  have e4 : (upd s 0 (nI ((S + 1) % 4))) 1 = nI U := by rw [upd_o (by decide)]; exact s1
  have e5 : (g_X4_remember_43 (upd s 0 (nI ((S + 1) % 4))) ((upd s 0 (nI ((S + 1) % 4))) 1)) 0 = nI ((S + 1) % 4) ∧ (g_X4_remember_43 (upd s 0 (nI ((S + 1) % 4))) ((upd s 0 (nI ((S + 1) % 4))) 1)) 1 = nI (V + 1) := by
    unfold g_X4_remember_43
    rw [e4]
    by_cases c : U = 4
    · have c1 : (4 : Int32) ≤ nI U := nI_le (a := 4) (b := U) (by omega) (by omega)
      rw [if_pos c1, upd_s, e4]
      exact ⟨rfl, congrArg nI (by omega)⟩
    · have c1 : ¬ ((4 : Int32) ≤ nI U) := nI_ge (a := U) (b := 4) (by omega) (by omega)
      rw [if_neg c1, upd_s, upd_o (by decide), upd_s, nI_1]
      exact ⟨rfl, congrArg nI (by omega)⟩
  refine ⟨V + 1, (S + 1) % 4, by omega, by omega, e5.1, e5.2, ?_, fun c hcV => ?_⟩
  · rw [upd_s]
    show mg 0 + 1 = nI (V + 1)
    rw [g3, nI_1]
  · by_cases d : c = V
    · subst d
      have ee : ((S + 1) % 4 + 4 - (c + 1) + c) % 4 = S := by omega
      rw [ee, va_s, va_s, va_s3, va_s3, va_s3]
      refine NR.row n1 (fun q hq => ?_)
      show (f_X5_copiesB tn tg 0 ((103 : Int32) * mg 0)) (103 * c + q) = tn q
      rw [b1, if_pos (by omega)]
      exact congrArg tn (by omega)
    · have ee : ((S + 1) % 4 + 4 - (V + 1) + c) % 4 = (S + 4 - U + (c + (U - V))) % 4 := by omega
      have ne : (S + 4 - U + (c + (U - V))) % 4 ≠ S := by omega
      rw [ee, va_o ne, va_o ne, va_o3 ne, va_o3 ne, va_o3 ne]
      refine NR.row (hb (c + (U - V)) (by omega)) (fun q hq => ?_)
      show (f_X5_copiesB tn tg 0 ((103 : Int32) * mg 0)) (103 * c + q) = tp (103 * (c + (U - V)) + q)
      rw [b1, if_neg (by omega)]
      exact g5 c q (by omega) hq
theorem undoR {s r t m tn tp : Nat → Int32} {W LF KF ER ET : Nat → Nat → Int32} {EW EL EK : Nat → Nat → Nat → Int32} (hn : NR r t W LF KF tn) (hu : UR s ER ET EW EL EK m tp) :
    p_X4_undo s r t W LF KF ER ET EW EL EK ∧ p_X5_undo m tn tp ∧ ∃ a s' r' t' W' LF' KF' m' tn', f_X4_undo s r t W LF KF ER ET EW EL EK = (a, s', r', t', W', LF', KF') ∧ f_X5_undo m tn tp = (a, m', tn') ∧ NR r' t' W' LF' KF' tn' ∧ UR s' ER ET EW EL EK m' tp ∧ (∀ k, k ≠ 0 → m' k = m k) := by
  have hu' := hu
  obtain ⟨U, S, hU, hS, s0, s1, m0, hb⟩ := hu
  by_cases c : U = 0
  · subst c
    have c1 : s 1 = 0 := s1
    have c2 : m 0 = 0 := m0
    unfold p_X4_undo p_X5_undo f_X4_undo f_X5_undo
    rw [if_pos c1, if_pos c2]
    exact ⟨⟨fun _ => trivial, fun z => absurd c1 z⟩, ⟨fun _ => trivial, fun z => absurd c2 z⟩, _, _, _, _, _, _, _, _, _, rfl, rfl, hn, hu', fun _ _ => rfl⟩
  · have c1 : ¬ (s 1 = 0) := by rw [s1]; exact nI_ne0 (by omega) (by omega)
    have c2 : ¬ (m 0 = 0) := by rw [m0]; exact nI_ne0 (by omega) (by omega)
    have e3 : ((if (s 0) = 0 then (3 : Int32) else ((s 0) - (1 : Int32)))) = nI ((S + 3) % 4) := by
      rw [s0]
      by_cases d : S = 0
      · subst d; rfl
      · rw [if_neg (nI_ne0 (by omega) (by omega))]
        have e1 : (1 : Int32) = nI 1 := rfl
        rw [e1, pk_sub (by omega)]
        exact congrArg nI (by omega)
    have hidx : ((upd s 0 (nI ((S + 3) % 4))) 0).toNatClampNeg = (S + 3) % 4 := by rw [upd_s]; exact nI_clamp (by omega)
    have hv : vp_in ((upd s 0 (nI ((S + 3) % 4))) 0) 4 := by rw [upd_s]; exact vp_in_nI (by omega) (by decide)
    have hbl := hb (U - 1) (by omega)
    have ee : (S + 4 - U + (U - 1)) % 4 = (S + 3) % 4 := by omega
    rw [ee] at hbl
    obtain ⟨p1, n1⟩ := NR.copy (r := r) (t := t) (W := W) (LF := LF) (KF := KF) hbl
    obtain ⟨C, hC⟩ : ∃ C, f_X0_copy r t W LF KF (ER ((S + 3) % 4)) (ET ((S + 3) % 4)) (EW ((S + 3) % 4)) (EL ((S + 3) % 4)) (EK ((S + 3) % 4)) = C := ⟨_, rfl⟩
    rw [hC] at n1
    have hC' : f_X0_copy r t W LF KF (ER (((upd s 0 (nI ((S + 3) % 4))) 0).toNatClampNeg)) (ET (((upd s 0 (nI ((S + 3) % 4))) 0).toNatClampNeg)) (EW (((upd s 0 (nI ((S + 3) % 4))) 0).toNatClampNeg)) (EL (((upd s 0 (nI ((S + 3) % 4))) 0).toNatClampNeg)) (EK (((upd s 0 (nI ((S + 3) % 4))) 0).toNatClampNeg)) = C := by rw [hidx]; exact hC
    have hm : m 0 - 1 = nI (U - 1) := by
      have e1 : (1 : Int32) = nI 1 := rfl
      rw [m0, e1, pk_sub (by omega)]
    obtain ⟨b1, b2⟩ := cp_C (ff := tp) (gf := tn) (a := 103 * (U - 1)) (b := 0) (x := (103 : Int32) * ((upd m 0 ((m 0) - (1 : Int32))) 0)) (y := 0) (by rw [upd_s, hm]; exact pk_mul 103 (U - 1)) nI_0.symm (by omega) (by decide)
    rw [f_X4_undo_e e3 hC', p_X4_undo_e e3]
    unfold p_X5_undo f_X5_undo
    rw [if_neg c1, if_neg c2]
    have hs1 : (upd s 0 (nI ((S + 3) % 4))) 1 - 1 = nI (U - 1) := by
      have e1 : (1 : Int32) = nI 1 := rfl
      rw [upd_o (by decide), s1, e1, pk_sub (by omega)]
    have ha : (upd (upd s 0 (nI ((S + 3) % 4))) 1 ((upd s 0 (nI ((S + 3) % 4))) 1 - 1)) 1 = (upd m 0 ((m 0) - (1 : Int32))) 0 := by rw [upd_s, upd_s, hs1, hm]
    rw [ha]
    refine ⟨⟨fun z => absurd z c1, fun _ => ⟨hv, by rw [hidx]; exact p1, trivial⟩⟩, ⟨fun z => absurd z c2, fun _ => ⟨b2, trivial⟩⟩, _, _, _, _, _, _, _, _, _, rfl, rfl, ?_, ?_, fun k hk => upd_o hk⟩
    · refine NR.row n1 (fun q hq => ?_)
      rw [b1, if_pos (by omega)]
      exact congrArg tp (by omega)
    · refine ⟨U - 1, (S + 3) % 4, by omega, by omega, ?_, ?_, ?_, fun d hd => ?_⟩
      · rw [upd_o (by decide), upd_s]
      · rw [upd_s]; first | exact hs1 | rfl
      · rw [upd_s]; exact hm
      · have ee2 : ((S + 3) % 4 + 4 - (U - 1) + d) % 4 = (S + 4 - U + d) % 4 := by omega
        rw [ee2]
        exact hb d (by omega)
