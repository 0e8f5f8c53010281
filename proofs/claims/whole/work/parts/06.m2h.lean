def g_X5_isBelieved_3 (t : (Nat → Int32)) (told : Int32) (size : Int32) (y0 : Int32) : Int32 := (if y0 = 0 then (1 : Int32) else (if (t 5) = (1 : Int32) then (if told < (t 2) then (0 : Int32) else (if size ≤ told then (0 : Int32) else (1 : Int32))) else (0 : Int32)))
theorem Bg_X5_isBelieved_3 (t : (Nat → Int32)) (told : Int32) (size : Int32) (y0 : Int32) : xB (g_X5_isBelieved_3 t told size y0) := by
  unfold g_X5_isBelieved_3
  exact (xB_ite xB1 (xB_ite (xB_ite xB0 (xB_ite xB0 xB1)) xB0))
def f_X5_isBelieved (t : Nat → Int32) (told size : Int32) : Int32 := (g_X5_isBelieved_3 t told size (t 5))
set_option maxRecDepth 100000 in
set_option maxHeartbeats 4000000 in
theorem C_X5_isBelieved (G : xG) (h : xH) (ta : Nat) (t : Nat → Int32) (told size : Int32) (k_ta : hAt h ta = some (arI 103 t)) : Cd G 0 yX5_isBelieved cX5_isBelieved 3 (some .boolean) [.ref ta, .int told, .int size] h (some (.int (f_X5_isBelieved t told size))) h := by
  refine Ct.of (by decide) (by rfl) ?_
  refine Wp.eqs (L' := [(0, .ref ta), (1, .int told), (2, .int size)]) (st' := []) rfl rfl ?_
  obtain ⟨R, er⟩ : ∃ R, f_X5_isBelieved t told size = R := ⟨_, rfl⟩
  rw [er]
  unfold f_X5_isBelieved at er
  refine x_aload_n (pc := 0) dX5_isBelieved_0 rfl ?_
  refine x_iconst (pc := 1) (v := (5 : Int32)) dX5_isBelieved_1 (by decide) ?_
  refine x_iald (pc := 2) dX5_isBelieved_2 k_ta (vp_in_nI (n := 5) (by decide) (by decide)) (j := 5) (nI_clamp (n := 5) (by decide)) ?_
  obtain ⟨F1, eF1⟩ : ∃ F, g_X5_isBelieved_3 t told size (t 5) = F := ⟨_, rfl⟩
  try rw [eF1] at er
  have bF1 : xB F1 := by rw [← eF1]; exact (Bg_X5_isBelieved_3 _ _ _ _)
  refine x_mrg (pc' := 30) (L' := [(0, .ref ta), (1, .int told), (2, .int size)]) (st' := [.int F1]) (h' := h) (fun J => ?_) ?_
  · unfold g_X5_isBelieved_3 at eF1
    refine x_if_eq (pc := 3) (tgt := 25) dX5_isBelieved_3 (by decide) (fun (c5 : (t 5) = 0) => ?_) (fun (c5 : ¬ ((t 5) = 0)) => ?_)
    · rw [if_pos c5] at eF1
      refine x_iconst (pc := 25) (v := (1 : Int32)) dX5_isBelieved_25 (by decide) ?_
      refine x_goto (pc := 26) (tgt := 30) dX5_isBelieved_26 (by decide) ?_
      subst eF1
      exact J
    · rw [if_neg c5] at eF1
      refine x_aload_n (pc := 6) dX5_isBelieved_6 rfl ?_
      refine x_iconst (pc := 7) (v := (5 : Int32)) dX5_isBelieved_7 (by decide) ?_
      refine x_iald (pc := 8) dX5_isBelieved_8 k_ta (vp_in_nI (n := 5) (by decide) (by decide)) (j := 5) (nI_clamp (n := 5) (by decide)) ?_
      refine x_iconst (pc := 9) (v := (1 : Int32)) dX5_isBelieved_9 (by decide) ?_
      refine x_icmp_ne (pc := 10) (tgt := 29) dX5_isBelieved_10 (by decide) (fun (c6 : ¬ ((t 5) = (1 : Int32))) => ?_) (fun (c6 : (t 5) = (1 : Int32)) => ?_)
      · rw [if_neg c6] at eF1
        refine x_iconst (pc := 29) (v := (0 : Int32)) dX5_isBelieved_29 (by decide) ?_
        subst eF1
        exact J
      · rw [if_pos c6] at eF1
        refine x_iload_n (pc := 13) dX5_isBelieved_13 rfl ?_
        refine x_aload_n (pc := 14) dX5_isBelieved_14 rfl ?_
        refine x_iconst (pc := 15) (v := (2 : Int32)) dX5_isBelieved_15 (by decide) ?_
        refine x_iald (pc := 16) dX5_isBelieved_16 k_ta (vp_in_nI (n := 2) (by decide) (by decide)) (j := 2) (nI_clamp (n := 2) (by decide)) ?_
        refine x_icmp_lt (pc := 17) (tgt := 29) dX5_isBelieved_17 (by decide) (fun (c7 : told < (t 2)) => ?_) (fun (c7 : ¬ (told < (t 2))) => ?_)
        · rw [if_pos c7] at eF1
          refine x_iconst (pc := 29) (v := (0 : Int32)) dX5_isBelieved_29 (by decide) ?_
          subst eF1
          exact J
        · rw [if_neg c7] at eF1
          refine x_iload_n (pc := 20) dX5_isBelieved_20 rfl ?_
          refine x_iload_n (pc := 21) dX5_isBelieved_21 rfl ?_
          refine x_icmp_ge (pc := 22) (tgt := 29) dX5_isBelieved_22 (by decide) (fun (c8 : size ≤ told) => ?_) (fun (c8 : ¬ (size ≤ told)) => ?_)
          · rw [if_pos c8] at eF1
            refine x_iconst (pc := 29) (v := (0 : Int32)) dX5_isBelieved_29 (by decide) ?_
            subst eF1
            exact J
          · rw [if_neg c8] at eF1
            refine x_iconst (pc := 25) (v := (1 : Int32)) dX5_isBelieved_25 (by decide) ?_
            refine x_goto (pc := 26) (tgt := 30) dX5_isBelieved_26 (by decide) ?_
            subst eF1
            exact J
  subst er
  exact x_iret (pc := 30) dX5_isBelieved_30 rfl (xb_nar bF1) rfl rfl ⟨rfl, rfl⟩
theorem B_X5_isBelieved (t : Nat → Int32) (told size : Int32) : xB (f_X5_isBelieved t told size) := by
  unfold f_X5_isBelieved
  exact (Bg_X5_isBelieved_3 _ _ _ _)

def f_X5_isGone (m : Nat → Int32) : Int32 := ((if (m 3) ≤ 0 then (0 : Int32) else (if (m 4) = 0 then (1 : Int32) else (0 : Int32))))
set_option maxRecDepth 100000 in
set_option maxHeartbeats 4000000 in
theorem C_X5_isGone (G : xG) (h : xH) (o nw rd sd pa xt : Nat) (m : Nat → Int32) (k_o : hAt h o = some (moC nw rd sd pa xt m)) : Cd G 0 yX5_isGone cX5_isGone 1 (some .boolean) [.ref o] h (some (.int (f_X5_isGone m))) h := by
  refine Ct.of (by decide) (by rfl) ?_
  refine Wp.eqs (L' := [(0, .ref o)]) (st' := []) rfl rfl ?_
  obtain ⟨R, er⟩ : ∃ R, f_X5_isGone m = R := ⟨_, rfl⟩
  rw [er]
  unfold f_X5_isGone at er
  refine x_aload_n (pc := 0) dX5_isGone_0 rfl ?_
  refine x_getf (pc := 1) (v := .int (m 3)) dX5_isGone_1 xf_X5_151 k_o rfl ?_
  obtain ⟨F1, eF1⟩ : ∃ F, (if (m 3) ≤ 0 then (0 : Int32) else (if (m 4) = 0 then (1 : Int32) else (0 : Int32))) = F := ⟨_, rfl⟩
  try rw [eF1] at er
  have bF1 : xB F1 := by rw [← eF1]; exact (xB_ite xB0 (xB_ite xB1 xB0))
  refine x_mrg (pc' := 19) (L' := [(0, .ref o)]) (st' := [.int F1]) (h' := h) (fun J => ?_) ?_
  · refine x_if_le (pc := 4) (tgt := 18) dX5_isGone_4 (by decide) (fun (c1 : (m 3) ≤ 0) => ?_) (fun (c1 : ¬ ((m 3) ≤ 0)) => ?_)
    · refine x_iconst (pc := 18) (v := (0 : Int32)) dX5_isGone_18 (by decide) ?_
      rw [if_pos c1] at eF1
      subst eF1
      exact J
    · refine x_aload_n (pc := 7) dX5_isGone_7 rfl ?_
      refine x_getf (pc := 8) (v := .int (m 4)) dX5_isGone_8 xf_X5_158 k_o rfl ?_
      refine x_if_ne (pc := 11) (tgt := 18) dX5_isGone_11 (by decide) (fun (c2 : ¬ ((m 4) = 0)) => ?_) (fun (c2 : (m 4) = 0) => ?_)
      · refine x_iconst (pc := 18) (v := (0 : Int32)) dX5_isGone_18 (by decide) ?_
        rw [if_neg c1, if_neg c2] at eF1
        subst eF1
        exact J
      · refine x_iconst (pc := 14) (v := (1 : Int32)) dX5_isGone_14 (by decide) ?_
        refine x_goto (pc := 15) (tgt := 19) dX5_isGone_15 (by decide) ?_
        rw [if_neg c1, if_pos c2] at eF1
        subst eF1
        exact J
  subst er
  exact x_iret (pc := 19) dX5_isGone_19 rfl (xb_nar bF1) rfl rfl ⟨rfl, rfl⟩
theorem B_X5_isGone (m : Nat → Int32) : xB (f_X5_isGone m) := by
  unfold f_X5_isGone
  exact (xB_ite xB0 (xB_ite xB1 xB0))

def g_X5_sends_37 (t : (Nat → Int32)) (i : Int32) (size : Int32) (v4 : Int32) : Int32 := (if v4 = 0 then (f_X5_met t i size) else (1 : Int32))
def h_X5_sends_37 (t : (Nat → Int32)) (i : Int32) (size : Int32) (v4 : Int32) : Prop := ((v4 = 0 → (p_X5_met t i size ∧ True)) ∧ (¬ (v4 = 0) → True))
def g_X5_sends_59 (t : (Nat → Int32)) (size : Int32) (x_o : (Nat → Int32)) (y0 : Int32) : Int32 := (if y0 ≤ (1 : Int32) then (0 : Int32) else (if (f_X5_isBelieved t ((x_o 3) - (2 : Int32)) size) = 0 then (0 : Int32) else (1 : Int32)))
theorem Bg_X5_sends_59 (t : (Nat → Int32)) (size : Int32) (x_o : (Nat → Int32)) (y0 : Int32) : xB (g_X5_sends_59 t size x_o y0) := by
  unfold g_X5_sends_59
  exact (xB_ite xB0 (xB_ite xB0 xB1))
def f_X5_sends (m t : Nat → Int32) (i size : Int32) : (Nat → Int32) × (Nat → Int32) := ((upd (upd m 3 (g_X5_sends_37 t i size ((if (t ((f_X5_at i (10 : Int32)).toNatClampNeg)) ≤ ((f_X5_drawn t i (t ((f_X5_at i (7 : Int32)).toNatClampNeg))) - (f_X5_drawn t i (t ((f_X5_at i (7 : Int32)).toNatClampNeg))) / (100 : Int32) * (100 : Int32)) then (0 : Int32) else (1 : Int32))))) 4 (g_X5_sends_59 t size (upd m 3 (g_X5_sends_37 t i size ((if (t ((f_X5_at i (10 : Int32)).toNatClampNeg)) ≤ ((f_X5_drawn t i (t ((f_X5_at i (7 : Int32)).toNatClampNeg))) - (f_X5_drawn t i (t ((f_X5_at i (7 : Int32)).toNatClampNeg))) / (100 : Int32) * (100 : Int32)) then (0 : Int32) else (1 : Int32))))) ((upd m 3 (g_X5_sends_37 t i size ((if (t ((f_X5_at i (10 : Int32)).toNatClampNeg)) ≤ ((f_X5_drawn t i (t ((f_X5_at i (7 : Int32)).toNatClampNeg))) - (f_X5_drawn t i (t ((f_X5_at i (7 : Int32)).toNatClampNeg))) / (100 : Int32) * (100 : Int32)) then (0 : Int32) else (1 : Int32))))) 3))), (upd (upd (upd t ((f_X5_at i (7 : Int32)).toNatClampNeg) ((t ((f_X5_at i (7 : Int32)).toNatClampNeg)) + (1 : Int32))) ((f_X5_at i (9 : Int32)).toNatClampNeg) (((upd t ((f_X5_at i (7 : Int32)).toNatClampNeg) ((t ((f_X5_at i (7 : Int32)).toNatClampNeg)) + (1 : Int32))) ((f_X5_at i (9 : Int32)).toNatClampNeg)) + ((if ((upd (upd m 3 (g_X5_sends_37 t i size ((if (t ((f_X5_at i (10 : Int32)).toNatClampNeg)) ≤ ((f_X5_drawn t i (t ((f_X5_at i (7 : Int32)).toNatClampNeg))) - (f_X5_drawn t i (t ((f_X5_at i (7 : Int32)).toNatClampNeg))) / (100 : Int32) * (100 : Int32)) then (0 : Int32) else (1 : Int32))))) 4 (g_X5_sends_59 t size (upd m 3 (g_X5_sends_37 t i size ((if (t ((f_X5_at i (10 : Int32)).toNatClampNeg)) ≤ ((f_X5_drawn t i (t ((f_X5_at i (7 : Int32)).toNatClampNeg))) - (f_X5_drawn t i (t ((f_X5_at i (7 : Int32)).toNatClampNeg))) / (100 : Int32) * (100 : Int32)) then (0 : Int32) else (1 : Int32))))) ((upd m 3 (g_X5_sends_37 t i size ((if (t ((f_X5_at i (10 : Int32)).toNatClampNeg)) ≤ ((f_X5_drawn t i (t ((f_X5_at i (7 : Int32)).toNatClampNeg))) - (f_X5_drawn t i (t ((f_X5_at i (7 : Int32)).toNatClampNeg))) / (100 : Int32) * (100 : Int32)) then (0 : Int32) else (1 : Int32))))) 3))) 4) = 0 then (0 : Int32) else (1 : Int32))))) ((f_X5_at i (8 : Int32)).toNatClampNeg) (((upd (upd t ((f_X5_at i (7 : Int32)).toNatClampNeg) ((t ((f_X5_at i (7 : Int32)).toNatClampNeg)) + (1 : Int32))) ((f_X5_at i (9 : Int32)).toNatClampNeg) (((upd t ((f_X5_at i (7 : Int32)).toNatClampNeg) ((t ((f_X5_at i (7 : Int32)).toNatClampNeg)) + (1 : Int32))) ((f_X5_at i (9 : Int32)).toNatClampNeg)) + ((if ((upd (upd m 3 (g_X5_sends_37 t i size ((if (t ((f_X5_at i (10 : Int32)).toNatClampNeg)) ≤ ((f_X5_drawn t i (t ((f_X5_at i (7 : Int32)).toNatClampNeg))) - (f_X5_drawn t i (t ((f_X5_at i (7 : Int32)).toNatClampNeg))) / (100 : Int32) * (100 : Int32)) then (0 : Int32) else (1 : Int32))))) 4 (g_X5_sends_59 t size (upd m 3 (g_X5_sends_37 t i size ((if (t ((f_X5_at i (10 : Int32)).toNatClampNeg)) ≤ ((f_X5_drawn t i (t ((f_X5_at i (7 : Int32)).toNatClampNeg))) - (f_X5_drawn t i (t ((f_X5_at i (7 : Int32)).toNatClampNeg))) / (100 : Int32) * (100 : Int32)) then (0 : Int32) else (1 : Int32))))) ((upd m 3 (g_X5_sends_37 t i size ((if (t ((f_X5_at i (10 : Int32)).toNatClampNeg)) ≤ ((f_X5_drawn t i (t ((f_X5_at i (7 : Int32)).toNatClampNeg))) - (f_X5_drawn t i (t ((f_X5_at i (7 : Int32)).toNatClampNeg))) / (100 : Int32) * (100 : Int32)) then (0 : Int32) else (1 : Int32))))) 3))) 4) = 0 then (0 : Int32) else (1 : Int32))))) ((f_X5_at i (8 : Int32)).toNatClampNeg)) + ((if (f_X5_isGone (upd (upd m 3 (g_X5_sends_37 t i size ((if (t ((f_X5_at i (10 : Int32)).toNatClampNeg)) ≤ ((f_X5_drawn t i (t ((f_X5_at i (7 : Int32)).toNatClampNeg))) - (f_X5_drawn t i (t ((f_X5_at i (7 : Int32)).toNatClampNeg))) / (100 : Int32) * (100 : Int32)) then (0 : Int32) else (1 : Int32))))) 4 (g_X5_sends_59 t size (upd m 3 (g_X5_sends_37 t i size ((if (t ((f_X5_at i (10 : Int32)).toNatClampNeg)) ≤ ((f_X5_drawn t i (t ((f_X5_at i (7 : Int32)).toNatClampNeg))) - (f_X5_drawn t i (t ((f_X5_at i (7 : Int32)).toNatClampNeg))) / (100 : Int32) * (100 : Int32)) then (0 : Int32) else (1 : Int32))))) ((upd m 3 (g_X5_sends_37 t i size ((if (t ((f_X5_at i (10 : Int32)).toNatClampNeg)) ≤ ((f_X5_drawn t i (t ((f_X5_at i (7 : Int32)).toNatClampNeg))) - (f_X5_drawn t i (t ((f_X5_at i (7 : Int32)).toNatClampNeg))) / (100 : Int32) * (100 : Int32)) then (0 : Int32) else (1 : Int32))))) 3)))) = 0 then (0 : Int32) else (1 : Int32))))))
def p_X5_sends (m t : Nat → Int32) (i size : Int32) : Prop := (vp_in (f_X5_at i (7 : Int32)) 103 ∧ (vp_in (f_X5_at i (10 : Int32)) 103 ∧ ((h_X5_sends_37 t i size ((if (t ((f_X5_at i (10 : Int32)).toNatClampNeg)) ≤ ((f_X5_drawn t i (t ((f_X5_at i (7 : Int32)).toNatClampNeg))) - (f_X5_drawn t i (t ((f_X5_at i (7 : Int32)).toNatClampNeg))) / (100 : Int32) * (100 : Int32)) then (0 : Int32) else (1 : Int32)))) ∧ (xB (g_X5_sends_59 t size (upd m 3 (g_X5_sends_37 t i size ((if (t ((f_X5_at i (10 : Int32)).toNatClampNeg)) ≤ ((f_X5_drawn t i (t ((f_X5_at i (7 : Int32)).toNatClampNeg))) - (f_X5_drawn t i (t ((f_X5_at i (7 : Int32)).toNatClampNeg))) / (100 : Int32) * (100 : Int32)) then (0 : Int32) else (1 : Int32))))) ((upd m 3 (g_X5_sends_37 t i size ((if (t ((f_X5_at i (10 : Int32)).toNatClampNeg)) ≤ ((f_X5_drawn t i (t ((f_X5_at i (7 : Int32)).toNatClampNeg))) - (f_X5_drawn t i (t ((f_X5_at i (7 : Int32)).toNatClampNeg))) / (100 : Int32) * (100 : Int32)) then (0 : Int32) else (1 : Int32))))) 3)) ∧ (vp_in (f_X5_at i (7 : Int32)) 103 ∧ (vp_in (f_X5_at i (7 : Int32)) 103 ∧ (vp_in (f_X5_at i (9 : Int32)) 103 ∧ (vp_in (f_X5_at i (9 : Int32)) 103 ∧ (vp_in (f_X5_at i (8 : Int32)) 103 ∧ (vp_in (f_X5_at i (8 : Int32)) 103 ∧ True))))))))))
set_option maxRecDepth 100000 in
set_option maxHeartbeats 4000000 in
theorem C_X5_sends (G : xG) (h : xH) (o ta nw rd sd pa xt : Nat) (m t : Nat → Int32) (i size : Int32) (k_o : hAt h o = some (moC nw rd sd pa xt m)) (k_ta : hAt h ta = some (arI 103 t)) (hp : p_X5_sends m t i size) : Cd G 3 yX5_sends cX5_sends 5 none [.ref o, .ref ta, .int i, .int size] h none (hSet (hSet h o (moC nw rd sd pa xt (f_X5_sends m t i size).1)) ta (arI 103 (f_X5_sends m t i size).2)) := by
  have n_o_ta : o ≠ ta := hne_k k_o k_ta rfl
  refine Ct.of (by decide) (by rfl) ?_
  refine Wp.eqs (L' := [(0, .ref o), (1, .ref ta), (2, .int i), (3, .int size)]) (st' := []) rfl rfl ?_
  refine Wp.eqh (h' := (hSet (hSet h o (moC nw rd sd pa xt m)) ta (arI 103 t))) (by rw [hSet_self k_o, hSet_self k_ta]) ?_
  obtain ⟨R, er⟩ : ∃ R, f_X5_sends m t i size = R := ⟨_, rfl⟩
  rw [er]
  unfold f_X5_sends at er
  unfold p_X5_sends at hp
  refine x_aload_n (pc := 0) dX5_sends_0 rfl ?_
  refine x_iload_n (pc := 1) dX5_sends_1 rfl ?_
  refine x_aload_n (pc := 2) dX5_sends_2 rfl ?_
  refine x_iload_n (pc := 3) dX5_sends_3 rfl ?_
  refine x_bipush (pc := 4) (v := (7 : Int32)) dX5_sends_4 (by decide) ?_
  refine x_cS2i (pc := 6) dX5_sends_6 xl_X5_36 xs_X5_at (C_X5_at G _ i (7 : Int32)) rfl rfl rfl ?_
  obtain ⟨F1, eF1⟩ : ∃ F, f_X5_at i (7 : Int32) = F := ⟨_, rfl⟩
  rw [eF1]
  try rw [eF1] at er
  try rw [eF1] at hp
  obtain ⟨q9, hp⟩ := hp
  refine x_iald (pc := 9) dX5_sends_9 hAt_same q9 (j := (F1.toNatClampNeg)) rfl ?_
  refine x_cS3i (pc := 10) dX5_sends_10 xl_X5_145 xs_X5_drawn (C_X5_drawn G _ ta t i (t (F1.toNatClampNeg)) hAt_same) rfl rfl rfl ?_
  obtain ⟨F2, eF2⟩ : ∃ F, f_X5_drawn t i (t (F1.toNatClampNeg)) = F := ⟨_, rfl⟩
  rw [eF2]
  try rw [eF2] at er
  try rw [eF2] at hp
  refine x_bipush (pc := 13) (v := (100 : Int32)) dX5_sends_13 (by decide) ?_
  refine x_irem (pc := 15) dX5_sends_15 (by decide) ?_
  refine x_aload_n (pc := 16) dX5_sends_16 rfl ?_
  refine x_iload_n (pc := 17) dX5_sends_17 rfl ?_
  refine x_bipush (pc := 18) (v := (10 : Int32)) dX5_sends_18 (by decide) ?_
  refine x_cS2i (pc := 20) dX5_sends_20 xl_X5_36 xs_X5_at (C_X5_at G _ i (10 : Int32)) rfl rfl rfl ?_
  obtain ⟨F3, eF3⟩ : ∃ F, f_X5_at i (10 : Int32) = F := ⟨_, rfl⟩
  rw [eF3]
  try rw [eF3] at er
  try rw [eF3] at hp
  obtain ⟨q23, hp⟩ := hp
  refine x_iald (pc := 23) dX5_sends_23 hAt_same q23 (j := (F3.toNatClampNeg)) rfl ?_
  obtain ⟨F4, eF4⟩ : ∃ F, (if (t (F3.toNatClampNeg)) ≤ (F2 - F2 / (100 : Int32) * (100 : Int32)) then (0 : Int32) else (1 : Int32)) = F := ⟨_, rfl⟩
  try rw [eF4] at er
  try rw [eF4] at hp
  have bF4 : xB F4 := by rw [← eF4]; exact (xB_ite xB0 xB1)
  refine x_mrg (pc' := 32) (L' := [(0, .ref o), (1, .ref ta), (2, .int i), (3, .int size)]) (st' := [.int F4]) (h' := (hSet (hSet h o (moC nw rd sd pa xt m)) ta (arI 103 t))) (fun J => ?_) ?_
  · refine x_icmp_ge (pc := 24) (tgt := 31) dX5_sends_24 (by decide) (fun (c1 : (t (F3.toNatClampNeg)) ≤ (F2 - F2 / (100 : Int32) * (100 : Int32))) => ?_) (fun (c1 : ¬ ((t (F3.toNatClampNeg)) ≤ (F2 - F2 / (100 : Int32) * (100 : Int32)))) => ?_)
    · refine x_iconst (pc := 31) (v := (0 : Int32)) dX5_sends_31 (by decide) ?_
      rw [if_pos c1] at eF4
      subst eF4
      exact J
    · refine x_iconst (pc := 27) (v := (1 : Int32)) dX5_sends_27 (by decide) ?_
      refine x_goto (pc := 28) (tgt := 32) dX5_sends_28 (by decide) ?_
      rw [if_neg c1] at eF4
      subst eF4
      exact J
  refine x_istore (pc := 32) (L' := [(4, .int F4), (0, .ref o), (1, .ref ta), (2, .int i), (3, .int size)]) dX5_sends_32 rfl rfl ?_
  refine x_aload_n (pc := 34) dX5_sends_34 rfl ?_
  refine x_iload (pc := 35) dX5_sends_35 rfl ?_
  obtain ⟨qr37, hp⟩ := hp
  obtain ⟨F7, eF7⟩ : ∃ F, g_X5_sends_37 t i size F4 = F := ⟨_, rfl⟩
  try rw [eF7] at er
  try rw [eF7] at hp
  refine x_mrg (pc' := 50) (L' := [(4, .int F4), (0, .ref o), (1, .ref ta), (2, .int i), (3, .int size)]) (st' := [.int F7, .ref o]) (h' := (hSet (hSet h o (moC nw rd sd pa xt m)) ta (arI 103 t))) (fun J => ?_) ?_
  · unfold g_X5_sends_37 at eF7
    unfold h_X5_sends_37 at qr37
    try rw [eF1] at eF7
    try rw [eF1] at qr37
    try rw [eF2] at eF7
    try rw [eF2] at qr37
    try rw [eF3] at eF7
    try rw [eF3] at qr37
    try rw [eF4] at eF7
    try rw [eF4] at qr37
    refine x_if_eq (pc := 37) (tgt := 44) dX5_sends_37 (by decide) (fun (c3 : F4 = 0) => ?_) (fun (c3 : ¬ (F4 = 0)) => ?_)
    · rw [if_pos c3] at eF7
      replace qr37 := qr37.1 c3
      refine x_aload_n (pc := 44) dX5_sends_44 rfl ?_
      refine x_iload_n (pc := 45) dX5_sends_45 rfl ?_
      refine x_iload_n (pc := 46) dX5_sends_46 rfl ?_
      obtain ⟨q47, qr37⟩ := qr37
      refine x_cS3i (pc := 47) dX5_sends_47 xl_X5_148 xs_X5_met (C_X5_met G _ ta t i size hAt_same q47) rfl rfl rfl ?_
      obtain ⟨F6, eF6⟩ : ∃ F, f_X5_met t i size = F := ⟨_, rfl⟩
      rw [eF6]
      try rw [eF6] at eF7
      try rw [eF6] at qr37
      subst eF7
      exact J
    · rw [if_neg c3] at eF7
      replace qr37 := qr37.2 c3
      refine x_iconst (pc := 40) (v := (1 : Int32)) dX5_sends_40 (by decide) ?_
      refine x_goto (pc := 41) (tgt := 50) dX5_sends_41 (by decide) ?_
      subst eF7
      exact J
  refine x_putf (pc := 50) (e' := moC nw rd sd pa xt (upd m 3 F7)) dX5_sends_50 xf_X5_151 (hAt_n n_o_ta hAt_same) rfl rfl rfl rfl ?_
  refine Wp.eqh (h' := (hSet (hSet h o (moC nw rd sd pa xt (upd m 3 F7))) ta (arI 103 t))) (hSet_sw1 n_o_ta) ?_
  refine x_aload_n (pc := 53) dX5_sends_53 rfl ?_
  refine x_aload_n (pc := 54) dX5_sends_54 rfl ?_
  refine x_getf (pc := 55) (v := .int ((upd m 3 F7) 3)) dX5_sends_55 xf_X5_151 (hAt_n n_o_ta hAt_same) rfl ?_
  refine x_iconst (pc := 58) (v := (1 : Int32)) dX5_sends_58 (by decide) ?_
  obtain ⟨F10, eF10⟩ : ∃ F, g_X5_sends_59 t size (upd m 3 F7) ((upd m 3 F7) 3) = F := ⟨_, rfl⟩
  try rw [eF10] at er
  try rw [eF10] at hp
  have bF10 : xB F10 := by rw [← eF10]; exact (Bg_X5_sends_59 _ _ _ _)
  refine x_mrg (pc' := 81) (L' := [(4, .int F4), (0, .ref o), (1, .ref ta), (2, .int i), (3, .int size)]) (st' := [.int F10, .ref o]) (h' := (hSet (hSet h o (moC nw rd sd pa xt (upd m 3 F7))) ta (arI 103 t))) (fun J => ?_) ?_
  · unfold g_X5_sends_59 at eF10
    try rw [eF1] at eF10
    try rw [eF2] at eF10
    try rw [eF3] at eF10
    try rw [eF4] at eF10
    refine x_icmp_le (pc := 59) (tgt := 80) dX5_sends_59 (by decide) (fun (c6 : ((upd m 3 F7) 3) ≤ (1 : Int32)) => ?_) (fun (c6 : ¬ (((upd m 3 F7) 3) ≤ (1 : Int32))) => ?_)
    · rw [if_pos c6] at eF10
      refine x_iconst (pc := 80) (v := (0 : Int32)) dX5_sends_80 (by decide) ?_
      subst eF10
      exact J
    · rw [if_neg c6] at eF10
      refine x_aload_n (pc := 62) dX5_sends_62 rfl ?_
      refine x_aload_n (pc := 63) dX5_sends_63 rfl ?_
      refine x_getf (pc := 64) (v := .int ((upd m 3 F7) 3)) dX5_sends_64 xf_X5_151 (hAt_n n_o_ta hAt_same) rfl ?_
      refine x_iconst (pc := 67) (v := (2 : Int32)) dX5_sends_67 (by decide) ?_
      refine x_isub (pc := 68) dX5_sends_68 ?_
      refine x_iload_n (pc := 69) dX5_sends_69 rfl ?_
      refine x_cS3i (pc := 70) dX5_sends_70 xl_X5_154 xs_X5_isBelieved (C_X5_isBelieved G _ ta t (((upd m 3 F7) 3) - (2 : Int32)) size hAt_same) rfl rfl rfl ?_
      obtain ⟨F9, eF9⟩ : ∃ F, f_X5_isBelieved t (((upd m 3 F7) 3) - (2 : Int32)) size = F := ⟨_, rfl⟩
      rw [eF9]
      try rw [eF9] at eF10
      have bF9 : xB F9 := by rw [← eF9]; exact (B_X5_isBelieved _ _ _)
      refine x_if_eq (pc := 73) (tgt := 80) dX5_sends_73 (by decide) (fun (c7 : F9 = 0) => ?_) (fun (c7 : ¬ (F9 = 0)) => ?_)
      · rw [if_pos c7] at eF10
        refine x_iconst (pc := 80) (v := (0 : Int32)) dX5_sends_80 (by decide) ?_
        subst eF10
        exact J
      · rw [if_neg c7] at eF10
        refine x_iconst (pc := 76) (v := (1 : Int32)) dX5_sends_76 (by decide) ?_
        refine x_goto (pc := 77) (tgt := 81) dX5_sends_77 (by decide) ?_
        subst eF10
        exact J
  obtain ⟨q81, hp⟩ := hp
  refine x_putf (pc := 81) (e' := moC nw rd sd pa xt (upd (upd m 3 F7) 4 F10)) dX5_sends_81 xf_X5_158 (hAt_n n_o_ta hAt_same) (xb_nar q81) (xb_fit q81) rfl rfl ?_
  refine Wp.eqh (h' := (hSet (hSet h o (moC nw rd sd pa xt (upd (upd m 3 F7) 4 F10))) ta (arI 103 t))) (hSet_sw1 n_o_ta) ?_
  refine x_aload_n (pc := 84) dX5_sends_84 rfl ?_
  refine x_iload_n (pc := 85) dX5_sends_85 rfl ?_
  refine x_bipush (pc := 86) (v := (7 : Int32)) dX5_sends_86 (by decide) ?_
  refine x_cS2i (pc := 88) dX5_sends_88 xl_X5_36 xs_X5_at (C_X5_at G _ i (7 : Int32)) rfl rfl rfl ?_
  rw [eF1]
  refine x_dup2 (pc := 91) dX5_sends_91 rfl rfl ?_
  obtain ⟨q92, hp⟩ := hp
  refine x_iald (pc := 92) dX5_sends_92 hAt_same q92 (j := (F1.toNatClampNeg)) rfl ?_
  refine x_iconst (pc := 93) (v := (1 : Int32)) dX5_sends_93 (by decide) ?_
  refine x_iadd (pc := 94) dX5_sends_94 ?_
  obtain ⟨q95, hp⟩ := hp
  refine x_iast (pc := 95) (e' := arI 103 (upd t (F1.toNatClampNeg) ((t (F1.toNatClampNeg)) + (1 : Int32)))) dX5_sends_95 hAt_same q95 (j := (F1.toNatClampNeg)) rfl rfl ?_
  refine Wp.eqh (h' := (hSet (hSet h o (moC nw rd sd pa xt (upd (upd m 3 F7) 4 F10))) ta (arI 103 (upd t (F1.toNatClampNeg) ((t (F1.toNatClampNeg)) + (1 : Int32)))))) (hSet_set) ?_
  refine x_aload_n (pc := 96) dX5_sends_96 rfl ?_
  refine x_iload_n (pc := 97) dX5_sends_97 rfl ?_
  refine x_bipush (pc := 98) (v := (9 : Int32)) dX5_sends_98 (by decide) ?_
  refine x_cS2i (pc := 100) dX5_sends_100 xl_X5_36 xs_X5_at (C_X5_at G _ i (9 : Int32)) rfl rfl rfl ?_
  obtain ⟨F11, eF11⟩ : ∃ F, f_X5_at i (9 : Int32) = F := ⟨_, rfl⟩
  rw [eF11]
  try rw [eF11] at er
  try rw [eF11] at hp
  refine x_dup2 (pc := 103) dX5_sends_103 rfl rfl ?_
  obtain ⟨q104, hp⟩ := hp
  refine x_iald (pc := 104) dX5_sends_104 hAt_same q104 (j := (F11.toNatClampNeg)) rfl ?_
  refine x_aload_n (pc := 105) dX5_sends_105 rfl ?_
  refine x_getf (pc := 106) (v := .int ((upd (upd m 3 F7) 4 F10) 4)) dX5_sends_106 xf_X5_158 (hAt_n n_o_ta hAt_same) rfl ?_
  obtain ⟨F12, eF12⟩ : ∃ F, (if ((upd (upd m 3 F7) 4 F10) 4) = 0 then (0 : Int32) else (1 : Int32)) = F := ⟨_, rfl⟩
  try rw [eF12] at er
  try rw [eF12] at hp
  have bF12 : xB F12 := by rw [← eF12]; exact (xB_ite xB0 xB1)
  refine x_mrg (pc' := 117) (L' := [(4, .int F4), (0, .ref o), (1, .ref ta), (2, .int i), (3, .int size)]) (st' := [.int F12, .int ((upd t (F1.toNatClampNeg) ((t (F1.toNatClampNeg)) + (1 : Int32))) (F11.toNatClampNeg)), .int F11, .ref ta]) (h' := (hSet (hSet h o (moC nw rd sd pa xt (upd (upd m 3 F7) 4 F10))) ta (arI 103 (upd t (F1.toNatClampNeg) ((t (F1.toNatClampNeg)) + (1 : Int32)))))) (fun J => ?_) ?_
  · refine x_if_eq (pc := 109) (tgt := 116) dX5_sends_109 (by decide) (fun (c8 : ((upd (upd m 3 F7) 4 F10) 4) = 0) => ?_) (fun (c8 : ¬ (((upd (upd m 3 F7) 4 F10) 4) = 0)) => ?_)
    · refine x_iconst (pc := 116) (v := (0 : Int32)) dX5_sends_116 (by decide) ?_
      rw [if_pos c8] at eF12
      subst eF12
      exact J
    · refine x_iconst (pc := 112) (v := (1 : Int32)) dX5_sends_112 (by decide) ?_
      refine x_goto (pc := 113) (tgt := 117) dX5_sends_113 (by decide) ?_
      rw [if_neg c8] at eF12
      subst eF12
      exact J
  refine x_iadd (pc := 117) dX5_sends_117 ?_
  obtain ⟨q118, hp⟩ := hp
  refine x_iast (pc := 118) (e' := arI 103 (upd (upd t (F1.toNatClampNeg) ((t (F1.toNatClampNeg)) + (1 : Int32))) (F11.toNatClampNeg) (((upd t (F1.toNatClampNeg) ((t (F1.toNatClampNeg)) + (1 : Int32))) (F11.toNatClampNeg)) + F12))) dX5_sends_118 hAt_same q118 (j := (F11.toNatClampNeg)) rfl rfl ?_
  refine Wp.eqh (h' := (hSet (hSet h o (moC nw rd sd pa xt (upd (upd m 3 F7) 4 F10))) ta (arI 103 (upd (upd t (F1.toNatClampNeg) ((t (F1.toNatClampNeg)) + (1 : Int32))) (F11.toNatClampNeg) (((upd t (F1.toNatClampNeg) ((t (F1.toNatClampNeg)) + (1 : Int32))) (F11.toNatClampNeg)) + F12))))) (hSet_set) ?_
  refine x_aload_n (pc := 119) dX5_sends_119 rfl ?_
  refine x_iload_n (pc := 120) dX5_sends_120 rfl ?_
  refine x_bipush (pc := 121) (v := (8 : Int32)) dX5_sends_121 (by decide) ?_
  refine x_cS2i (pc := 123) dX5_sends_123 xl_X5_36 xs_X5_at (C_X5_at G _ i (8 : Int32)) rfl rfl rfl ?_
  obtain ⟨F13, eF13⟩ : ∃ F, f_X5_at i (8 : Int32) = F := ⟨_, rfl⟩
  rw [eF13]
  try rw [eF13] at er
  try rw [eF13] at hp
  refine x_dup2 (pc := 126) dX5_sends_126 rfl rfl ?_
  obtain ⟨q127, hp⟩ := hp
  refine x_iald (pc := 127) dX5_sends_127 hAt_same q127 (j := (F13.toNatClampNeg)) rfl ?_
  refine x_aload_n (pc := 128) dX5_sends_128 rfl ?_
  refine x_cV0i (pc := 129) dX5_sends_129 xl_X5_162 xv_X5_isGone (hAt_n n_o_ta hAt_same) rfl (C_X5_isGone G _ o nw rd sd pa xt (upd (upd m 3 F7) 4 F10) (hAt_n n_o_ta hAt_same)) rfl rfl rfl ?_
  obtain ⟨F14, eF14⟩ : ∃ F, f_X5_isGone (upd (upd m 3 F7) 4 F10) = F := ⟨_, rfl⟩
  rw [eF14]
  try rw [eF14] at er
  try rw [eF14] at hp
  have bF14 : xB F14 := by rw [← eF14]; exact (B_X5_isGone _)
  obtain ⟨F15, eF15⟩ : ∃ F, (if F14 = 0 then (0 : Int32) else (1 : Int32)) = F := ⟨_, rfl⟩
  try rw [eF15] at er
  try rw [eF15] at hp
  have bF15 : xB F15 := by rw [← eF15]; exact (xB_ite xB0 xB1)
  refine x_mrg (pc' := 140) (L' := [(4, .int F4), (0, .ref o), (1, .ref ta), (2, .int i), (3, .int size)]) (st' := [.int F15, .int ((upd (upd t (F1.toNatClampNeg) ((t (F1.toNatClampNeg)) + (1 : Int32))) (F11.toNatClampNeg) (((upd t (F1.toNatClampNeg) ((t (F1.toNatClampNeg)) + (1 : Int32))) (F11.toNatClampNeg)) + F12)) (F13.toNatClampNeg)), .int F13, .ref ta]) (h' := (hSet (hSet h o (moC nw rd sd pa xt (upd (upd m 3 F7) 4 F10))) ta (arI 103 (upd (upd t (F1.toNatClampNeg) ((t (F1.toNatClampNeg)) + (1 : Int32))) (F11.toNatClampNeg) (((upd t (F1.toNatClampNeg) ((t (F1.toNatClampNeg)) + (1 : Int32))) (F11.toNatClampNeg)) + F12))))) (fun J => ?_) ?_
  · refine x_if_eq (pc := 132) (tgt := 139) dX5_sends_132 (by decide) (fun (c9 : F14 = 0) => ?_) (fun (c9 : ¬ (F14 = 0)) => ?_)
    · refine x_iconst (pc := 139) (v := (0 : Int32)) dX5_sends_139 (by decide) ?_
      rw [if_pos c9] at eF15
      subst eF15
      exact J
    · refine x_iconst (pc := 135) (v := (1 : Int32)) dX5_sends_135 (by decide) ?_
      refine x_goto (pc := 136) (tgt := 140) dX5_sends_136 (by decide) ?_
      rw [if_neg c9] at eF15
      subst eF15
      exact J
  refine x_iadd (pc := 140) dX5_sends_140 ?_
  obtain ⟨q141, hp⟩ := hp
  refine x_iast (pc := 141) (e' := arI 103 (upd (upd (upd t (F1.toNatClampNeg) ((t (F1.toNatClampNeg)) + (1 : Int32))) (F11.toNatClampNeg) (((upd t (F1.toNatClampNeg) ((t (F1.toNatClampNeg)) + (1 : Int32))) (F11.toNatClampNeg)) + F12)) (F13.toNatClampNeg) (((upd (upd t (F1.toNatClampNeg) ((t (F1.toNatClampNeg)) + (1 : Int32))) (F11.toNatClampNeg) (((upd t (F1.toNatClampNeg) ((t (F1.toNatClampNeg)) + (1 : Int32))) (F11.toNatClampNeg)) + F12)) (F13.toNatClampNeg)) + F15))) dX5_sends_141 hAt_same q141 (j := (F13.toNatClampNeg)) rfl rfl ?_
  refine Wp.eqh (h' := (hSet (hSet h o (moC nw rd sd pa xt (upd (upd m 3 F7) 4 F10))) ta (arI 103 (upd (upd (upd t (F1.toNatClampNeg) ((t (F1.toNatClampNeg)) + (1 : Int32))) (F11.toNatClampNeg) (((upd t (F1.toNatClampNeg) ((t (F1.toNatClampNeg)) + (1 : Int32))) (F11.toNatClampNeg)) + F12)) (F13.toNatClampNeg) (((upd (upd t (F1.toNatClampNeg) ((t (F1.toNatClampNeg)) + (1 : Int32))) (F11.toNatClampNeg) (((upd t (F1.toNatClampNeg) ((t (F1.toNatClampNeg)) + (1 : Int32))) (F11.toNatClampNeg)) + F12)) (F13.toNatClampNeg)) + F15))))) (hSet_set) ?_
  subst er
  exact x_vret (pc := 142) dX5_sends_142 rfl rfl rfl ⟨rfl, rfl⟩

def g_X5_feels_104 (i : Int32) (v3 : Int32) (x_o : (Nat → Int32)) (x_ta : (Nat → Int32)) (y0 : Int32) : (Nat → Int32) := (if y0 = 0 then x_ta else (upd (upd x_ta ((f_X5_at i (0 : Int32)).toNatClampNeg) (f_X5_greater (x_ta 2) (f_X5_lesser v3 ((x_o 3) - (2 : Int32))))) ((f_X5_at i (1 : Int32)).toNatClampNeg) (f_X5_greater ((upd x_ta ((f_X5_at i (0 : Int32)).toNatClampNeg) (f_X5_greater (x_ta 2) (f_X5_lesser v3 ((x_o 3) - (2 : Int32))))) ((f_X5_at i (0 : Int32)).toNatClampNeg)) (f_X5_lesser ((upd x_ta ((f_X5_at i (0 : Int32)).toNatClampNeg) (f_X5_greater (x_ta 2) (f_X5_lesser v3 ((x_o 3) - (2 : Int32))))) ((f_X5_at i (1 : Int32)).toNatClampNeg)) ((x_o 3) - (2 : Int32))))))
def h_X5_feels_104 (i : Int32) (v3 : Int32) (x_o : (Nat → Int32)) (x_ta : (Nat → Int32)) (y0 : Int32) : Prop := ((y0 = 0 → True) ∧ (¬ (y0 = 0) → (vp_in (f_X5_at i (0 : Int32)) 103 ∧ (vp_in (f_X5_at i (0 : Int32)) 103 ∧ (vp_in (f_X5_at i (1 : Int32)) 103 ∧ (vp_in (f_X5_at i (1 : Int32)) 103 ∧ True))))))
def g_X5_feels_41 (i : Int32) (v3 : Int32) (x_ta : (Nat → Int32)) (y0 : Int32) : (Nat → Int32) := (if y0 = (3 : Int32) then (if v3 ≤ ((upd x_ta ((f_X5_at i (4 : Int32)).toNatClampNeg) (0 : Int32)) 2) then (upd x_ta ((f_X5_at i (4 : Int32)).toNatClampNeg) (0 : Int32)) else (upd (upd (upd (upd x_ta ((f_X5_at i (4 : Int32)).toNatClampNeg) (0 : Int32)) ((f_X5_at i (6 : Int32)).toNatClampNeg) (((upd x_ta ((f_X5_at i (4 : Int32)).toNatClampNeg) (0 : Int32)) ((f_X5_at i (6 : Int32)).toNatClampNeg)) + (1 : Int32))) ((f_X5_at i (1 : Int32)).toNatClampNeg) (v3 - (1 : Int32))) ((f_X5_at i (0 : Int32)).toNatClampNeg) ((upd (upd (upd x_ta ((f_X5_at i (4 : Int32)).toNatClampNeg) (0 : Int32)) ((f_X5_at i (6 : Int32)).toNatClampNeg) (((upd x_ta ((f_X5_at i (4 : Int32)).toNatClampNeg) (0 : Int32)) ((f_X5_at i (6 : Int32)).toNatClampNeg)) + (1 : Int32))) ((f_X5_at i (1 : Int32)).toNatClampNeg) (v3 - (1 : Int32))) 2))) else x_ta)
def h_X5_feels_41 (i : Int32) (v3 : Int32) (x_ta : (Nat → Int32)) (y0 : Int32) : Prop := ((y0 = (3 : Int32) → (vp_in (f_X5_at i (4 : Int32)) 103 ∧ ((v3 ≤ ((upd x_ta ((f_X5_at i (4 : Int32)).toNatClampNeg) (0 : Int32)) 2) → True) ∧ (¬ (v3 ≤ ((upd x_ta ((f_X5_at i (4 : Int32)).toNatClampNeg) (0 : Int32)) 2)) → (vp_in (f_X5_at i (6 : Int32)) 103 ∧ (vp_in (f_X5_at i (6 : Int32)) 103 ∧ (vp_in (f_X5_at i (1 : Int32)) 103 ∧ (vp_in (f_X5_at i (0 : Int32)) 103 ∧ True)))))))) ∧ (¬ (y0 = (3 : Int32)) → True))
def f_X5_feels (m t : Nat → Int32) (i : Int32) : (Nat → Int32) × (Nat → Int32) := (if (f_X5_isGone (f_X5_sends m t i (t ((f_X5_at i (0 : Int32)).toNatClampNeg))).1) = 0 then ((f_X5_sends m t i (t ((f_X5_at i (0 : Int32)).toNatClampNeg))).1, (g_X5_feels_104 i (t ((f_X5_at i (0 : Int32)).toNatClampNeg)) (f_X5_sends m t i (t ((f_X5_at i (0 : Int32)).toNatClampNeg))).1 (upd (f_X5_sends m t i (t ((f_X5_at i (0 : Int32)).toNatClampNeg))).2 ((f_X5_at i (4 : Int32)).toNatClampNeg) (0 : Int32)) ((f_X5_sends m t i (t ((f_X5_at i (0 : Int32)).toNatClampNeg))).1 4))) else ((f_X5_sends m t i (t ((f_X5_at i (0 : Int32)).toNatClampNeg))).1, (g_X5_feels_41 i (t ((f_X5_at i (0 : Int32)).toNatClampNeg)) (upd (f_X5_sends m t i (t ((f_X5_at i (0 : Int32)).toNatClampNeg))).2 ((f_X5_at i (4 : Int32)).toNatClampNeg) (((f_X5_sends m t i (t ((f_X5_at i (0 : Int32)).toNatClampNeg))).2 ((f_X5_at i (4 : Int32)).toNatClampNeg)) + (1 : Int32))) ((upd (f_X5_sends m t i (t ((f_X5_at i (0 : Int32)).toNatClampNeg))).2 ((f_X5_at i (4 : Int32)).toNatClampNeg) (((f_X5_sends m t i (t ((f_X5_at i (0 : Int32)).toNatClampNeg))).2 ((f_X5_at i (4 : Int32)).toNatClampNeg)) + (1 : Int32))) ((f_X5_at i (4 : Int32)).toNatClampNeg)))))
def p_X5_feels (m t : Nat → Int32) (i : Int32) : Prop := (vp_in (f_X5_at i (0 : Int32)) 103 ∧ (p_X5_sends m t i (t ((f_X5_at i (0 : Int32)).toNatClampNeg)) ∧ (((f_X5_isGone (f_X5_sends m t i (t ((f_X5_at i (0 : Int32)).toNatClampNeg))).1) = 0 → (vp_in (f_X5_at i (4 : Int32)) 103 ∧ ((h_X5_feels_104 i (t ((f_X5_at i (0 : Int32)).toNatClampNeg)) (f_X5_sends m t i (t ((f_X5_at i (0 : Int32)).toNatClampNeg))).1 (upd (f_X5_sends m t i (t ((f_X5_at i (0 : Int32)).toNatClampNeg))).2 ((f_X5_at i (4 : Int32)).toNatClampNeg) (0 : Int32)) ((f_X5_sends m t i (t ((f_X5_at i (0 : Int32)).toNatClampNeg))).1 4)) ∧ True))) ∧ (¬ ((f_X5_isGone (f_X5_sends m t i (t ((f_X5_at i (0 : Int32)).toNatClampNeg))).1) = 0) → (vp_in (f_X5_at i (4 : Int32)) 103 ∧ (vp_in (f_X5_at i (4 : Int32)) 103 ∧ (vp_in (f_X5_at i (4 : Int32)) 103 ∧ ((h_X5_feels_41 i (t ((f_X5_at i (0 : Int32)).toNatClampNeg)) (upd (f_X5_sends m t i (t ((f_X5_at i (0 : Int32)).toNatClampNeg))).2 ((f_X5_at i (4 : Int32)).toNatClampNeg) (((f_X5_sends m t i (t ((f_X5_at i (0 : Int32)).toNatClampNeg))).2 ((f_X5_at i (4 : Int32)).toNatClampNeg)) + (1 : Int32))) ((upd (f_X5_sends m t i (t ((f_X5_at i (0 : Int32)).toNatClampNeg))).2 ((f_X5_at i (4 : Int32)).toNatClampNeg) (((f_X5_sends m t i (t ((f_X5_at i (0 : Int32)).toNatClampNeg))).2 ((f_X5_at i (4 : Int32)).toNatClampNeg)) + (1 : Int32))) ((f_X5_at i (4 : Int32)).toNatClampNeg))) ∧ True))))))))
set_option maxRecDepth 100000 in
set_option maxHeartbeats 4000000 in
theorem C_X5_feels (G : xG) (h : xH) (o ta nw rd sd pa xt : Nat) (m t : Nat → Int32) (i : Int32) (k_o : hAt h o = some (moC nw rd sd pa xt m)) (k_ta : hAt h ta = some (arI 103 t)) (hp : p_X5_feels m t i) : Cd G 4 yX5_feels cX5_feels 5 none [.ref o, .ref ta, .int i] h none (hSet (hSet h o (moC nw rd sd pa xt (f_X5_feels m t i).1)) ta (arI 103 (f_X5_feels m t i).2)) := by
  have n_o_ta : o ≠ ta := hne_k k_o k_ta rfl
  refine Ct.of (by decide) (by rfl) ?_
  refine Wp.eqs (L' := [(0, .ref o), (1, .ref ta), (2, .int i)]) (st' := []) rfl rfl ?_
  refine Wp.eqh (h' := (hSet (hSet h o (moC nw rd sd pa xt m)) ta (arI 103 t))) (by rw [hSet_self k_o, hSet_self k_ta]) ?_
  obtain ⟨R, er⟩ : ∃ R, f_X5_feels m t i = R := ⟨_, rfl⟩
  rw [er]
  unfold f_X5_feels at er
  unfold p_X5_feels at hp
  refine x_aload_n (pc := 0) dX5_feels_0 rfl ?_
  refine x_iload_n (pc := 1) dX5_feels_1 rfl ?_
  refine x_iconst (pc := 2) (v := (0 : Int32)) dX5_feels_2 (by decide) ?_
  refine x_cS2i (pc := 3) dX5_feels_3 xl_X5_36 xs_X5_at (C_X5_at G _ i (0 : Int32)) rfl rfl rfl ?_
  obtain ⟨F1, eF1⟩ : ∃ F, f_X5_at i (0 : Int32) = F := ⟨_, rfl⟩
  rw [eF1]
  try rw [eF1] at er
  try rw [eF1] at hp
  obtain ⟨q6, hp⟩ := hp
  refine x_iald (pc := 6) dX5_feels_6 hAt_same q6 (j := (F1.toNatClampNeg)) rfl ?_
  refine x_istore_n (pc := 7) (L' := [(3, .int (t (F1.toNatClampNeg))), (0, .ref o), (1, .ref ta), (2, .int i)]) dX5_feels_7 rfl rfl ?_
  refine x_aload_n (pc := 8) dX5_feels_8 rfl ?_
  refine x_aload_n (pc := 9) dX5_feels_9 rfl ?_
  refine x_iload_n (pc := 10) dX5_feels_10 rfl ?_
  refine x_iload_n (pc := 11) dX5_feels_11 rfl ?_
  obtain ⟨q12, hp⟩ := hp
  refine x_cV3v (pc := 12) dX5_feels_12 xl_X5_165 xv_X5_sends (hAt_n n_o_ta hAt_same) rfl (C_X5_sends G _ o ta nw rd sd pa xt m t i (t (F1.toNatClampNeg)) (hAt_n n_o_ta hAt_same) hAt_same q12) rfl rfl rfl ?_
  obtain ⟨F2, eF2⟩ : ∃ F, f_X5_sends m t i (t (F1.toNatClampNeg)) = F := ⟨_, rfl⟩
  rw [eF2]
  try rw [eF2] at er
  try rw [eF2] at hp
  refine Wp.eqh (h' := (hSet (hSet h o (moC nw rd sd pa xt F2.1)) ta (arI 103 F2.2))) ((congrArg (fun z => hSet z ta _) (hSet_sw1 n_o_ta)).trans (hSet_set)) ?_
  refine x_aload_n (pc := 15) dX5_feels_15 rfl ?_
  refine x_cV0i (pc := 16) dX5_feels_16 xl_X5_162 xv_X5_isGone (hAt_n n_o_ta hAt_same) rfl (C_X5_isGone G _ o nw rd sd pa xt F2.1 (hAt_n n_o_ta hAt_same)) rfl rfl rfl ?_
  obtain ⟨F3, eF3⟩ : ∃ F, f_X5_isGone F2.1 = F := ⟨_, rfl⟩
  rw [eF3]
  try rw [eF3] at er
  try rw [eF3] at hp
  have bF3 : xB F3 := by rw [← eF3]; exact (B_X5_isGone _)
  refine x_if_eq (pc := 19) (tgt := 92) dX5_feels_19 (by decide) (fun (c1 : F3 = 0) => ?_) (fun (c1 : ¬ (F3 = 0)) => ?_)
  · rw [if_pos c1] at er
    replace hp := hp.1 c1
    refine x_aload_n (pc := 92) dX5_feels_92 rfl ?_
    refine x_iload_n (pc := 93) dX5_feels_93 rfl ?_
    refine x_iconst (pc := 94) (v := (4 : Int32)) dX5_feels_94 (by decide) ?_
    refine x_cS2i (pc := 95) dX5_feels_95 xl_X5_36 xs_X5_at (C_X5_at G _ i (4 : Int32)) rfl rfl rfl ?_
    obtain ⟨F4, eF4⟩ : ∃ F, f_X5_at i (4 : Int32) = F := ⟨_, rfl⟩
    rw [eF4]
    try rw [eF4] at er
    try rw [eF4] at hp
    refine x_iconst (pc := 98) (v := (0 : Int32)) dX5_feels_98 (by decide) ?_
    obtain ⟨q99, hp⟩ := hp
    refine x_iast (pc := 99) (e' := arI 103 (upd F2.2 (F4.toNatClampNeg) (0 : Int32))) dX5_feels_99 hAt_same q99 (j := (F4.toNatClampNeg)) rfl rfl ?_
    refine Wp.eqh (h' := (hSet (hSet h o (moC nw rd sd pa xt F2.1)) ta (arI 103 (upd F2.2 (F4.toNatClampNeg) (0 : Int32))))) (hSet_set) ?_
    refine x_aload_n (pc := 100) dX5_feels_100 rfl ?_
    refine x_getf (pc := 101) (v := .int (F2.1 4)) dX5_feels_101 xf_X5_158 (hAt_n n_o_ta hAt_same) rfl ?_
    obtain ⟨qr104, hp⟩ := hp
    obtain ⟨F16, eF16⟩ : ∃ F, g_X5_feels_104 i (t (F1.toNatClampNeg)) F2.1 (upd F2.2 (F4.toNatClampNeg) (0 : Int32)) (F2.1 4) = F := ⟨_, rfl⟩
    try rw [eF16] at er
    try rw [eF16] at hp
    refine x_mrg (pc' := 163) (L' := [(3, .int (t (F1.toNatClampNeg))), (0, .ref o), (1, .ref ta), (2, .int i)]) (st' := []) (h' := (hSet (hSet h o (moC nw rd sd pa xt F2.1)) ta (arI 103 F16))) (fun J => ?_) ?_
    · unfold g_X5_feels_104 at eF16
      unfold h_X5_feels_104 at qr104
      try rw [eF1] at eF16
      try rw [eF1] at qr104
      try rw [eF2] at eF16
      try rw [eF2] at qr104
      try rw [eF3] at eF16
      try rw [eF3] at qr104
      try rw [eF4] at eF16
      try rw [eF4] at qr104
      refine x_if_eq (pc := 104) (tgt := 163) dX5_feels_104 (by decide) (fun (c3 : (F2.1 4) = 0) => ?_) (fun (c3 : ¬ ((F2.1 4) = 0)) => ?_)
      · rw [if_pos c3] at eF16
        replace qr104 := qr104.1 c3
        subst eF16
        exact J
      · rw [if_neg c3] at eF16
        replace qr104 := qr104.2 c3
        refine x_aload_n (pc := 107) dX5_feels_107 rfl ?_
        refine x_getf (pc := 108) (v := .int (F2.1 3)) dX5_feels_108 xf_X5_151 (hAt_n n_o_ta hAt_same) rfl ?_
        refine x_iconst (pc := 111) (v := (2 : Int32)) dX5_feels_111 (by decide) ?_
        refine x_isub (pc := 112) dX5_feels_112 ?_
        refine x_istore (pc := 113) (L' := [(4, .int ((F2.1 3) - (2 : Int32))), (3, .int (t (F1.toNatClampNeg))), (0, .ref o), (1, .ref ta), (2, .int i)]) dX5_feels_113 rfl rfl ?_
        refine x_aload_n (pc := 115) dX5_feels_115 rfl ?_
        refine x_iload_n (pc := 116) dX5_feels_116 rfl ?_
        refine x_iconst (pc := 117) (v := (0 : Int32)) dX5_feels_117 (by decide) ?_
        refine x_cS2i (pc := 118) dX5_feels_118 xl_X5_36 xs_X5_at (C_X5_at G _ i (0 : Int32)) rfl rfl rfl ?_
        rw [eF1]
        refine x_aload_n (pc := 121) dX5_feels_121 rfl ?_
        refine x_iconst (pc := 122) (v := (2 : Int32)) dX5_feels_122 (by decide) ?_
        refine x_iald (pc := 123) dX5_feels_123 hAt_same (vp_in_nI (n := 2) (by decide) (by decide)) (j := 2) (nI_clamp (n := 2) (by decide)) ?_
        refine x_iload_n (pc := 124) dX5_feels_124 rfl ?_
        refine x_iload (pc := 125) dX5_feels_125 rfl ?_
        refine x_cS2i (pc := 127) dX5_feels_127 xl_X5_169 xs_X5_lesser (C_X5_lesser G _ (t (F1.toNatClampNeg)) ((F2.1 3) - (2 : Int32))) rfl rfl rfl ?_
        obtain ⟨F11, eF11⟩ : ∃ F, f_X5_lesser (t (F1.toNatClampNeg)) ((F2.1 3) - (2 : Int32)) = F := ⟨_, rfl⟩
        rw [eF11]
        try rw [eF11] at eF16
        try rw [eF11] at qr104
        refine x_cS2i (pc := 130) dX5_feels_130 xl_X5_142 xs_X5_greater (C_X5_greater G _ ((upd F2.2 (F4.toNatClampNeg) (0 : Int32)) 2) F11) rfl rfl rfl ?_
        obtain ⟨F12, eF12⟩ : ∃ F, f_X5_greater ((upd F2.2 (F4.toNatClampNeg) (0 : Int32)) 2) F11 = F := ⟨_, rfl⟩
        rw [eF12]
        try rw [eF12] at eF16
        try rw [eF12] at qr104
        obtain ⟨q133, qr104⟩ := qr104
        refine x_iast (pc := 133) (e' := arI 103 (upd (upd F2.2 (F4.toNatClampNeg) (0 : Int32)) (F1.toNatClampNeg) F12)) dX5_feels_133 hAt_same q133 (j := (F1.toNatClampNeg)) rfl rfl ?_
        refine Wp.eqh (h' := (hSet (hSet h o (moC nw rd sd pa xt F2.1)) ta (arI 103 (upd (upd F2.2 (F4.toNatClampNeg) (0 : Int32)) (F1.toNatClampNeg) F12)))) (hSet_set) ?_
        refine x_aload_n (pc := 134) dX5_feels_134 rfl ?_
        refine x_iload_n (pc := 135) dX5_feels_135 rfl ?_
        refine x_iconst (pc := 136) (v := (1 : Int32)) dX5_feels_136 (by decide) ?_
        refine x_cS2i (pc := 137) dX5_feels_137 xl_X5_36 xs_X5_at (C_X5_at G _ i (1 : Int32)) rfl rfl rfl ?_
        obtain ⟨F13, eF13⟩ : ∃ F, f_X5_at i (1 : Int32) = F := ⟨_, rfl⟩
        rw [eF13]
        try rw [eF13] at eF16
        try rw [eF13] at qr104
        refine x_aload_n (pc := 140) dX5_feels_140 rfl ?_
        refine x_iload_n (pc := 141) dX5_feels_141 rfl ?_
        refine x_iconst (pc := 142) (v := (0 : Int32)) dX5_feels_142 (by decide) ?_
        refine x_cS2i (pc := 143) dX5_feels_143 xl_X5_36 xs_X5_at (C_X5_at G _ i (0 : Int32)) rfl rfl rfl ?_
        rw [eF1]
        obtain ⟨q146, qr104⟩ := qr104
        refine x_iald (pc := 146) dX5_feels_146 hAt_same q146 (j := (F1.toNatClampNeg)) rfl ?_
        refine x_aload_n (pc := 147) dX5_feels_147 rfl ?_
        refine x_iload_n (pc := 148) dX5_feels_148 rfl ?_
        refine x_iconst (pc := 149) (v := (1 : Int32)) dX5_feels_149 (by decide) ?_
        refine x_cS2i (pc := 150) dX5_feels_150 xl_X5_36 xs_X5_at (C_X5_at G _ i (1 : Int32)) rfl rfl rfl ?_
        rw [eF13]
        obtain ⟨q153, qr104⟩ := qr104
        refine x_iald (pc := 153) dX5_feels_153 hAt_same q153 (j := (F13.toNatClampNeg)) rfl ?_
        refine x_iload (pc := 154) dX5_feels_154 rfl ?_
        refine x_cS2i (pc := 156) dX5_feels_156 xl_X5_169 xs_X5_lesser (C_X5_lesser G _ ((upd (upd F2.2 (F4.toNatClampNeg) (0 : Int32)) (F1.toNatClampNeg) F12) (F13.toNatClampNeg)) ((F2.1 3) - (2 : Int32))) rfl rfl rfl ?_
        obtain ⟨F14, eF14⟩ : ∃ F, f_X5_lesser ((upd (upd F2.2 (F4.toNatClampNeg) (0 : Int32)) (F1.toNatClampNeg) F12) (F13.toNatClampNeg)) ((F2.1 3) - (2 : Int32)) = F := ⟨_, rfl⟩
        rw [eF14]
        try rw [eF14] at eF16
        try rw [eF14] at qr104
        refine x_cS2i (pc := 159) dX5_feels_159 xl_X5_142 xs_X5_greater (C_X5_greater G _ ((upd (upd F2.2 (F4.toNatClampNeg) (0 : Int32)) (F1.toNatClampNeg) F12) (F1.toNatClampNeg)) F14) rfl rfl rfl ?_
        obtain ⟨F15, eF15⟩ : ∃ F, f_X5_greater ((upd (upd F2.2 (F4.toNatClampNeg) (0 : Int32)) (F1.toNatClampNeg) F12) (F1.toNatClampNeg)) F14 = F := ⟨_, rfl⟩
        rw [eF15]
        try rw [eF15] at eF16
        try rw [eF15] at qr104
        obtain ⟨q162, qr104⟩ := qr104
        refine x_iast (pc := 162) (e' := arI 103 (upd (upd (upd F2.2 (F4.toNatClampNeg) (0 : Int32)) (F1.toNatClampNeg) F12) (F13.toNatClampNeg) F15)) dX5_feels_162 hAt_same q162 (j := (F13.toNatClampNeg)) rfl rfl ?_
        refine Wp.eqh (h' := (hSet (hSet h o (moC nw rd sd pa xt F2.1)) ta (arI 103 (upd (upd (upd F2.2 (F4.toNatClampNeg) (0 : Int32)) (F1.toNatClampNeg) F12) (F13.toNatClampNeg) F15)))) (hSet_set) ?_
        subst eF16
        refine Wp.sub [1, 2, 3, 4] (L' := [(3, .int (t (F1.toNatClampNeg))), (0, .ref o), (1, .ref ta), (2, .int i)]) rfl ?_
        exact J
    subst er
    exact x_vret (pc := 163) dX5_feels_163 rfl rfl rfl ⟨rfl, rfl⟩
  · rw [if_neg c1] at er
    replace hp := hp.2 c1
    refine x_aload_n (pc := 22) dX5_feels_22 rfl ?_
    refine x_iload_n (pc := 23) dX5_feels_23 rfl ?_
    refine x_iconst (pc := 24) (v := (4 : Int32)) dX5_feels_24 (by decide) ?_
    refine x_cS2i (pc := 25) dX5_feels_25 xl_X5_36 xs_X5_at (C_X5_at G _ i (4 : Int32)) rfl rfl rfl ?_
    obtain ⟨F17, eF17⟩ : ∃ F, f_X5_at i (4 : Int32) = F := ⟨_, rfl⟩
    rw [eF17]
    try rw [eF17] at er
    try rw [eF17] at hp
    refine x_dup2 (pc := 28) dX5_feels_28 rfl rfl ?_
    obtain ⟨q29, hp⟩ := hp
    refine x_iald (pc := 29) dX5_feels_29 hAt_same q29 (j := (F17.toNatClampNeg)) rfl ?_
    refine x_iconst (pc := 30) (v := (1 : Int32)) dX5_feels_30 (by decide) ?_
    refine x_iadd (pc := 31) dX5_feels_31 ?_
    obtain ⟨q32, hp⟩ := hp
    refine x_iast (pc := 32) (e' := arI 103 (upd F2.2 (F17.toNatClampNeg) ((F2.2 (F17.toNatClampNeg)) + (1 : Int32)))) dX5_feels_32 hAt_same q32 (j := (F17.toNatClampNeg)) rfl rfl ?_
    refine Wp.eqh (h' := (hSet (hSet h o (moC nw rd sd pa xt F2.1)) ta (arI 103 (upd F2.2 (F17.toNatClampNeg) ((F2.2 (F17.toNatClampNeg)) + (1 : Int32)))))) (hSet_set) ?_
    refine x_aload_n (pc := 33) dX5_feels_33 rfl ?_
    refine x_iload_n (pc := 34) dX5_feels_34 rfl ?_
    refine x_iconst (pc := 35) (v := (4 : Int32)) dX5_feels_35 (by decide) ?_
    refine x_cS2i (pc := 36) dX5_feels_36 xl_X5_36 xs_X5_at (C_X5_at G _ i (4 : Int32)) rfl rfl rfl ?_
    rw [eF17]
    obtain ⟨q39, hp⟩ := hp
    refine x_iald (pc := 39) dX5_feels_39 hAt_same q39 (j := (F17.toNatClampNeg)) rfl ?_
    refine x_iconst (pc := 40) (v := (3 : Int32)) dX5_feels_40 (by decide) ?_
    obtain ⟨qr41, hp⟩ := hp
    obtain ⟨F24, eF24⟩ : ∃ F, g_X5_feels_41 i (t (F1.toNatClampNeg)) (upd F2.2 (F17.toNatClampNeg) ((F2.2 (F17.toNatClampNeg)) + (1 : Int32))) ((upd F2.2 (F17.toNatClampNeg) ((F2.2 (F17.toNatClampNeg)) + (1 : Int32))) (F17.toNatClampNeg)) = F := ⟨_, rfl⟩
    try rw [eF24] at er
    try rw [eF24] at hp
    refine x_mrg (pc' := 91) (L' := [(3, .int (t (F1.toNatClampNeg))), (0, .ref o), (1, .ref ta), (2, .int i)]) (st' := []) (h' := (hSet (hSet h o (moC nw rd sd pa xt F2.1)) ta (arI 103 F24))) (fun J => ?_) ?_
    · unfold g_X5_feels_41 at eF24
      unfold h_X5_feels_41 at qr41
      try rw [eF1] at eF24
      try rw [eF1] at qr41
      try rw [eF2] at eF24
      try rw [eF2] at qr41
      try rw [eF3] at eF24
      try rw [eF3] at qr41
      try rw [eF17] at eF24
      try rw [eF17] at qr41
      refine x_icmp_ne (pc := 41) (tgt := 91) dX5_feels_41 (by decide) (fun (c6 : ¬ (((upd F2.2 (F17.toNatClampNeg) ((F2.2 (F17.toNatClampNeg)) + (1 : Int32))) (F17.toNatClampNeg)) = (3 : Int32))) => ?_) (fun (c6 : ((upd F2.2 (F17.toNatClampNeg) ((F2.2 (F17.toNatClampNeg)) + (1 : Int32))) (F17.toNatClampNeg)) = (3 : Int32)) => ?_)
      · rw [if_neg c6] at eF24
        replace qr41 := qr41.2 c6
        subst eF24
        exact J
      · rw [if_pos c6] at eF24
        replace qr41 := qr41.1 c6
        refine x_aload_n (pc := 44) dX5_feels_44 rfl ?_
        refine x_iload_n (pc := 45) dX5_feels_45 rfl ?_
        refine x_iconst (pc := 46) (v := (4 : Int32)) dX5_feels_46 (by decide) ?_
        refine x_cS2i (pc := 47) dX5_feels_47 xl_X5_36 xs_X5_at (C_X5_at G _ i (4 : Int32)) rfl rfl rfl ?_
        rw [eF17]
        refine x_iconst (pc := 50) (v := (0 : Int32)) dX5_feels_50 (by decide) ?_
        obtain ⟨q51, qr41⟩ := qr41
        refine x_iast (pc := 51) (e' := arI 103 (upd (upd F2.2 (F17.toNatClampNeg) ((F2.2 (F17.toNatClampNeg)) + (1 : Int32))) (F17.toNatClampNeg) (0 : Int32))) dX5_feels_51 hAt_same q51 (j := (F17.toNatClampNeg)) rfl rfl ?_
        refine Wp.eqh (h' := (hSet (hSet h o (moC nw rd sd pa xt F2.1)) ta (arI 103 (upd (upd F2.2 (F17.toNatClampNeg) ((F2.2 (F17.toNatClampNeg)) + (1 : Int32))) (F17.toNatClampNeg) (0 : Int32))))) (hSet_set) ?_
        refine x_iload_n (pc := 52) dX5_feels_52 rfl ?_
        refine x_aload_n (pc := 53) dX5_feels_53 rfl ?_
        refine x_iconst (pc := 54) (v := (2 : Int32)) dX5_feels_54 (by decide) ?_
        refine x_iald (pc := 55) dX5_feels_55 hAt_same (vp_in_nI (n := 2) (by decide) (by decide)) (j := 2) (nI_clamp (n := 2) (by decide)) ?_
        refine x_icmp_le (pc := 56) (tgt := 91) dX5_feels_56 (by decide) (fun (c7 : (t (F1.toNatClampNeg)) ≤ ((upd (upd F2.2 (F17.toNatClampNeg) ((F2.2 (F17.toNatClampNeg)) + (1 : Int32))) (F17.toNatClampNeg) (0 : Int32)) 2)) => ?_) (fun (c7 : ¬ ((t (F1.toNatClampNeg)) ≤ ((upd (upd F2.2 (F17.toNatClampNeg) ((F2.2 (F17.toNatClampNeg)) + (1 : Int32))) (F17.toNatClampNeg) (0 : Int32)) 2))) => ?_)
        · rw [if_pos c7] at eF24
          replace qr41 := qr41.1 c7
          subst eF24
          exact J
        · rw [if_neg c7] at eF24
          replace qr41 := qr41.2 c7
          refine x_aload_n (pc := 59) dX5_feels_59 rfl ?_
          refine x_iload_n (pc := 60) dX5_feels_60 rfl ?_
          refine x_bipush (pc := 61) (v := (6 : Int32)) dX5_feels_61 (by decide) ?_
          refine x_cS2i (pc := 63) dX5_feels_63 xl_X5_36 xs_X5_at (C_X5_at G _ i (6 : Int32)) rfl rfl rfl ?_
          obtain ⟨F22, eF22⟩ : ∃ F, f_X5_at i (6 : Int32) = F := ⟨_, rfl⟩
          rw [eF22]
          try rw [eF22] at eF24
          try rw [eF22] at qr41
          refine x_dup2 (pc := 66) dX5_feels_66 rfl rfl ?_
          obtain ⟨q67, qr41⟩ := qr41
          refine x_iald (pc := 67) dX5_feels_67 hAt_same q67 (j := (F22.toNatClampNeg)) rfl ?_
          refine x_iconst (pc := 68) (v := (1 : Int32)) dX5_feels_68 (by decide) ?_
          refine x_iadd (pc := 69) dX5_feels_69 ?_
          obtain ⟨q70, qr41⟩ := qr41
          refine x_iast (pc := 70) (e' := arI 103 (upd (upd (upd F2.2 (F17.toNatClampNeg) ((F2.2 (F17.toNatClampNeg)) + (1 : Int32))) (F17.toNatClampNeg) (0 : Int32)) (F22.toNatClampNeg) (((upd (upd F2.2 (F17.toNatClampNeg) ((F2.2 (F17.toNatClampNeg)) + (1 : Int32))) (F17.toNatClampNeg) (0 : Int32)) (F22.toNatClampNeg)) + (1 : Int32)))) dX5_feels_70 hAt_same q70 (j := (F22.toNatClampNeg)) rfl rfl ?_
          refine Wp.eqh (h' := (hSet (hSet h o (moC nw rd sd pa xt F2.1)) ta (arI 103 (upd (upd (upd F2.2 (F17.toNatClampNeg) ((F2.2 (F17.toNatClampNeg)) + (1 : Int32))) (F17.toNatClampNeg) (0 : Int32)) (F22.toNatClampNeg) (((upd (upd F2.2 (F17.toNatClampNeg) ((F2.2 (F17.toNatClampNeg)) + (1 : Int32))) (F17.toNatClampNeg) (0 : Int32)) (F22.toNatClampNeg)) + (1 : Int32)))))) (hSet_set) ?_
          refine x_aload_n (pc := 71) dX5_feels_71 rfl ?_
          refine x_iload_n (pc := 72) dX5_feels_72 rfl ?_
          refine x_iconst (pc := 73) (v := (1 : Int32)) dX5_feels_73 (by decide) ?_
          refine x_cS2i (pc := 74) dX5_feels_74 xl_X5_36 xs_X5_at (C_X5_at G _ i (1 : Int32)) rfl rfl rfl ?_
          obtain ⟨F23, eF23⟩ : ∃ F, f_X5_at i (1 : Int32) = F := ⟨_, rfl⟩
          rw [eF23]
          try rw [eF23] at eF24
          try rw [eF23] at qr41
          refine x_iload_n (pc := 77) dX5_feels_77 rfl ?_
          refine x_iconst (pc := 78) (v := (1 : Int32)) dX5_feels_78 (by decide) ?_
          refine x_isub (pc := 79) dX5_feels_79 ?_
          obtain ⟨q80, qr41⟩ := qr41
          refine x_iast (pc := 80) (e' := arI 103 (upd (upd (upd (upd F2.2 (F17.toNatClampNeg) ((F2.2 (F17.toNatClampNeg)) + (1 : Int32))) (F17.toNatClampNeg) (0 : Int32)) (F22.toNatClampNeg) (((upd (upd F2.2 (F17.toNatClampNeg) ((F2.2 (F17.toNatClampNeg)) + (1 : Int32))) (F17.toNatClampNeg) (0 : Int32)) (F22.toNatClampNeg)) + (1 : Int32))) (F23.toNatClampNeg) ((t (F1.toNatClampNeg)) - (1 : Int32)))) dX5_feels_80 hAt_same q80 (j := (F23.toNatClampNeg)) rfl rfl ?_
          refine Wp.eqh (h' := (hSet (hSet h o (moC nw rd sd pa xt F2.1)) ta (arI 103 (upd (upd (upd (upd F2.2 (F17.toNatClampNeg) ((F2.2 (F17.toNatClampNeg)) + (1 : Int32))) (F17.toNatClampNeg) (0 : Int32)) (F22.toNatClampNeg) (((upd (upd F2.2 (F17.toNatClampNeg) ((F2.2 (F17.toNatClampNeg)) + (1 : Int32))) (F17.toNatClampNeg) (0 : Int32)) (F22.toNatClampNeg)) + (1 : Int32))) (F23.toNatClampNeg) ((t (F1.toNatClampNeg)) - (1 : Int32)))))) (hSet_set) ?_
          refine x_aload_n (pc := 81) dX5_feels_81 rfl ?_
          refine x_iload_n (pc := 82) dX5_feels_82 rfl ?_
          refine x_iconst (pc := 83) (v := (0 : Int32)) dX5_feels_83 (by decide) ?_
          refine x_cS2i (pc := 84) dX5_feels_84 xl_X5_36 xs_X5_at (C_X5_at G _ i (0 : Int32)) rfl rfl rfl ?_
          rw [eF1]
          refine x_aload_n (pc := 87) dX5_feels_87 rfl ?_
          refine x_iconst (pc := 88) (v := (2 : Int32)) dX5_feels_88 (by decide) ?_
          refine x_iald (pc := 89) dX5_feels_89 hAt_same (vp_in_nI (n := 2) (by decide) (by decide)) (j := 2) (nI_clamp (n := 2) (by decide)) ?_
          obtain ⟨q90, qr41⟩ := qr41
          refine x_iast (pc := 90) (e' := arI 103 (upd (upd (upd (upd (upd F2.2 (F17.toNatClampNeg) ((F2.2 (F17.toNatClampNeg)) + (1 : Int32))) (F17.toNatClampNeg) (0 : Int32)) (F22.toNatClampNeg) (((upd (upd F2.2 (F17.toNatClampNeg) ((F2.2 (F17.toNatClampNeg)) + (1 : Int32))) (F17.toNatClampNeg) (0 : Int32)) (F22.toNatClampNeg)) + (1 : Int32))) (F23.toNatClampNeg) ((t (F1.toNatClampNeg)) - (1 : Int32))) (F1.toNatClampNeg) ((upd (upd (upd (upd F2.2 (F17.toNatClampNeg) ((F2.2 (F17.toNatClampNeg)) + (1 : Int32))) (F17.toNatClampNeg) (0 : Int32)) (F22.toNatClampNeg) (((upd (upd F2.2 (F17.toNatClampNeg) ((F2.2 (F17.toNatClampNeg)) + (1 : Int32))) (F17.toNatClampNeg) (0 : Int32)) (F22.toNatClampNeg)) + (1 : Int32))) (F23.toNatClampNeg) ((t (F1.toNatClampNeg)) - (1 : Int32))) 2))) dX5_feels_90 hAt_same q90 (j := (F1.toNatClampNeg)) rfl rfl ?_
          refine Wp.eqh (h' := (hSet (hSet h o (moC nw rd sd pa xt F2.1)) ta (arI 103 (upd (upd (upd (upd (upd F2.2 (F17.toNatClampNeg) ((F2.2 (F17.toNatClampNeg)) + (1 : Int32))) (F17.toNatClampNeg) (0 : Int32)) (F22.toNatClampNeg) (((upd (upd F2.2 (F17.toNatClampNeg) ((F2.2 (F17.toNatClampNeg)) + (1 : Int32))) (F17.toNatClampNeg) (0 : Int32)) (F22.toNatClampNeg)) + (1 : Int32))) (F23.toNatClampNeg) ((t (F1.toNatClampNeg)) - (1 : Int32))) (F1.toNatClampNeg) ((upd (upd (upd (upd F2.2 (F17.toNatClampNeg) ((F2.2 (F17.toNatClampNeg)) + (1 : Int32))) (F17.toNatClampNeg) (0 : Int32)) (F22.toNatClampNeg) (((upd (upd F2.2 (F17.toNatClampNeg) ((F2.2 (F17.toNatClampNeg)) + (1 : Int32))) (F17.toNatClampNeg) (0 : Int32)) (F22.toNatClampNeg)) + (1 : Int32))) (F23.toNatClampNeg) ((t (F1.toNatClampNeg)) - (1 : Int32))) 2))))) (hSet_set) ?_
          subst eF24
          exact J
    subst er
    exact x_vret (pc := 91) dX5_feels_91 rfl rfl rfl ⟨rfl, rfl⟩
