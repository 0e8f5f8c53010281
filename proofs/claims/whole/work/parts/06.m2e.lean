def g_X5_puts_17 (tr : (Nat → Int32)) (place : Int32) (v4 : Int32) : Int32 := (if v4 = (-4 : Int32) then (tr (place.toNatClampNeg)) else v4)
def h_X5_puts_17 (tr : (Nat → Int32)) (place : Int32) (v4 : Int32) : Prop := ((v4 = (-4 : Int32) → (vp_in place 103 ∧ True)) ∧ (¬ (v4 = (-4 : Int32)) → True))
def f_X5_puts (m tr tx : Nat → Int32) (place lo hi : Int32) : Int32 × (Nat → Int32) × (Nat → Int32) := (((if (f_X5_takesNumber m tx lo hi).1 = (-4 : Int32) then (0 : Int32) else (1 : Int32))), (f_X5_takesNumber m tx lo hi).2, (upd tr (place.toNatClampNeg) (g_X5_puts_17 tr place (f_X5_takesNumber m tx lo hi).1)))
def p_X5_puts (m tr tx : Nat → Int32) (place lo hi : Int32) : Prop := (p_X5_takesNumber m tx lo hi ∧ ((h_X5_puts_17 tr place (f_X5_takesNumber m tx lo hi).1) ∧ (vp_in place 103 ∧ True)))
set_option maxRecDepth 100000 in
set_option maxHeartbeats 4000000 in
theorem C_X5_puts (G : xG) (h : xH) (o nw rd sd pa xt : Nat) (m tr tx : Nat → Int32) (place lo hi : Int32) (k_o : hAt h o = some (moC nw rd sd pa xt m)) (k_rd : hAt h rd = some (arI 103 tr)) (k_xt : hAt h xt = some (arI 240 tx)) (n_rd_xt : rd ≠ xt) (hp : p_X5_puts m tr tx place lo hi) : Cd G 4 yX5_puts cX5_puts 5 (some .boolean) [.ref o, .int place, .int lo, .int hi] h (some (.int (f_X5_puts m tr tx place lo hi).1)) (hSet (hSet h o (moC nw rd sd pa xt (f_X5_puts m tr tx place lo hi).2.1)) rd (arI 103 (f_X5_puts m tr tx place lo hi).2.2)) := by
  have n_o_rd : o ≠ rd := hne_k k_o k_rd rfl
  have n_xt_o : xt ≠ o := hne_k k_xt k_o rfl
  have n_xt_rd : xt ≠ rd := Ne.symm n_rd_xt
  refine Ct.of (by decide) (by rfl) ?_
  refine Wp.eqs (L' := [(0, .ref o), (1, .int place), (2, .int lo), (3, .int hi)]) (st' := []) rfl rfl ?_
  refine Wp.eqh (h' := (hSet (hSet h o (moC nw rd sd pa xt m)) rd (arI 103 tr))) (by rw [hSet_self k_o, hSet_self k_rd]) ?_
  obtain ⟨R, er⟩ : ∃ R, f_X5_puts m tr tx place lo hi = R := ⟨_, rfl⟩
  rw [er]
  unfold f_X5_puts at er
  unfold p_X5_puts at hp
  refine x_aload_n (pc := 0) dX5_puts_0 rfl ?_
  refine x_iload_n (pc := 1) dX5_puts_1 rfl ?_
  refine x_iload_n (pc := 2) dX5_puts_2 rfl ?_
  obtain ⟨q3, hp⟩ := hp
  refine x_cV2i (pc := 3) dX5_puts_3 xl_X5_74 xv_X5_takesNumber (hAt_n n_o_rd hAt_same) rfl (C_X5_takesNumber G _ o nw rd sd pa xt m tx lo hi (hAt_n n_o_rd hAt_same) (hAt_n n_xt_rd (hAt_n n_xt_o k_xt)) q3) rfl rfl rfl ?_
  obtain ⟨F1, eF1⟩ : ∃ F, f_X5_takesNumber m tx lo hi = F := ⟨_, rfl⟩
  rw [eF1]
  try rw [eF1] at er
  try rw [eF1] at hp
  refine Wp.eqh (h' := (hSet (hSet h o (moC nw rd sd pa xt F1.2)) rd (arI 103 tr))) (hSet_sw1 n_o_rd) ?_
  refine x_istore (pc := 6) (L' := [(4, .int F1.1), (0, .ref o), (1, .int place), (2, .int lo), (3, .int hi)]) dX5_puts_6 rfl rfl ?_
  refine x_aload_n (pc := 8) dX5_puts_8 rfl ?_
  refine x_getf (pc := 9) (v := .ref rd) dX5_puts_9 xf_X5_13 (hAt_n n_o_rd hAt_same) rfl ?_
  refine x_iload_n (pc := 12) dX5_puts_12 rfl ?_
  refine x_iload (pc := 13) dX5_puts_13 rfl ?_
  refine x_bipush (pc := 15) (v := (-4 : Int32)) dX5_puts_15 (by decide) ?_
  obtain ⟨qr17, hp⟩ := hp
  obtain ⟨F2, eF2⟩ : ∃ F, g_X5_puts_17 tr place F1.1 = F := ⟨_, rfl⟩
  try rw [eF2] at er
  try rw [eF2] at hp
  refine x_mrg (pc' := 31) (L' := [(4, .int F1.1), (0, .ref o), (1, .int place), (2, .int lo), (3, .int hi)]) (st' := [.int F2, .int place, .ref rd]) (h' := (hSet (hSet h o (moC nw rd sd pa xt F1.2)) rd (arI 103 tr))) (fun J => ?_) ?_
  · unfold g_X5_puts_17 at eF2
    unfold h_X5_puts_17 at qr17
    try rw [eF1] at eF2
    try rw [eF1] at qr17
    refine x_icmp_ne (pc := 17) (tgt := 29) dX5_puts_17 (by decide) (fun (c2 : ¬ (F1.1 = (-4 : Int32))) => ?_) (fun (c2 : F1.1 = (-4 : Int32)) => ?_)
    · rw [if_neg c2] at eF2
      replace qr17 := qr17.2 c2
      refine x_iload (pc := 29) dX5_puts_29 rfl ?_
      subst eF2
      exact J
    · rw [if_pos c2] at eF2
      replace qr17 := qr17.1 c2
      refine x_aload_n (pc := 20) dX5_puts_20 rfl ?_
      refine x_getf (pc := 21) (v := .ref rd) dX5_puts_21 xf_X5_13 (hAt_n n_o_rd hAt_same) rfl ?_
      refine x_iload_n (pc := 24) dX5_puts_24 rfl ?_
      obtain ⟨q25, qr17⟩ := qr17
      refine x_iald (pc := 25) dX5_puts_25 hAt_same q25 (j := (place.toNatClampNeg)) rfl ?_
      refine x_goto (pc := 26) (tgt := 31) dX5_puts_26 (by decide) ?_
      subst eF2
      exact J
  obtain ⟨q31, hp⟩ := hp
  refine x_iast (pc := 31) (e' := arI 103 (upd tr (place.toNatClampNeg) F2)) dX5_puts_31 hAt_same q31 (j := (place.toNatClampNeg)) rfl rfl ?_
  refine Wp.eqh (h' := (hSet (hSet h o (moC nw rd sd pa xt F1.2)) rd (arI 103 (upd tr (place.toNatClampNeg) F2)))) (hSet_set) ?_
  refine x_iload (pc := 32) dX5_puts_32 rfl ?_
  refine x_bipush (pc := 34) (v := (-4 : Int32)) dX5_puts_34 (by decide) ?_
  obtain ⟨F3, eF3⟩ : ∃ F, (if F1.1 = (-4 : Int32) then (0 : Int32) else (1 : Int32)) = F := ⟨_, rfl⟩
  try rw [eF3] at er
  try rw [eF3] at hp
  have bF3 : xB F3 := by rw [← eF3]; exact (xB_ite xB0 xB1)
  refine x_mrg (pc' := 44) (L' := [(4, .int F1.1), (0, .ref o), (1, .int place), (2, .int lo), (3, .int hi)]) (st' := [.int F3]) (h' := (hSet (hSet h o (moC nw rd sd pa xt F1.2)) rd (arI 103 (upd tr (place.toNatClampNeg) F2)))) (fun J => ?_) ?_
  · refine x_icmp_eq (pc := 36) (tgt := 43) dX5_puts_36 (by decide) (fun (c3 : F1.1 = (-4 : Int32)) => ?_) (fun (c3 : ¬ (F1.1 = (-4 : Int32))) => ?_)
    · refine x_iconst (pc := 43) (v := (0 : Int32)) dX5_puts_43 (by decide) ?_
      rw [if_pos c3] at eF3
      subst eF3
      exact J
    · refine x_iconst (pc := 39) (v := (1 : Int32)) dX5_puts_39 (by decide) ?_
      refine x_goto (pc := 40) (tgt := 44) dX5_puts_40 (by decide) ?_
      rw [if_neg c3] at eF3
      subst eF3
      exact J
  subst er
  exact x_iret (pc := 44) dX5_puts_44 rfl (xb_nar bF3) rfl rfl ⟨rfl, rfl⟩
theorem B_X5_puts (m tr tx : Nat → Int32) (place lo hi : Int32) : xB (f_X5_puts m tr tx place lo hi).1 := by
  unfold f_X5_puts
  exact (xB_fst (xB_ite xB0 xB1))

def g_X5_takesHop_37 (v2 : Int64) (y0 : Int32) : Int32 := (if y0 = 0 then (0 : Int32) else (if (lg_cmp v2 (24722887 : Int64)) = 0 then (1 : Int32) else (if (lg_cmp v2 (15748 : Int64)) = 0 then (2 : Int32) else (if (lg_cmp v2 (647370196 : Int64)) = 0 then (3 : Int32) else (-4 : Int32)))))
def g_X5_takesHop_88 (tr : (Nat → Int32)) (v4 : Int32) (v1 : Int32) (x_o : (Nat → Int32)) : Int32 × (Nat → Int32) := (if v4 = (-4 : Int32) then ((0 : Int32), tr) else (if (f_X5_addsHop x_o tr v1 v4).1 = 0 then ((0 : Int32), (f_X5_addsHop x_o tr v1 v4).2) else ((1 : Int32), (f_X5_addsHop x_o tr v1 v4).2)))
def h_X5_takesHop_88 (tr : (Nat → Int32)) (v4 : Int32) (v1 : Int32) (x_o : (Nat → Int32)) : Prop := ((v4 = (-4 : Int32) → True) ∧ (¬ (v4 = (-4 : Int32)) → (p_X5_addsHop x_o tr v1 v4 ∧ (((f_X5_addsHop x_o tr v1 v4).1 = 0 → True) ∧ (¬ ((f_X5_addsHop x_o tr v1 v4).1 = 0) → True)))))
theorem Bg_X5_takesHop_88 (tr : (Nat → Int32)) (v4 : Int32) (v1 : Int32) (x_o : (Nat → Int32)) : xB (g_X5_takesHop_88 tr v4 v1 x_o).1 := by
  unfold g_X5_takesHop_88
  exact (xB_ite1 (xB_fst xB0) (xB_ite1 (xB_fst xB0) (xB_fst xB1)))
def f_X5_takesHop (m tr tx : Nat → Int32) : Int32 × (Nat → Int32) × (Nat → Int32) := (if (f_X5_takesNumber m tx (20 : Int32) (999 : Int32)).1 = (-4 : Int32) then ((0 : Int32), (f_X5_takesNumber m tx (20 : Int32) (999 : Int32)).2, tr) else (if (f_X5_takesSign (f_X5_takesNumber m tx (20 : Int32) (999 : Int32)).2 tx (32 : Int32)).1 = 0 then ((0 : Int32), (f_X5_takesSign (f_X5_takesNumber m tx (20 : Int32) (999 : Int32)).2 tx (32 : Int32)).2, tr) else ((g_X5_takesHop_88 tr (g_X5_takesHop_37 (f_X5_takesWord (f_X5_takesSign (f_X5_takesNumber m tx (20 : Int32) (999 : Int32)).2 tx (32 : Int32)).2 tx).1 (lg_cmp (f_X5_takesWord (f_X5_takesSign (f_X5_takesNumber m tx (20 : Int32) (999 : Int32)).2 tx (32 : Int32)).2 tx).1 (660876 : Int64))) (f_X5_takesNumber m tx (20 : Int32) (999 : Int32)).1 (f_X5_takesWord (f_X5_takesSign (f_X5_takesNumber m tx (20 : Int32) (999 : Int32)).2 tx (32 : Int32)).2 tx).2).1, (f_X5_takesWord (f_X5_takesSign (f_X5_takesNumber m tx (20 : Int32) (999 : Int32)).2 tx (32 : Int32)).2 tx).2, (g_X5_takesHop_88 tr (g_X5_takesHop_37 (f_X5_takesWord (f_X5_takesSign (f_X5_takesNumber m tx (20 : Int32) (999 : Int32)).2 tx (32 : Int32)).2 tx).1 (lg_cmp (f_X5_takesWord (f_X5_takesSign (f_X5_takesNumber m tx (20 : Int32) (999 : Int32)).2 tx (32 : Int32)).2 tx).1 (660876 : Int64))) (f_X5_takesNumber m tx (20 : Int32) (999 : Int32)).1 (f_X5_takesWord (f_X5_takesSign (f_X5_takesNumber m tx (20 : Int32) (999 : Int32)).2 tx (32 : Int32)).2 tx).2).2)))
def p_X5_takesHop (m tr tx : Nat → Int32) : Prop := (p_X5_takesNumber m tx (20 : Int32) (999 : Int32) ∧ (((f_X5_takesNumber m tx (20 : Int32) (999 : Int32)).1 = (-4 : Int32) → True) ∧ (¬ ((f_X5_takesNumber m tx (20 : Int32) (999 : Int32)).1 = (-4 : Int32)) → (p_X5_takesSign (f_X5_takesNumber m tx (20 : Int32) (999 : Int32)).2 tx (32 : Int32) ∧ (((f_X5_takesSign (f_X5_takesNumber m tx (20 : Int32) (999 : Int32)).2 tx (32 : Int32)).1 = 0 → True) ∧ (¬ ((f_X5_takesSign (f_X5_takesNumber m tx (20 : Int32) (999 : Int32)).2 tx (32 : Int32)).1 = 0) → (p_X5_takesWord (f_X5_takesSign (f_X5_takesNumber m tx (20 : Int32) (999 : Int32)).2 tx (32 : Int32)).2 tx ∧ ((h_X5_takesHop_88 tr (g_X5_takesHop_37 (f_X5_takesWord (f_X5_takesSign (f_X5_takesNumber m tx (20 : Int32) (999 : Int32)).2 tx (32 : Int32)).2 tx).1 (lg_cmp (f_X5_takesWord (f_X5_takesSign (f_X5_takesNumber m tx (20 : Int32) (999 : Int32)).2 tx (32 : Int32)).2 tx).1 (660876 : Int64))) (f_X5_takesNumber m tx (20 : Int32) (999 : Int32)).1 (f_X5_takesWord (f_X5_takesSign (f_X5_takesNumber m tx (20 : Int32) (999 : Int32)).2 tx (32 : Int32)).2 tx).2) ∧ True))))))))
set_option maxRecDepth 100000 in
set_option maxHeartbeats 4000000 in
theorem C_X5_takesHop (G : xG) (h : xH) (o nw rd sd pa xt : Nat) (m tr tx : Nat → Int32) (k_o : hAt h o = some (moC nw rd sd pa xt m)) (k_rd : hAt h rd = some (arI 103 tr)) (k_xt : hAt h xt = some (arI 240 tx)) (n_rd_xt : rd ≠ xt) (hp : p_X5_takesHop m tr tx) : Cd G 4 yX5_takesHop cX5_takesHop 5 (some .boolean) [.ref o] h (some (.int (f_X5_takesHop m tr tx).1)) (hSet (hSet h o (moC nw rd sd pa xt (f_X5_takesHop m tr tx).2.1)) rd (arI 103 (f_X5_takesHop m tr tx).2.2)) := by
  have n_o_rd : o ≠ rd := hne_k k_o k_rd rfl
  have n_xt_o : xt ≠ o := hne_k k_xt k_o rfl
  have n_xt_rd : xt ≠ rd := Ne.symm n_rd_xt
  refine Ct.of (by decide) (by rfl) ?_
  refine Wp.eqs (L' := [(0, .ref o)]) (st' := []) rfl rfl ?_
  refine Wp.eqh (h' := (hSet (hSet h o (moC nw rd sd pa xt m)) rd (arI 103 tr))) (by rw [hSet_self k_o, hSet_self k_rd]) ?_
  obtain ⟨R, er⟩ : ∃ R, f_X5_takesHop m tr tx = R := ⟨_, rfl⟩
  rw [er]
  unfold f_X5_takesHop at er
  unfold p_X5_takesHop at hp
  refine x_aload_n (pc := 0) dX5_takesHop_0 rfl ?_
  refine x_bipush (pc := 1) (v := (20 : Int32)) dX5_takesHop_1 (by decide) ?_
  refine x_sipush (pc := 3) (v := (999 : Int32)) dX5_takesHop_3 (by decide) ?_
  obtain ⟨q6, hp⟩ := hp
  refine x_cV2i (pc := 6) dX5_takesHop_6 xl_X5_74 xv_X5_takesNumber (hAt_n n_o_rd hAt_same) rfl (C_X5_takesNumber G _ o nw rd sd pa xt m tx (20 : Int32) (999 : Int32) (hAt_n n_o_rd hAt_same) (hAt_n n_xt_rd (hAt_n n_xt_o k_xt)) q6) rfl rfl rfl ?_
  obtain ⟨F1, eF1⟩ : ∃ F, f_X5_takesNumber m tx (20 : Int32) (999 : Int32) = F := ⟨_, rfl⟩
  rw [eF1]
  try rw [eF1] at er
  try rw [eF1] at hp
  refine Wp.eqh (h' := (hSet (hSet h o (moC nw rd sd pa xt F1.2)) rd (arI 103 tr))) (hSet_sw1 n_o_rd) ?_
  refine x_istore_n (pc := 9) (L' := [(1, .int F1.1), (0, .ref o)]) dX5_takesHop_9 rfl rfl ?_
  refine x_iload_n (pc := 10) dX5_takesHop_10 rfl ?_
  refine x_bipush (pc := 11) (v := (-4 : Int32)) dX5_takesHop_11 (by decide) ?_
  refine x_icmp_eq (pc := 13) (tgt := 25) dX5_takesHop_13 (by decide) (fun (c1 : F1.1 = (-4 : Int32)) => ?_) (fun (c1 : ¬ (F1.1 = (-4 : Int32))) => ?_)
  · rw [if_pos c1] at er
    replace hp := hp.1 c1
    refine x_iconst (pc := 25) (v := (0 : Int32)) dX5_takesHop_25 (by decide) ?_
    subst er
    exact x_iret (pc := 26) dX5_takesHop_26 rfl rfl rfl rfl ⟨rfl, rfl⟩
  · rw [if_neg c1] at er
    replace hp := hp.2 c1
    refine x_aload_n (pc := 16) dX5_takesHop_16 rfl ?_
    refine x_bipush (pc := 17) (v := (32 : Int32)) dX5_takesHop_17 (by decide) ?_
    obtain ⟨q19, hp⟩ := hp
    refine x_cV1i (pc := 19) dX5_takesHop_19 xl_X5_70 xv_X5_takesSign (hAt_n n_o_rd hAt_same) rfl (C_X5_takesSign G _ o nw rd sd pa xt F1.2 tx (32 : Int32) (hAt_n n_o_rd hAt_same) (hAt_n n_xt_rd (hAt_n n_xt_o k_xt)) q19) rfl rfl rfl ?_
    obtain ⟨F2, eF2⟩ : ∃ F, f_X5_takesSign F1.2 tx (32 : Int32) = F := ⟨_, rfl⟩
    rw [eF2]
    try rw [eF2] at er
    try rw [eF2] at hp
    have bF2_1 : xB F2.1 := by rw [← eF2]; exact (B_X5_takesSign _ _ _)
    refine Wp.eqh (h' := (hSet (hSet h o (moC nw rd sd pa xt F2.2)) rd (arI 103 tr))) (hSet_sw1 n_o_rd) ?_
    refine x_if_ne (pc := 22) (tgt := 27) dX5_takesHop_22 (by decide) (fun (c2 : ¬ (F2.1 = 0)) => ?_) (fun (c2 : F2.1 = 0) => ?_)
    · rw [if_neg c2] at er
      replace hp := hp.2 c2
      refine x_aload_n (pc := 27) dX5_takesHop_27 rfl ?_
      obtain ⟨q28, hp⟩ := hp
      refine x_cV0l (pc := 28) dX5_takesHop_28 xl_X5_77 xv_X5_takesWord (hAt_n n_o_rd hAt_same) rfl (C_X5_takesWord G _ o nw rd sd pa xt F2.2 tx (hAt_n n_o_rd hAt_same) (hAt_n n_xt_rd (hAt_n n_xt_o k_xt)) q28) rfl rfl rfl ?_
      obtain ⟨F3, eF3⟩ : ∃ F, f_X5_takesWord F2.2 tx = F := ⟨_, rfl⟩
      rw [eF3]
      try rw [eF3] at er
      try rw [eF3] at hp
      refine Wp.eqh (h' := (hSet (hSet h o (moC nw rd sd pa xt F3.2)) rd (arI 103 tr))) (hSet_sw1 n_o_rd) ?_
      refine x_lstore_n (pc := 31) (L' := [(2, .long F3.1), (1, .int F1.1), (0, .ref o)]) dX5_takesHop_31 rfl rfl ?_
      refine x_lload_n (pc := 32) dX5_takesHop_32 rfl ?_
      refine x_ldc2 (pc := 33) (v := (660876 : Int64)) dX5_takesHop_33 xk_X5_81 ?_
      refine x_lcmp (pc := 36) dX5_takesHop_36 ?_
      obtain ⟨F4, eF4⟩ : ∃ F, g_X5_takesHop_37 F3.1 (lg_cmp F3.1 (660876 : Int64)) = F := ⟨_, rfl⟩
      try rw [eF4] at er
      try rw [eF4] at hp
      refine x_mrg (pc' := 82) (L' := [(2, .long F3.1), (1, .int F1.1), (0, .ref o)]) (st' := [.int F4]) (h' := (hSet (hSet h o (moC nw rd sd pa xt F3.2)) rd (arI 103 tr))) (fun J => ?_) ?_
      · unfold g_X5_takesHop_37 at eF4
        try rw [eF1] at eF4
        try rw [eF2] at eF4
        try rw [eF3] at eF4
        refine x_if_ne (pc := 37) (tgt := 44) dX5_takesHop_37 (by decide) (fun (c7 : ¬ ((lg_cmp F3.1 (660876 : Int64)) = 0)) => ?_) (fun (c7 : (lg_cmp F3.1 (660876 : Int64)) = 0) => ?_)
        · rw [if_neg c7] at eF4
          refine x_lload_n (pc := 44) dX5_takesHop_44 rfl ?_
          refine x_ldc2 (pc := 45) (v := (24722887 : Int64)) dX5_takesHop_45 xk_X5_83 ?_
          refine x_lcmp (pc := 48) dX5_takesHop_48 ?_
          refine x_if_ne (pc := 49) (tgt := 56) dX5_takesHop_49 (by decide) (fun (c8 : ¬ ((lg_cmp F3.1 (24722887 : Int64)) = 0)) => ?_) (fun (c8 : (lg_cmp F3.1 (24722887 : Int64)) = 0) => ?_)
          · rw [if_neg c8] at eF4
            refine x_lload_n (pc := 56) dX5_takesHop_56 rfl ?_
            refine x_ldc2 (pc := 57) (v := (15748 : Int64)) dX5_takesHop_57 xk_X5_85 ?_
            refine x_lcmp (pc := 60) dX5_takesHop_60 ?_
            refine x_if_ne (pc := 61) (tgt := 68) dX5_takesHop_61 (by decide) (fun (c9 : ¬ ((lg_cmp F3.1 (15748 : Int64)) = 0)) => ?_) (fun (c9 : (lg_cmp F3.1 (15748 : Int64)) = 0) => ?_)
            · rw [if_neg c9] at eF4
              refine x_lload_n (pc := 68) dX5_takesHop_68 rfl ?_
              refine x_ldc2 (pc := 69) (v := (647370196 : Int64)) dX5_takesHop_69 xk_X5_87 ?_
              refine x_lcmp (pc := 72) dX5_takesHop_72 ?_
              refine x_if_ne (pc := 73) (tgt := 80) dX5_takesHop_73 (by decide) (fun (c10 : ¬ ((lg_cmp F3.1 (647370196 : Int64)) = 0)) => ?_) (fun (c10 : (lg_cmp F3.1 (647370196 : Int64)) = 0) => ?_)
              · rw [if_neg c10] at eF4
                refine x_bipush (pc := 80) (v := (-4 : Int32)) dX5_takesHop_80 (by decide) ?_
                subst eF4
                exact J
              · rw [if_pos c10] at eF4
                refine x_iconst (pc := 76) (v := (3 : Int32)) dX5_takesHop_76 (by decide) ?_
                refine x_goto (pc := 77) (tgt := 82) dX5_takesHop_77 (by decide) ?_
                subst eF4
                exact J
            · rw [if_pos c9] at eF4
              refine x_iconst (pc := 64) (v := (2 : Int32)) dX5_takesHop_64 (by decide) ?_
              refine x_goto (pc := 65) (tgt := 82) dX5_takesHop_65 (by decide) ?_
              subst eF4
              exact J
          · rw [if_pos c8] at eF4
            refine x_iconst (pc := 52) (v := (1 : Int32)) dX5_takesHop_52 (by decide) ?_
            refine x_goto (pc := 53) (tgt := 82) dX5_takesHop_53 (by decide) ?_
            subst eF4
            exact J
        · rw [if_pos c7] at eF4
          refine x_iconst (pc := 40) (v := (0 : Int32)) dX5_takesHop_40 (by decide) ?_
          refine x_goto (pc := 41) (tgt := 82) dX5_takesHop_41 (by decide) ?_
          subst eF4
          exact J
      refine x_istore (pc := 82) (L' := [(4, .int F4), (2, .long F3.1), (1, .int F1.1), (0, .ref o)]) dX5_takesHop_82 rfl rfl ?_
      refine x_iload (pc := 84) dX5_takesHop_84 rfl ?_
      refine x_bipush (pc := 86) (v := (-4 : Int32)) dX5_takesHop_86 (by decide) ?_
      obtain ⟨qr88, hp⟩ := hp
      obtain ⟨F7, eF7⟩ : ∃ F, g_X5_takesHop_88 tr F4 F1.1 F3.2 = F := ⟨_, rfl⟩
      try rw [eF7] at er
      try rw [eF7] at hp
      have bF7_1 : xB F7.1 := by rw [← eF7]; exact (Bg_X5_takesHop_88 _ _ _ _)
      refine x_mrg (pc' := 106) (L' := [(4, .int F4), (2, .long F3.1), (1, .int F1.1), (0, .ref o)]) (st' := [.int F7.1]) (h' := (hSet (hSet h o (moC nw rd sd pa xt F3.2)) rd (arI 103 F7.2))) (fun J => ?_) ?_
      · unfold g_X5_takesHop_88 at eF7
        unfold h_X5_takesHop_88 at qr88
        try rw [eF1] at eF7
        try rw [eF1] at qr88
        try rw [eF2] at eF7
        try rw [eF2] at qr88
        try rw [eF3] at eF7
        try rw [eF3] at qr88
        refine x_icmp_eq (pc := 88) (tgt := 105) dX5_takesHop_88 (by decide) (fun (c13 : F4 = (-4 : Int32)) => ?_) (fun (c13 : ¬ (F4 = (-4 : Int32))) => ?_)
        · rw [if_pos c13] at eF7
          replace qr88 := qr88.1 c13
          refine x_iconst (pc := 105) (v := (0 : Int32)) dX5_takesHop_105 (by decide) ?_
          subst eF7
          exact J
        · rw [if_neg c13] at eF7
          replace qr88 := qr88.2 c13
          refine x_aload_n (pc := 91) dX5_takesHop_91 rfl ?_
          refine x_iload_n (pc := 92) dX5_takesHop_92 rfl ?_
          refine x_iload (pc := 93) dX5_takesHop_93 rfl ?_
          obtain ⟨q95, qr88⟩ := qr88
          refine x_cV2i (pc := 95) dX5_takesHop_95 xl_X5_32 xv_X5_addsHop (hAt_n n_o_rd hAt_same) rfl (C_X5_addsHop G _ o nw rd sd pa xt F3.2 tr F1.1 F4 (hAt_n n_o_rd hAt_same) hAt_same q95) rfl rfl rfl ?_
          obtain ⟨F6, eF6⟩ : ∃ F, f_X5_addsHop F3.2 tr F1.1 F4 = F := ⟨_, rfl⟩
          rw [eF6]
          try rw [eF6] at eF7
          try rw [eF6] at qr88
          have bF6_1 : xB F6.1 := by rw [← eF6]; exact (B_X5_addsHop _ _ _ _)
          refine Wp.eqh (h' := (hSet (hSet h o (moC nw rd sd pa xt F3.2)) rd (arI 103 F6.2))) (hSet_set) ?_
          refine x_if_eq (pc := 98) (tgt := 105) dX5_takesHop_98 (by decide) (fun (c14 : F6.1 = 0) => ?_) (fun (c14 : ¬ (F6.1 = 0)) => ?_)
          · rw [if_pos c14] at eF7
            replace qr88 := qr88.1 c14
            refine x_iconst (pc := 105) (v := (0 : Int32)) dX5_takesHop_105 (by decide) ?_
            subst eF7
            exact J
          · rw [if_neg c14] at eF7
            replace qr88 := qr88.2 c14
            refine x_iconst (pc := 101) (v := (1 : Int32)) dX5_takesHop_101 (by decide) ?_
            refine x_goto (pc := 102) (tgt := 106) dX5_takesHop_102 (by decide) ?_
            subst eF7
            exact J
      subst er
      exact x_iret (pc := 106) dX5_takesHop_106 rfl (xb_nar bF7_1) rfl rfl ⟨rfl, rfl⟩
    · rw [if_pos c2] at er
      replace hp := hp.1 c2
      refine x_iconst (pc := 25) (v := (0 : Int32)) dX5_takesHop_25 (by decide) ?_
      subst er
      exact x_iret (pc := 26) dX5_takesHop_26 rfl rfl rfl rfl ⟨rfl, rfl⟩
theorem B_X5_takesHop (m tr tx : Nat → Int32) : xB (f_X5_takesHop m tr tx).1 := by
  unfold f_X5_takesHop
  exact (xB_ite1 (xB_fst xB0) (xB_ite1 (xB_fst xB0) (xB_fst (Bg_X5_takesHop_88 _ _ _ _))))

def g_X5_takesBelief_21 (v1 : Int64) (y0 : Int32) : Int32 := (if y0 = 0 then (0 : Int32) else (if (lg_cmp v1 (3495013540 : Int64)) = 0 then (1 : Int32) else (if (lg_cmp v1 (474565 : Int64)) = 0 then (2 : Int32) else (-4 : Int32))))
def g_X5_takesBelief_63 (tr : (Nat → Int32)) (v3 : Int32) : Int32 := (if v3 = (-4 : Int32) then (tr 5) else v3)
def f_X5_takesBelief (m tr tx : Nat → Int32) : Int32 × (Nat → Int32) × (Nat → Int32) := (if (f_X5_takesSign m tx (32 : Int32)).1 = 0 then ((0 : Int32), (f_X5_takesSign m tx (32 : Int32)).2, tr) else (((if (g_X5_takesBelief_21 (f_X5_takesWord (f_X5_takesSign m tx (32 : Int32)).2 tx).1 (lg_cmp (f_X5_takesWord (f_X5_takesSign m tx (32 : Int32)).2 tx).1 (1420 : Int64))) = (-4 : Int32) then (0 : Int32) else (1 : Int32))), (f_X5_takesWord (f_X5_takesSign m tx (32 : Int32)).2 tx).2, (upd tr 5 (g_X5_takesBelief_63 tr (g_X5_takesBelief_21 (f_X5_takesWord (f_X5_takesSign m tx (32 : Int32)).2 tx).1 (lg_cmp (f_X5_takesWord (f_X5_takesSign m tx (32 : Int32)).2 tx).1 (1420 : Int64)))))))
def p_X5_takesBelief (m tr tx : Nat → Int32) : Prop := (p_X5_takesSign m tx (32 : Int32) ∧ (((f_X5_takesSign m tx (32 : Int32)).1 = 0 → True) ∧ (¬ ((f_X5_takesSign m tx (32 : Int32)).1 = 0) → (p_X5_takesWord (f_X5_takesSign m tx (32 : Int32)).2 tx ∧ True))))
set_option maxRecDepth 100000 in
set_option maxHeartbeats 4000000 in
theorem C_X5_takesBelief (G : xG) (h : xH) (o nw rd sd pa xt : Nat) (m tr tx : Nat → Int32) (k_o : hAt h o = some (moC nw rd sd pa xt m)) (k_rd : hAt h rd = some (arI 103 tr)) (k_xt : hAt h xt = some (arI 240 tx)) (n_rd_xt : rd ≠ xt) (hp : p_X5_takesBelief m tr tx) : Cd G 3 yX5_takesBelief cX5_takesBelief 4 (some .boolean) [.ref o] h (some (.int (f_X5_takesBelief m tr tx).1)) (hSet (hSet h o (moC nw rd sd pa xt (f_X5_takesBelief m tr tx).2.1)) rd (arI 103 (f_X5_takesBelief m tr tx).2.2)) := by
  have n_o_rd : o ≠ rd := hne_k k_o k_rd rfl
  have n_xt_o : xt ≠ o := hne_k k_xt k_o rfl
  have n_xt_rd : xt ≠ rd := Ne.symm n_rd_xt
  refine Ct.of (by decide) (by rfl) ?_
  refine Wp.eqs (L' := [(0, .ref o)]) (st' := []) rfl rfl ?_
  refine Wp.eqh (h' := (hSet (hSet h o (moC nw rd sd pa xt m)) rd (arI 103 tr))) (by rw [hSet_self k_o, hSet_self k_rd]) ?_
  obtain ⟨R, er⟩ : ∃ R, f_X5_takesBelief m tr tx = R := ⟨_, rfl⟩
  rw [er]
  unfold f_X5_takesBelief at er
  unfold p_X5_takesBelief at hp
  refine x_aload_n (pc := 0) dX5_takesBelief_0 rfl ?_
  refine x_bipush (pc := 1) (v := (32 : Int32)) dX5_takesBelief_1 (by decide) ?_
  obtain ⟨q3, hp⟩ := hp
  refine x_cV1i (pc := 3) dX5_takesBelief_3 xl_X5_70 xv_X5_takesSign (hAt_n n_o_rd hAt_same) rfl (C_X5_takesSign G _ o nw rd sd pa xt m tx (32 : Int32) (hAt_n n_o_rd hAt_same) (hAt_n n_xt_rd (hAt_n n_xt_o k_xt)) q3) rfl rfl rfl ?_
  obtain ⟨F1, eF1⟩ : ∃ F, f_X5_takesSign m tx (32 : Int32) = F := ⟨_, rfl⟩
  rw [eF1]
  try rw [eF1] at er
  try rw [eF1] at hp
  have bF1_1 : xB F1.1 := by rw [← eF1]; exact (B_X5_takesSign _ _ _)
  refine Wp.eqh (h' := (hSet (hSet h o (moC nw rd sd pa xt F1.2)) rd (arI 103 tr))) (hSet_sw1 n_o_rd) ?_
  refine x_if_ne (pc := 6) (tgt := 11) dX5_takesBelief_6 (by decide) (fun (c1 : ¬ (F1.1 = 0)) => ?_) (fun (c1 : F1.1 = 0) => ?_)
  · rw [if_neg c1] at er
    replace hp := hp.2 c1
    refine x_aload_n (pc := 11) dX5_takesBelief_11 rfl ?_
    obtain ⟨q12, hp⟩ := hp
    refine x_cV0l (pc := 12) dX5_takesBelief_12 xl_X5_77 xv_X5_takesWord (hAt_n n_o_rd hAt_same) rfl (C_X5_takesWord G _ o nw rd sd pa xt F1.2 tx (hAt_n n_o_rd hAt_same) (hAt_n n_xt_rd (hAt_n n_xt_o k_xt)) q12) rfl rfl rfl ?_
    obtain ⟨F2, eF2⟩ : ∃ F, f_X5_takesWord F1.2 tx = F := ⟨_, rfl⟩
    rw [eF2]
    try rw [eF2] at er
    try rw [eF2] at hp
    refine Wp.eqh (h' := (hSet (hSet h o (moC nw rd sd pa xt F2.2)) rd (arI 103 tr))) (hSet_sw1 n_o_rd) ?_
    refine x_lstore_n (pc := 15) (L' := [(1, .long F2.1), (0, .ref o)]) dX5_takesBelief_15 rfl rfl ?_
    refine x_lload_n (pc := 16) dX5_takesBelief_16 rfl ?_
    refine x_ldc2 (pc := 17) (v := (1420 : Int64)) dX5_takesBelief_17 xk_X5_89 ?_
    refine x_lcmp (pc := 20) dX5_takesBelief_20 ?_
    obtain ⟨F3, eF3⟩ : ∃ F, g_X5_takesBelief_21 F2.1 (lg_cmp F2.1 (1420 : Int64)) = F := ⟨_, rfl⟩
    try rw [eF3] at er
    try rw [eF3] at hp
    refine x_mrg (pc' := 54) (L' := [(1, .long F2.1), (0, .ref o)]) (st' := [.int F3]) (h' := (hSet (hSet h o (moC nw rd sd pa xt F2.2)) rd (arI 103 tr))) (fun J => ?_) ?_
    · unfold g_X5_takesBelief_21 at eF3
      try rw [eF1] at eF3
      try rw [eF2] at eF3
      refine x_if_ne (pc := 21) (tgt := 28) dX5_takesBelief_21 (by decide) (fun (c5 : ¬ ((lg_cmp F2.1 (1420 : Int64)) = 0)) => ?_) (fun (c5 : (lg_cmp F2.1 (1420 : Int64)) = 0) => ?_)
      · rw [if_neg c5] at eF3
        refine x_lload_n (pc := 28) dX5_takesBelief_28 rfl ?_
        refine x_ldc2 (pc := 29) (v := (3495013540 : Int64)) dX5_takesBelief_29 xk_X5_91 ?_
        refine x_lcmp (pc := 32) dX5_takesBelief_32 ?_
        refine x_if_ne (pc := 33) (tgt := 40) dX5_takesBelief_33 (by decide) (fun (c6 : ¬ ((lg_cmp F2.1 (3495013540 : Int64)) = 0)) => ?_) (fun (c6 : (lg_cmp F2.1 (3495013540 : Int64)) = 0) => ?_)
        · rw [if_neg c6] at eF3
          refine x_lload_n (pc := 40) dX5_takesBelief_40 rfl ?_
          refine x_ldc2 (pc := 41) (v := (474565 : Int64)) dX5_takesBelief_41 xk_X5_93 ?_
          refine x_lcmp (pc := 44) dX5_takesBelief_44 ?_
          refine x_if_ne (pc := 45) (tgt := 52) dX5_takesBelief_45 (by decide) (fun (c7 : ¬ ((lg_cmp F2.1 (474565 : Int64)) = 0)) => ?_) (fun (c7 : (lg_cmp F2.1 (474565 : Int64)) = 0) => ?_)
          · rw [if_neg c7] at eF3
            refine x_bipush (pc := 52) (v := (-4 : Int32)) dX5_takesBelief_52 (by decide) ?_
            subst eF3
            exact J
          · rw [if_pos c7] at eF3
            refine x_iconst (pc := 48) (v := (2 : Int32)) dX5_takesBelief_48 (by decide) ?_
            refine x_goto (pc := 49) (tgt := 54) dX5_takesBelief_49 (by decide) ?_
            subst eF3
            exact J
        · rw [if_pos c6] at eF3
          refine x_iconst (pc := 36) (v := (1 : Int32)) dX5_takesBelief_36 (by decide) ?_
          refine x_goto (pc := 37) (tgt := 54) dX5_takesBelief_37 (by decide) ?_
          subst eF3
          exact J
      · rw [if_pos c5] at eF3
        refine x_iconst (pc := 24) (v := (0 : Int32)) dX5_takesBelief_24 (by decide) ?_
        refine x_goto (pc := 25) (tgt := 54) dX5_takesBelief_25 (by decide) ?_
        subst eF3
        exact J
    refine x_istore_n (pc := 54) (L' := [(3, .int F3), (1, .long F2.1), (0, .ref o)]) dX5_takesBelief_54 rfl rfl ?_
    refine x_aload_n (pc := 55) dX5_takesBelief_55 rfl ?_
    refine x_getf (pc := 56) (v := .ref rd) dX5_takesBelief_56 xf_X5_13 (hAt_n n_o_rd hAt_same) rfl ?_
    refine x_iconst (pc := 59) (v := (5 : Int32)) dX5_takesBelief_59 (by decide) ?_
    refine x_iload_n (pc := 60) dX5_takesBelief_60 rfl ?_
    refine x_bipush (pc := 61) (v := (-4 : Int32)) dX5_takesBelief_61 (by decide) ?_
    obtain ⟨F4, eF4⟩ : ∃ F, g_X5_takesBelief_63 tr F3 = F := ⟨_, rfl⟩
    try rw [eF4] at er
    try rw [eF4] at hp
    refine x_mrg (pc' := 76) (L' := [(3, .int F3), (1, .long F2.1), (0, .ref o)]) (st' := [.int F4, .int (5 : Int32), .ref rd]) (h' := (hSet (hSet h o (moC nw rd sd pa xt F2.2)) rd (arI 103 tr))) (fun J => ?_) ?_
    · unfold g_X5_takesBelief_63 at eF4
      try rw [eF1] at eF4
      try rw [eF2] at eF4
      refine x_icmp_ne (pc := 63) (tgt := 75) dX5_takesBelief_63 (by decide) (fun (c9 : ¬ (F3 = (-4 : Int32))) => ?_) (fun (c9 : F3 = (-4 : Int32)) => ?_)
      · rw [if_neg c9] at eF4
        refine x_iload_n (pc := 75) dX5_takesBelief_75 rfl ?_
        subst eF4
        exact J
      · rw [if_pos c9] at eF4
        refine x_aload_n (pc := 66) dX5_takesBelief_66 rfl ?_
        refine x_getf (pc := 67) (v := .ref rd) dX5_takesBelief_67 xf_X5_13 (hAt_n n_o_rd hAt_same) rfl ?_
        refine x_iconst (pc := 70) (v := (5 : Int32)) dX5_takesBelief_70 (by decide) ?_
        refine x_iald (pc := 71) dX5_takesBelief_71 hAt_same (vp_in_nI (n := 5) (by decide) (by decide)) (j := 5) (nI_clamp (n := 5) (by decide)) ?_
        refine x_goto (pc := 72) (tgt := 76) dX5_takesBelief_72 (by decide) ?_
        subst eF4
        exact J
    refine x_iast (pc := 76) (e' := arI 103 (upd tr 5 F4)) dX5_takesBelief_76 hAt_same (vp_in_nI (n := 5) (by decide) (by decide)) (j := 5) (nI_clamp (n := 5) (by decide)) rfl ?_
    refine Wp.eqh (h' := (hSet (hSet h o (moC nw rd sd pa xt F2.2)) rd (arI 103 (upd tr 5 F4)))) (hSet_set) ?_
    refine x_iload_n (pc := 77) dX5_takesBelief_77 rfl ?_
    refine x_bipush (pc := 78) (v := (-4 : Int32)) dX5_takesBelief_78 (by decide) ?_
    obtain ⟨F5, eF5⟩ : ∃ F, (if F3 = (-4 : Int32) then (0 : Int32) else (1 : Int32)) = F := ⟨_, rfl⟩
    try rw [eF5] at er
    try rw [eF5] at hp
    have bF5 : xB F5 := by rw [← eF5]; exact (xB_ite xB0 xB1)
    refine x_mrg (pc' := 88) (L' := [(3, .int F3), (1, .long F2.1), (0, .ref o)]) (st' := [.int F5]) (h' := (hSet (hSet h o (moC nw rd sd pa xt F2.2)) rd (arI 103 (upd tr 5 F4)))) (fun J => ?_) ?_
    · refine x_icmp_eq (pc := 80) (tgt := 87) dX5_takesBelief_80 (by decide) (fun (c10 : F3 = (-4 : Int32)) => ?_) (fun (c10 : ¬ (F3 = (-4 : Int32))) => ?_)
      · refine x_iconst (pc := 87) (v := (0 : Int32)) dX5_takesBelief_87 (by decide) ?_
        rw [if_pos c10] at eF5
        subst eF5
        exact J
      · refine x_iconst (pc := 83) (v := (1 : Int32)) dX5_takesBelief_83 (by decide) ?_
        refine x_goto (pc := 84) (tgt := 88) dX5_takesBelief_84 (by decide) ?_
        rw [if_neg c10] at eF5
        subst eF5
        exact J
    subst er
    exact x_iret (pc := 88) dX5_takesBelief_88 rfl (xb_nar bF5) rfl rfl ⟨rfl, rfl⟩
  · rw [if_pos c1] at er
    replace hp := hp.1 c1
    refine x_iconst (pc := 9) (v := (0 : Int32)) dX5_takesBelief_9 (by decide) ?_
    subst er
    exact x_iret (pc := 10) dX5_takesBelief_10 rfl rfl rfl rfl ⟨rfl, rfl⟩
theorem B_X5_takesBelief (m tr tx : Nat → Int32) : xB (f_X5_takesBelief m tr tx).1 := by
  unfold f_X5_takesBelief
  exact (xB_ite1 (xB_fst xB0) (xB_fst (xB_ite xB0 xB1)))

def g_X5_takesLoss_6 (m : (Nat → Int32)) (tr : (Nat → Int32)) (tx : (Nat → Int32)) (y0 : Int32) : Int32 × (Nat → Int32) × (Nat → Int32) := (if y0 ≤ 0 then ((0 : Int32), m, tr) else (if (f_X5_puts m tr tx (f_X5_at ((tr 0) - (1 : Int32)) (10 : Int32)) (0 : Int32) (99 : Int32)).1 = 0 then ((0 : Int32), (f_X5_puts m tr tx (f_X5_at ((tr 0) - (1 : Int32)) (10 : Int32)) (0 : Int32) (99 : Int32)).2.1, (f_X5_puts m tr tx (f_X5_at ((tr 0) - (1 : Int32)) (10 : Int32)) (0 : Int32) (99 : Int32)).2.2) else ((1 : Int32), (f_X5_puts m tr tx (f_X5_at ((tr 0) - (1 : Int32)) (10 : Int32)) (0 : Int32) (99 : Int32)).2.1, (f_X5_puts m tr tx (f_X5_at ((tr 0) - (1 : Int32)) (10 : Int32)) (0 : Int32) (99 : Int32)).2.2)))
def h_X5_takesLoss_6 (m : (Nat → Int32)) (tr : (Nat → Int32)) (tx : (Nat → Int32)) (y0 : Int32) : Prop := ((y0 ≤ 0 → True) ∧ (¬ (y0 ≤ 0) → (p_X5_puts m tr tx (f_X5_at ((tr 0) - (1 : Int32)) (10 : Int32)) (0 : Int32) (99 : Int32) ∧ (((f_X5_puts m tr tx (f_X5_at ((tr 0) - (1 : Int32)) (10 : Int32)) (0 : Int32) (99 : Int32)).1 = 0 → True) ∧ (¬ ((f_X5_puts m tr tx (f_X5_at ((tr 0) - (1 : Int32)) (10 : Int32)) (0 : Int32) (99 : Int32)).1 = 0) → True)))))
theorem Bg_X5_takesLoss_6 (m : (Nat → Int32)) (tr : (Nat → Int32)) (tx : (Nat → Int32)) (y0 : Int32) : xB (g_X5_takesLoss_6 m tr tx y0).1 := by
  unfold g_X5_takesLoss_6
  exact (xB_ite1 (xB_fst xB0) (xB_ite1 (xB_fst xB0) (xB_fst xB1)))
def f_X5_takesLoss (m tr tx : Nat → Int32) : Int32 × (Nat → Int32) × (Nat → Int32) := ((g_X5_takesLoss_6 m tr tx (tr 0)).1, (g_X5_takesLoss_6 m tr tx (tr 0)).2.1, (g_X5_takesLoss_6 m tr tx (tr 0)).2.2)
def p_X5_takesLoss (m tr tx : Nat → Int32) : Prop := ((h_X5_takesLoss_6 m tr tx (tr 0)) ∧ True)
set_option maxRecDepth 100000 in
set_option maxHeartbeats 4000000 in
theorem C_X5_takesLoss (G : xG) (h : xH) (o nw rd sd pa xt : Nat) (m tr tx : Nat → Int32) (k_o : hAt h o = some (moC nw rd sd pa xt m)) (k_rd : hAt h rd = some (arI 103 tr)) (k_xt : hAt h xt = some (arI 240 tx)) (n_rd_xt : rd ≠ xt) (hp : p_X5_takesLoss m tr tx) : Cd G 5 yX5_takesLoss cX5_takesLoss 1 (some .boolean) [.ref o] h (some (.int (f_X5_takesLoss m tr tx).1)) (hSet (hSet h o (moC nw rd sd pa xt (f_X5_takesLoss m tr tx).2.1)) rd (arI 103 (f_X5_takesLoss m tr tx).2.2)) := by
  have n_o_rd : o ≠ rd := hne_k k_o k_rd rfl
  have n_xt_o : xt ≠ o := hne_k k_xt k_o rfl
  have n_xt_rd : xt ≠ rd := Ne.symm n_rd_xt
  refine Ct.of (by decide) (by rfl) ?_
  refine Wp.eqs (L' := [(0, .ref o)]) (st' := []) rfl rfl ?_
  refine Wp.eqh (h' := (hSet (hSet h o (moC nw rd sd pa xt m)) rd (arI 103 tr))) (by rw [hSet_self k_o, hSet_self k_rd]) ?_
  obtain ⟨R, er⟩ : ∃ R, f_X5_takesLoss m tr tx = R := ⟨_, rfl⟩
  rw [er]
  unfold f_X5_takesLoss at er
  unfold p_X5_takesLoss at hp
  refine x_aload_n (pc := 0) dX5_takesLoss_0 rfl ?_
  refine x_getf (pc := 1) (v := .ref rd) dX5_takesLoss_1 xf_X5_13 (hAt_n n_o_rd hAt_same) rfl ?_
  refine x_iconst (pc := 4) (v := (0 : Int32)) dX5_takesLoss_4 (by decide) ?_
  refine x_iald (pc := 5) dX5_takesLoss_5 hAt_same (vp_in_nI (n := 0) (by decide) (by decide)) (j := 0) (nI_clamp (n := 0) (by decide)) ?_
  obtain ⟨qr6, hp⟩ := hp
  obtain ⟨F5, eF5⟩ : ∃ F, g_X5_takesLoss_6 m tr tx (tr 0) = F := ⟨_, rfl⟩
  try rw [eF5] at er
  try rw [eF5] at hp
  have bF5_1 : xB F5.1 := by rw [← eF5]; exact (Bg_X5_takesLoss_6 _ _ _ _)
  refine x_mrg (pc' := 37) (L' := [(0, .ref o)]) (st' := [.int F5.1]) (h' := (hSet (hSet h o (moC nw rd sd pa xt F5.2.1)) rd (arI 103 F5.2.2))) (fun J => ?_) ?_
  · unfold g_X5_takesLoss_6 at eF5
    unfold h_X5_takesLoss_6 at qr6
    refine x_if_le (pc := 6) (tgt := 36) dX5_takesLoss_6 (by decide) (fun (c3 : (tr 0) ≤ 0) => ?_) (fun (c3 : ¬ ((tr 0) ≤ 0)) => ?_)
    · rw [if_pos c3] at eF5
      replace qr6 := qr6.1 c3
      refine x_iconst (pc := 36) (v := (0 : Int32)) dX5_takesLoss_36 (by decide) ?_
      subst eF5
      exact J
    · rw [if_neg c3] at eF5
      replace qr6 := qr6.2 c3
      refine x_aload_n (pc := 9) dX5_takesLoss_9 rfl ?_
      refine x_aload_n (pc := 10) dX5_takesLoss_10 rfl ?_
      refine x_getf (pc := 11) (v := .ref rd) dX5_takesLoss_11 xf_X5_13 (hAt_n n_o_rd hAt_same) rfl ?_
      refine x_iconst (pc := 14) (v := (0 : Int32)) dX5_takesLoss_14 (by decide) ?_
      refine x_iald (pc := 15) dX5_takesLoss_15 hAt_same (vp_in_nI (n := 0) (by decide) (by decide)) (j := 0) (nI_clamp (n := 0) (by decide)) ?_
      refine x_iconst (pc := 16) (v := (1 : Int32)) dX5_takesLoss_16 (by decide) ?_
      refine x_isub (pc := 17) dX5_takesLoss_17 ?_
      refine x_bipush (pc := 18) (v := (10 : Int32)) dX5_takesLoss_18 (by decide) ?_
      refine x_cS2i (pc := 20) dX5_takesLoss_20 xl_X5_36 xs_X5_at (C_X5_at G _ ((tr 0) - (1 : Int32)) (10 : Int32)) rfl rfl rfl ?_
      obtain ⟨F3, eF3⟩ : ∃ F, f_X5_at ((tr 0) - (1 : Int32)) (10 : Int32) = F := ⟨_, rfl⟩
      rw [eF3]
      try rw [eF3] at eF5
      try rw [eF3] at qr6
      refine x_iconst (pc := 23) (v := (0 : Int32)) dX5_takesLoss_23 (by decide) ?_
      refine x_bipush (pc := 24) (v := (99 : Int32)) dX5_takesLoss_24 (by decide) ?_
      obtain ⟨q26, qr6⟩ := qr6
      refine x_cV3i (pc := 26) dX5_takesLoss_26 xl_X5_95 xv_X5_puts (hAt_n n_o_rd hAt_same) rfl (C_X5_puts G _ o nw rd sd pa xt m tr tx F3 (0 : Int32) (99 : Int32) (hAt_n n_o_rd hAt_same) hAt_same (hAt_n n_xt_rd (hAt_n n_xt_o k_xt)) n_rd_xt q26) rfl rfl rfl ?_
      obtain ⟨F4, eF4⟩ : ∃ F, f_X5_puts m tr tx F3 (0 : Int32) (99 : Int32) = F := ⟨_, rfl⟩
      rw [eF4]
      try rw [eF4] at eF5
      try rw [eF4] at qr6
      have bF4_1 : xB F4.1 := by rw [← eF4]; exact (B_X5_puts _ _ _ _ _ _)
      refine Wp.eqh (h' := (hSet (hSet h o (moC nw rd sd pa xt F4.2.1)) rd (arI 103 F4.2.2))) ((congrArg (fun z => hSet z rd _) (hSet_sw1 n_o_rd)).trans (hSet_set)) ?_
      refine x_if_eq (pc := 29) (tgt := 36) dX5_takesLoss_29 (by decide) (fun (c4 : F4.1 = 0) => ?_) (fun (c4 : ¬ (F4.1 = 0)) => ?_)
      · rw [if_pos c4] at eF5
        replace qr6 := qr6.1 c4
        refine x_iconst (pc := 36) (v := (0 : Int32)) dX5_takesLoss_36 (by decide) ?_
        subst eF5
        exact J
      · rw [if_neg c4] at eF5
        replace qr6 := qr6.2 c4
        refine x_iconst (pc := 32) (v := (1 : Int32)) dX5_takesLoss_32 (by decide) ?_
        refine x_goto (pc := 33) (tgt := 37) dX5_takesLoss_33 (by decide) ?_
        subst eF5
        exact J
  subst er
  exact x_iret (pc := 37) dX5_takesLoss_37 rfl (xb_nar bF5_1) rfl rfl ⟨rfl, rfl⟩
theorem B_X5_takesLoss (m tr tx : Nat → Int32) : xB (f_X5_takesLoss m tr tx).1 := by
  unfold f_X5_takesLoss
  exact (xB_fst (Bg_X5_takesLoss_6 _ _ _ _))
