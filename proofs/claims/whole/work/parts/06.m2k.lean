def g_X5_isHop_5 (tn : (Nat → Int32)) (i : Int32) (hh : Int32) (y0 : Int32) : Int32 := (if y0 = 0 then (0 : Int32) else (if (f_X5_in hh (0 : Int32) ((tn ((f_X5_at i (11 : Int32)).toNatClampNeg)) - (1 : Int32))) = 0 then (0 : Int32) else (1 : Int32)))
def h_X5_isHop_5 (tn : (Nat → Int32)) (i : Int32) (hh : Int32) (y0 : Int32) : Prop := ((y0 = 0 → True) ∧ (¬ (y0 = 0) → (vp_in (f_X5_at i (11 : Int32)) 103 ∧ (((f_X5_in hh (0 : Int32) ((tn ((f_X5_at i (11 : Int32)).toNatClampNeg)) - (1 : Int32))) = 0 → True) ∧ (¬ ((f_X5_in hh (0 : Int32) ((tn ((f_X5_at i (11 : Int32)).toNatClampNeg)) - (1 : Int32))) = 0) → True)))))
theorem Bg_X5_isHop_5 (tn : (Nat → Int32)) (i : Int32) (hh : Int32) (y0 : Int32) : xB (g_X5_isHop_5 tn i hh y0) := by
  unfold g_X5_isHop_5
  exact (xB_ite xB0 (xB_ite xB0 xB1))
def f_X5_isHop (m tn : Nat → Int32) (i hh : Int32) : Int32 := (g_X5_isHop_5 tn i hh (f_X5_isWay m tn i))
def p_X5_isHop (m tn : Nat → Int32) (i hh : Int32) : Prop := ((h_X5_isHop_5 tn i hh (f_X5_isWay m tn i)) ∧ True)
set_option maxRecDepth 100000 in
set_option maxHeartbeats 4000000 in
theorem C_X5_isHop (G : xG) (h : xH) (o nw rd sd pa xt : Nat) (m tn : Nat → Int32) (i hh : Int32) (k_o : hAt h o = some (moC nw rd sd pa xt m)) (k_nw : hAt h nw = some (arI 103 tn)) (hp : p_X5_isHop m tn i hh) : Cd G 2 yX5_isHop cX5_isHop 3 (some .boolean) [.ref o, .int i, .int hh] h (some (.int (f_X5_isHop m tn i hh))) h := by
  refine Ct.of (by decide) (by rfl) ?_
  refine Wp.eqs (L' := [(0, .ref o), (1, .int i), (2, .int hh)]) (st' := []) rfl rfl ?_
  obtain ⟨R, er⟩ : ∃ R, f_X5_isHop m tn i hh = R := ⟨_, rfl⟩
  rw [er]
  unfold f_X5_isHop at er
  unfold p_X5_isHop at hp
  refine x_aload_n (pc := 0) dX5_isHop_0 rfl ?_
  refine x_iload_n (pc := 1) dX5_isHop_1 rfl ?_
  refine x_cV1i (pc := 2) dX5_isHop_2 xl_X5_193 xv_X5_isWay k_o rfl (C_X5_isWay G _ o nw rd sd pa xt m tn i k_o k_nw) rfl rfl rfl ?_
  obtain ⟨F1, eF1⟩ : ∃ F, f_X5_isWay m tn i = F := ⟨_, rfl⟩
  rw [eF1]
  try rw [eF1] at er
  try rw [eF1] at hp
  have bF1 : xB F1 := by rw [← eF1]; exact (B_X5_isWay _ _ _)
  obtain ⟨qr5, hp⟩ := hp
  obtain ⟨F6, eF6⟩ : ∃ F, g_X5_isHop_5 tn i hh F1 = F := ⟨_, rfl⟩
  try rw [eF6] at er
  try rw [eF6] at hp
  have bF6 : xB F6 := by rw [← eF6]; exact (Bg_X5_isHop_5 _ _ _ _)
  refine x_mrg (pc' := 34) (L' := [(0, .ref o), (1, .int i), (2, .int hh)]) (st' := [.int F6]) (h' := h) (fun J => ?_) ?_
  · unfold g_X5_isHop_5 at eF6
    unfold h_X5_isHop_5 at qr5
    try rw [eF1] at eF6
    try rw [eF1] at qr5
    refine x_if_eq (pc := 5) (tgt := 33) dX5_isHop_5 (by decide) (fun (c3 : F1 = 0) => ?_) (fun (c3 : ¬ (F1 = 0)) => ?_)
    · rw [if_pos c3] at eF6
      replace qr5 := qr5.1 c3
      refine x_iconst (pc := 33) (v := (0 : Int32)) dX5_isHop_33 (by decide) ?_
      subst eF6
      exact J
    · rw [if_neg c3] at eF6
      replace qr5 := qr5.2 c3
      refine x_iload_n (pc := 8) dX5_isHop_8 rfl ?_
      refine x_iconst (pc := 9) (v := (0 : Int32)) dX5_isHop_9 (by decide) ?_
      refine x_aload_n (pc := 10) dX5_isHop_10 rfl ?_
      refine x_getf (pc := 11) (v := .ref nw) dX5_isHop_11 xf_X5_7 k_o rfl ?_
      refine x_iload_n (pc := 14) dX5_isHop_14 rfl ?_
      refine x_bipush (pc := 15) (v := (11 : Int32)) dX5_isHop_15 (by decide) ?_
      refine x_cS2i (pc := 17) dX5_isHop_17 xl_X5_36 xs_X5_at (C_X5_at G _ i (11 : Int32)) rfl rfl rfl ?_
      obtain ⟨F4, eF4⟩ : ∃ F, f_X5_at i (11 : Int32) = F := ⟨_, rfl⟩
      rw [eF4]
      try rw [eF4] at eF6
      try rw [eF4] at qr5
      obtain ⟨q20, qr5⟩ := qr5
      refine x_iald (pc := 20) dX5_isHop_20 k_nw q20 (j := (F4.toNatClampNeg)) rfl ?_
      refine x_iconst (pc := 21) (v := (1 : Int32)) dX5_isHop_21 (by decide) ?_
      refine x_isub (pc := 22) dX5_isHop_22 ?_
      refine x_cS3i (pc := 23) dX5_isHop_23 xl_X5_57 xs_X5_in (C_X5_in G _ hh (0 : Int32) ((tn (F4.toNatClampNeg)) - (1 : Int32))) rfl rfl rfl ?_
      obtain ⟨F5, eF5⟩ : ∃ F, f_X5_in hh (0 : Int32) ((tn (F4.toNatClampNeg)) - (1 : Int32)) = F := ⟨_, rfl⟩
      rw [eF5]
      try rw [eF5] at eF6
      try rw [eF5] at qr5
      have bF5 : xB F5 := by rw [← eF5]; exact (B_X5_in _ _ _)
      refine x_if_eq (pc := 26) (tgt := 33) dX5_isHop_26 (by decide) (fun (c4 : F5 = 0) => ?_) (fun (c4 : ¬ (F5 = 0)) => ?_)
      · rw [if_pos c4] at eF6
        replace qr5 := qr5.1 c4
        refine x_iconst (pc := 33) (v := (0 : Int32)) dX5_isHop_33 (by decide) ?_
        subst eF6
        exact J
      · rw [if_neg c4] at eF6
        replace qr5 := qr5.2 c4
        refine x_iconst (pc := 29) (v := (1 : Int32)) dX5_isHop_29 (by decide) ?_
        refine x_goto (pc := 30) (tgt := 34) dX5_isHop_30 (by decide) ?_
        subst eF6
        exact J
  subst er
  exact x_iret (pc := 34) dX5_isHop_34 rfl (xb_nar bF6) rfl rfl ⟨rfl, rfl⟩
theorem B_X5_isHop (m tn : Nat → Int32) (i hh : Int32) : xB (f_X5_isHop m tn i hh) := by
  unfold f_X5_isHop
  exact (Bg_X5_isHop_5 _ _ _ _)

def f_X5_send (m tn tp : Nat → Int32) (i size : Int32) : Int32 × (Nat → Int32) × (Nat → Int32) × (Nat → Int32) := (if (f_X5_isWay m tn i) = 0 then ((-1 : Int32), m, tn, tp) else (if (f_X5_in size (1 : Int32) (999 : Int32)) = 0 then ((-1 : Int32), m, tn, tp) else (if (tn ((f_X5_at i (7 : Int32)).toNatClampNeg)) < (99999 : Int32) then (((f_X5_sends (f_X5_keeps m tn tp).1 tn i size).1 3), (f_X5_sends (f_X5_keeps m tn tp).1 tn i size).1, (f_X5_sends (f_X5_keeps m tn tp).1 tn i size).2, (f_X5_keeps m tn tp).2) else ((-2 : Int32), m, tn, tp))))
def p_X5_send (m tn tp : Nat → Int32) (i size : Int32) : Prop := (((f_X5_isWay m tn i) = 0 → True) ∧ (¬ ((f_X5_isWay m tn i) = 0) → (((f_X5_in size (1 : Int32) (999 : Int32)) = 0 → True) ∧ (¬ ((f_X5_in size (1 : Int32) (999 : Int32)) = 0) → (vp_in (f_X5_at i (7 : Int32)) 103 ∧ (((tn ((f_X5_at i (7 : Int32)).toNatClampNeg)) < (99999 : Int32) → (p_X5_keeps m tn tp ∧ (p_X5_sends (f_X5_keeps m tn tp).1 tn i size ∧ True))) ∧ (¬ ((tn ((f_X5_at i (7 : Int32)).toNatClampNeg)) < (99999 : Int32)) → True)))))))
set_option maxRecDepth 100000 in
set_option maxHeartbeats 4000000 in
theorem C_X5_send (G : xG) (h : xH) (o nw rd sd pa xt : Nat) (m tn tp : Nat → Int32) (i size : Int32) (k_o : hAt h o = some (moC nw rd sd pa xt m)) (k_nw : hAt h nw = some (arI 103 tn)) (k_pa : hAt h pa = some (arI 412 tp)) (n_nw_pa : nw ≠ pa) (hp : p_X5_send m tn tp i size) : Cd G 4 yX5_send cX5_send 3 (some .int) [.ref o, .int i, .int size] h (some (.int (f_X5_send m tn tp i size).1)) (hSet (hSet (hSet h o (moC nw rd sd pa xt (f_X5_send m tn tp i size).2.1)) nw (arI 103 (f_X5_send m tn tp i size).2.2.1)) pa (arI 412 (f_X5_send m tn tp i size).2.2.2)) := by
  have n_o_nw : o ≠ nw := hne_k k_o k_nw rfl
  have n_o_pa : o ≠ pa := hne_k k_o k_pa rfl
  refine Ct.of (by decide) (by rfl) ?_
  refine Wp.eqs (L' := [(0, .ref o), (1, .int i), (2, .int size)]) (st' := []) rfl rfl ?_
  refine Wp.eqh (h' := (hSet (hSet (hSet h o (moC nw rd sd pa xt m)) nw (arI 103 tn)) pa (arI 412 tp))) (by rw [hSet_self k_o, hSet_self k_nw, hSet_self k_pa]) ?_
  obtain ⟨R, er⟩ : ∃ R, f_X5_send m tn tp i size = R := ⟨_, rfl⟩
  rw [er]
  unfold f_X5_send at er
  unfold p_X5_send at hp
  refine x_aload_n (pc := 0) dX5_send_0 rfl ?_
  refine x_iload_n (pc := 1) dX5_send_1 rfl ?_
  refine x_cV1i (pc := 2) dX5_send_2 xl_X5_193 xv_X5_isWay (hAt_n n_o_pa (hAt_n n_o_nw hAt_same)) rfl (C_X5_isWay G _ o nw rd sd pa xt m tn i (hAt_n n_o_pa (hAt_n n_o_nw hAt_same)) (hAt_n n_nw_pa hAt_same)) rfl rfl rfl ?_
  obtain ⟨F1, eF1⟩ : ∃ F, f_X5_isWay m tn i = F := ⟨_, rfl⟩
  rw [eF1]
  try rw [eF1] at er
  try rw [eF1] at hp
  have bF1 : xB F1 := by rw [← eF1]; exact (B_X5_isWay _ _ _)
  refine x_if_eq (pc := 5) (tgt := 19) dX5_send_5 (by decide) (fun (c1 : F1 = 0) => ?_) (fun (c1 : ¬ (F1 = 0)) => ?_)
  · rw [if_pos c1] at er
    replace hp := hp.1 c1
    refine x_iconst (pc := 19) (v := (-1 : Int32)) dX5_send_19 (by decide) ?_
    subst er
    exact x_iret (pc := 20) dX5_send_20 rfl rfl rfl rfl ⟨rfl, rfl⟩
  · rw [if_neg c1] at er
    replace hp := hp.2 c1
    refine x_iload_n (pc := 8) dX5_send_8 rfl ?_
    refine x_iconst (pc := 9) (v := (1 : Int32)) dX5_send_9 (by decide) ?_
    refine x_sipush (pc := 10) (v := (999 : Int32)) dX5_send_10 (by decide) ?_
    refine x_cS3i (pc := 13) dX5_send_13 xl_X5_57 xs_X5_in (C_X5_in G _ size (1 : Int32) (999 : Int32)) rfl rfl rfl ?_
    obtain ⟨F2, eF2⟩ : ∃ F, f_X5_in size (1 : Int32) (999 : Int32) = F := ⟨_, rfl⟩
    rw [eF2]
    try rw [eF2] at er
    try rw [eF2] at hp
    have bF2 : xB F2 := by rw [← eF2]; exact (B_X5_in _ _ _)
    refine x_if_ne (pc := 16) (tgt := 21) dX5_send_16 (by decide) (fun (c2 : ¬ (F2 = 0)) => ?_) (fun (c2 : F2 = 0) => ?_)
    · rw [if_neg c2] at er
      replace hp := hp.2 c2
      refine x_aload_n (pc := 21) dX5_send_21 rfl ?_
      refine x_getf (pc := 22) (v := .ref nw) dX5_send_22 xf_X5_7 (hAt_n n_o_pa (hAt_n n_o_nw hAt_same)) rfl ?_
      refine x_iload_n (pc := 25) dX5_send_25 rfl ?_
      refine x_bipush (pc := 26) (v := (7 : Int32)) dX5_send_26 (by decide) ?_
      refine x_cS2i (pc := 28) dX5_send_28 xl_X5_36 xs_X5_at (C_X5_at G _ i (7 : Int32)) rfl rfl rfl ?_
      obtain ⟨F3, eF3⟩ : ∃ F, f_X5_at i (7 : Int32) = F := ⟨_, rfl⟩
      rw [eF3]
      try rw [eF3] at er
      try rw [eF3] at hp
      obtain ⟨q31, hp⟩ := hp
      refine x_iald (pc := 31) dX5_send_31 (hAt_n n_nw_pa hAt_same) q31 (j := (F3.toNatClampNeg)) rfl ?_
      refine x_ldc (pc := 32) (v := (99999 : Int32)) dX5_send_32 xk_X5_196 ?_
      refine x_icmp_lt (pc := 34) (tgt := 40) dX5_send_34 (by decide) (fun (c3 : (tn (F3.toNatClampNeg)) < (99999 : Int32)) => ?_) (fun (c3 : ¬ ((tn (F3.toNatClampNeg)) < (99999 : Int32))) => ?_)
      · rw [if_pos c3] at er
        replace hp := hp.1 c3
        refine x_aload_n (pc := 40) dX5_send_40 rfl ?_
        obtain ⟨q41, hp⟩ := hp
        refine x_cV0v (pc := 41) dX5_send_41 xl_X5_183 xv_X5_keeps (hAt_n n_o_pa (hAt_n n_o_nw hAt_same)) rfl (C_X5_keeps G _ o nw rd sd pa xt m tn tp (hAt_n n_o_pa (hAt_n n_o_nw hAt_same)) (hAt_n n_nw_pa hAt_same) hAt_same n_nw_pa q41) rfl rfl rfl ?_
        obtain ⟨F4, eF4⟩ : ∃ F, f_X5_keeps m tn tp = F := ⟨_, rfl⟩
        rw [eF4]
        try rw [eF4] at er
        try rw [eF4] at hp
        refine Wp.eqh (h' := (hSet (hSet (hSet h o (moC nw rd sd pa xt F4.1)) nw (arI 103 tn)) pa (arI 412 F4.2))) ((congrArg (fun z => hSet z pa _) (hSet_sw2 n_o_nw n_o_pa)).trans (hSet_set)) ?_
        refine x_aload_n (pc := 44) dX5_send_44 rfl ?_
        refine x_aload_n (pc := 45) dX5_send_45 rfl ?_
        refine x_getf (pc := 46) (v := .ref nw) dX5_send_46 xf_X5_7 (hAt_n n_o_pa (hAt_n n_o_nw hAt_same)) rfl ?_
        refine x_iload_n (pc := 49) dX5_send_49 rfl ?_
        refine x_iload_n (pc := 50) dX5_send_50 rfl ?_
        obtain ⟨q51, hp⟩ := hp
        refine x_cV3v (pc := 51) dX5_send_51 xl_X5_165 xv_X5_sends (hAt_n n_o_pa (hAt_n n_o_nw hAt_same)) rfl (C_X5_sends G _ o nw nw rd sd pa xt F4.1 tn i size (hAt_n n_o_pa (hAt_n n_o_nw hAt_same)) (hAt_n n_nw_pa hAt_same) q51) rfl rfl rfl ?_
        obtain ⟨F5, eF5⟩ : ∃ F, f_X5_sends F4.1 tn i size = F := ⟨_, rfl⟩
        rw [eF5]
        try rw [eF5] at er
        try rw [eF5] at hp
        refine Wp.eqh (h' := (hSet (hSet (hSet h o (moC nw rd sd pa xt F5.1)) nw (arI 103 F5.2)) pa (arI 412 F4.2))) ((congrArg (fun z => hSet z nw _) (hSet_sw2 n_o_nw n_o_pa)).trans (hSet_sw1 n_nw_pa)) ?_
        refine x_aload_n (pc := 54) dX5_send_54 rfl ?_
        refine x_getf (pc := 55) (v := .int (F5.1 3)) dX5_send_55 xf_X5_151 (hAt_n n_o_pa (hAt_n n_o_nw hAt_same)) rfl ?_
        subst er
        exact x_iret (pc := 58) dX5_send_58 rfl rfl rfl rfl ⟨rfl, rfl⟩
      · rw [if_neg c3] at er
        replace hp := hp.2 c3
        refine x_bipush (pc := 37) (v := (-2 : Int32)) dX5_send_37 (by decide) ?_
        subst er
        exact x_iret (pc := 39) dX5_send_39 rfl rfl rfl rfl ⟨rfl, rfl⟩
    · rw [if_pos c2] at er
      replace hp := hp.1 c2
      refine x_iconst (pc := 19) (v := (-1 : Int32)) dX5_send_19 (by decide) ?_
      subst er
      exact x_iret (pc := 20) dX5_send_20 rfl rfl rfl rfl ⟨rfl, rfl⟩

def f_X5_changed (m tn tp : Nat → Int32) (place v : Int32) : Int32 × (Nat → Int32) × (Nat → Int32) × (Nat → Int32) := (if (tn (place.toNatClampNeg)) = v then ((-2 : Int32), m, tn, tp) else ((tn (place.toNatClampNeg)), (f_X5_keeps m tn tp).1, (upd tn (place.toNatClampNeg) v), (f_X5_keeps m tn tp).2))
def p_X5_changed (m tn tp : Nat → Int32) (place v : Int32) : Prop := (vp_in place 103 ∧ (((tn (place.toNatClampNeg)) = v → True) ∧ (¬ ((tn (place.toNatClampNeg)) = v) → (p_X5_keeps m tn tp ∧ (vp_in place 103 ∧ True)))))
set_option maxRecDepth 100000 in
set_option maxHeartbeats 4000000 in
theorem C_X5_changed (G : xG) (h : xH) (o nw rd sd pa xt : Nat) (m tn tp : Nat → Int32) (place v : Int32) (k_o : hAt h o = some (moC nw rd sd pa xt m)) (k_nw : hAt h nw = some (arI 103 tn)) (k_pa : hAt h pa = some (arI 412 tp)) (n_nw_pa : nw ≠ pa) (hp : p_X5_changed m tn tp place v) : Cd G 2 yX5_changed cX5_changed 4 (some .int) [.ref o, .int place, .int v] h (some (.int (f_X5_changed m tn tp place v).1)) (hSet (hSet (hSet h o (moC nw rd sd pa xt (f_X5_changed m tn tp place v).2.1)) nw (arI 103 (f_X5_changed m tn tp place v).2.2.1)) pa (arI 412 (f_X5_changed m tn tp place v).2.2.2)) := by
  have n_o_nw : o ≠ nw := hne_k k_o k_nw rfl
  have n_o_pa : o ≠ pa := hne_k k_o k_pa rfl
  refine Ct.of (by decide) (by rfl) ?_
  refine Wp.eqs (L' := [(0, .ref o), (1, .int place), (2, .int v)]) (st' := []) rfl rfl ?_
  refine Wp.eqh (h' := (hSet (hSet (hSet h o (moC nw rd sd pa xt m)) nw (arI 103 tn)) pa (arI 412 tp))) (by rw [hSet_self k_o, hSet_self k_nw, hSet_self k_pa]) ?_
  obtain ⟨R, er⟩ : ∃ R, f_X5_changed m tn tp place v = R := ⟨_, rfl⟩
  rw [er]
  unfold f_X5_changed at er
  unfold p_X5_changed at hp
  refine x_aload_n (pc := 0) dX5_changed_0 rfl ?_
  refine x_getf (pc := 1) (v := .ref nw) dX5_changed_1 xf_X5_7 (hAt_n n_o_pa (hAt_n n_o_nw hAt_same)) rfl ?_
  refine x_iload_n (pc := 4) dX5_changed_4 rfl ?_
  obtain ⟨q5, hp⟩ := hp
  refine x_iald (pc := 5) dX5_changed_5 (hAt_n n_nw_pa hAt_same) q5 (j := (place.toNatClampNeg)) rfl ?_
  refine x_istore_n (pc := 6) (L' := [(3, .int (tn (place.toNatClampNeg))), (0, .ref o), (1, .int place), (2, .int v)]) dX5_changed_6 rfl rfl ?_
  refine x_iload_n (pc := 7) dX5_changed_7 rfl ?_
  refine x_iload_n (pc := 8) dX5_changed_8 rfl ?_
  refine x_icmp_ne (pc := 9) (tgt := 15) dX5_changed_9 (by decide) (fun (c1 : ¬ ((tn (place.toNatClampNeg)) = v)) => ?_) (fun (c1 : (tn (place.toNatClampNeg)) = v) => ?_)
  · rw [if_neg c1] at er
    replace hp := hp.2 c1
    refine x_aload_n (pc := 15) dX5_changed_15 rfl ?_
    obtain ⟨q16, hp⟩ := hp
    refine x_cV0v (pc := 16) dX5_changed_16 xl_X5_183 xv_X5_keeps (hAt_n n_o_pa (hAt_n n_o_nw hAt_same)) rfl (C_X5_keeps G _ o nw rd sd pa xt m tn tp (hAt_n n_o_pa (hAt_n n_o_nw hAt_same)) (hAt_n n_nw_pa hAt_same) hAt_same n_nw_pa q16) rfl rfl rfl ?_
    obtain ⟨F1, eF1⟩ : ∃ F, f_X5_keeps m tn tp = F := ⟨_, rfl⟩
    rw [eF1]
    try rw [eF1] at er
    try rw [eF1] at hp
    refine Wp.eqh (h' := (hSet (hSet (hSet h o (moC nw rd sd pa xt F1.1)) nw (arI 103 tn)) pa (arI 412 F1.2))) ((congrArg (fun z => hSet z pa _) (hSet_sw2 n_o_nw n_o_pa)).trans (hSet_set)) ?_
    refine x_aload_n (pc := 19) dX5_changed_19 rfl ?_
    refine x_getf (pc := 20) (v := .ref nw) dX5_changed_20 xf_X5_7 (hAt_n n_o_pa (hAt_n n_o_nw hAt_same)) rfl ?_
    refine x_iload_n (pc := 23) dX5_changed_23 rfl ?_
    refine x_iload_n (pc := 24) dX5_changed_24 rfl ?_
    obtain ⟨q25, hp⟩ := hp
    refine x_iast (pc := 25) (e' := arI 103 (upd tn (place.toNatClampNeg) v)) dX5_changed_25 (hAt_n n_nw_pa hAt_same) q25 (j := (place.toNatClampNeg)) rfl rfl ?_
    refine Wp.eqh (h' := (hSet (hSet (hSet h o (moC nw rd sd pa xt F1.1)) nw (arI 103 (upd tn (place.toNatClampNeg) v))) pa (arI 412 F1.2))) (hSet_sw1 n_nw_pa) ?_
    refine x_iload_n (pc := 26) dX5_changed_26 rfl ?_
    subst er
    exact x_iret (pc := 27) dX5_changed_27 rfl rfl rfl rfl ⟨rfl, rfl⟩
  · rw [if_pos c1] at er
    replace hp := hp.1 c1
    refine x_bipush (pc := 12) (v := (-2 : Int32)) dX5_changed_12 (by decide) ?_
    subst er
    exact x_iret (pc := 14) dX5_changed_14 rfl rfl rfl rfl ⟨rfl, rfl⟩

def g_X5_limit_6 (m : (Nat → Int32)) (tn : (Nat → Int32)) (tp : (Nat → Int32)) (i : Int32) (hh : Int32) (l : Int32) (y0 : Int32) : Int32 × (Nat → Int32) × (Nat → Int32) × (Nat → Int32) := (if y0 = 0 then ((-1 : Int32), m, tn, tp) else (if (f_X5_in l (20 : Int32) (999 : Int32)) = 0 then ((-1 : Int32), m, tn, tp) else ((f_X5_changed m tn tp (f_X5_at i ((12 : Int32) + hh)) l).1, (f_X5_changed m tn tp (f_X5_at i ((12 : Int32) + hh)) l).2.1, (f_X5_changed m tn tp (f_X5_at i ((12 : Int32) + hh)) l).2.2.1, (f_X5_changed m tn tp (f_X5_at i ((12 : Int32) + hh)) l).2.2.2)))
def h_X5_limit_6 (m : (Nat → Int32)) (tn : (Nat → Int32)) (tp : (Nat → Int32)) (i : Int32) (hh : Int32) (l : Int32) (y0 : Int32) : Prop := ((y0 = 0 → True) ∧ (¬ (y0 = 0) → (((f_X5_in l (20 : Int32) (999 : Int32)) = 0 → True) ∧ (¬ ((f_X5_in l (20 : Int32) (999 : Int32)) = 0) → (p_X5_changed m tn tp (f_X5_at i ((12 : Int32) + hh)) l ∧ True)))))
def f_X5_limit (m tn tp : Nat → Int32) (i hh l : Int32) : Int32 × (Nat → Int32) × (Nat → Int32) × (Nat → Int32) := ((g_X5_limit_6 m tn tp i hh l (f_X5_isHop m tn i hh)).1, (g_X5_limit_6 m tn tp i hh l (f_X5_isHop m tn i hh)).2.1, (g_X5_limit_6 m tn tp i hh l (f_X5_isHop m tn i hh)).2.2.1, (g_X5_limit_6 m tn tp i hh l (f_X5_isHop m tn i hh)).2.2.2)
def p_X5_limit (m tn tp : Nat → Int32) (i hh l : Int32) : Prop := (p_X5_isHop m tn i hh ∧ ((h_X5_limit_6 m tn tp i hh l (f_X5_isHop m tn i hh)) ∧ True))
set_option maxRecDepth 100000 in
set_option maxHeartbeats 4000000 in
theorem C_X5_limit (G : xG) (h : xH) (o nw rd sd pa xt : Nat) (m tn tp : Nat → Int32) (i hh l : Int32) (k_o : hAt h o = some (moC nw rd sd pa xt m)) (k_nw : hAt h nw = some (arI 103 tn)) (k_pa : hAt h pa = some (arI 412 tp)) (n_nw_pa : nw ≠ pa) (hp : p_X5_limit m tn tp i hh l) : Cd G 3 yX5_limit cX5_limit 4 (some .int) [.ref o, .int i, .int hh, .int l] h (some (.int (f_X5_limit m tn tp i hh l).1)) (hSet (hSet (hSet h o (moC nw rd sd pa xt (f_X5_limit m tn tp i hh l).2.1)) nw (arI 103 (f_X5_limit m tn tp i hh l).2.2.1)) pa (arI 412 (f_X5_limit m tn tp i hh l).2.2.2)) := by
  have n_o_nw : o ≠ nw := hne_k k_o k_nw rfl
  have n_o_pa : o ≠ pa := hne_k k_o k_pa rfl
  refine Ct.of (by decide) (by rfl) ?_
  refine Wp.eqs (L' := [(0, .ref o), (1, .int i), (2, .int hh), (3, .int l)]) (st' := []) rfl rfl ?_
  refine Wp.eqh (h' := (hSet (hSet (hSet h o (moC nw rd sd pa xt m)) nw (arI 103 tn)) pa (arI 412 tp))) (by rw [hSet_self k_o, hSet_self k_nw, hSet_self k_pa]) ?_
  obtain ⟨R, er⟩ : ∃ R, f_X5_limit m tn tp i hh l = R := ⟨_, rfl⟩
  rw [er]
  unfold f_X5_limit at er
  unfold p_X5_limit at hp
  refine x_aload_n (pc := 0) dX5_limit_0 rfl ?_
  refine x_iload_n (pc := 1) dX5_limit_1 rfl ?_
  refine x_iload_n (pc := 2) dX5_limit_2 rfl ?_
  obtain ⟨q3, hp⟩ := hp
  refine x_cV2i (pc := 3) dX5_limit_3 xl_X5_197 xv_X5_isHop (hAt_n n_o_pa (hAt_n n_o_nw hAt_same)) rfl (C_X5_isHop G _ o nw rd sd pa xt m tn i hh (hAt_n n_o_pa (hAt_n n_o_nw hAt_same)) (hAt_n n_nw_pa hAt_same) q3) rfl rfl rfl ?_
  obtain ⟨F1, eF1⟩ : ∃ F, f_X5_isHop m tn i hh = F := ⟨_, rfl⟩
  rw [eF1]
  try rw [eF1] at er
  try rw [eF1] at hp
  have bF1 : xB F1 := by rw [← eF1]; exact (B_X5_isHop _ _ _ _)
  obtain ⟨qr6, hp⟩ := hp
  obtain ⟨F8, eF8⟩ : ∃ F, g_X5_limit_6 m tn tp i hh l F1 = F := ⟨_, rfl⟩
  try rw [eF8] at er
  try rw [eF8] at hp
  refine x_mrg (pc' := 38) (L' := [(0, .ref o), (1, .int i), (2, .int hh), (3, .int l)]) (st' := [.int F8.1]) (h' := (hSet (hSet (hSet h o (moC nw rd sd pa xt F8.2.1)) nw (arI 103 F8.2.2.1)) pa (arI 412 F8.2.2.2))) (fun J => ?_) ?_
  · unfold g_X5_limit_6 at eF8
    unfold h_X5_limit_6 at qr6
    try rw [eF1] at eF8
    try rw [eF1] at qr6
    refine x_if_eq (pc := 6) (tgt := 37) dX5_limit_6 (by decide) (fun (c3 : F1 = 0) => ?_) (fun (c3 : ¬ (F1 = 0)) => ?_)
    · rw [if_pos c3] at eF8
      replace qr6 := qr6.1 c3
      refine x_iconst (pc := 37) (v := (-1 : Int32)) dX5_limit_37 (by decide) ?_
      subst eF8
      exact J
    · rw [if_neg c3] at eF8
      replace qr6 := qr6.2 c3
      refine x_iload_n (pc := 9) dX5_limit_9 rfl ?_
      refine x_bipush (pc := 10) (v := (20 : Int32)) dX5_limit_10 (by decide) ?_
      refine x_sipush (pc := 12) (v := (999 : Int32)) dX5_limit_12 (by decide) ?_
      refine x_cS3i (pc := 15) dX5_limit_15 xl_X5_57 xs_X5_in (C_X5_in G _ l (20 : Int32) (999 : Int32)) rfl rfl rfl ?_
      obtain ⟨F5, eF5⟩ : ∃ F, f_X5_in l (20 : Int32) (999 : Int32) = F := ⟨_, rfl⟩
      rw [eF5]
      try rw [eF5] at eF8
      try rw [eF5] at qr6
      have bF5 : xB F5 := by rw [← eF5]; exact (B_X5_in _ _ _)
      refine x_if_eq (pc := 18) (tgt := 37) dX5_limit_18 (by decide) (fun (c4 : F5 = 0) => ?_) (fun (c4 : ¬ (F5 = 0)) => ?_)
      · rw [if_pos c4] at eF8
        replace qr6 := qr6.1 c4
        refine x_iconst (pc := 37) (v := (-1 : Int32)) dX5_limit_37 (by decide) ?_
        subst eF8
        exact J
      · rw [if_neg c4] at eF8
        replace qr6 := qr6.2 c4
        refine x_aload_n (pc := 21) dX5_limit_21 rfl ?_
        refine x_iload_n (pc := 22) dX5_limit_22 rfl ?_
        refine x_bipush (pc := 23) (v := (12 : Int32)) dX5_limit_23 (by decide) ?_
        refine x_iload_n (pc := 25) dX5_limit_25 rfl ?_
        refine x_iadd (pc := 26) dX5_limit_26 ?_
        refine x_cS2i (pc := 27) dX5_limit_27 xl_X5_36 xs_X5_at (C_X5_at G _ i ((12 : Int32) + hh)) rfl rfl rfl ?_
        obtain ⟨F6, eF6⟩ : ∃ F, f_X5_at i ((12 : Int32) + hh) = F := ⟨_, rfl⟩
        rw [eF6]
        try rw [eF6] at eF8
        try rw [eF6] at qr6
        refine x_iload_n (pc := 30) dX5_limit_30 rfl ?_
        obtain ⟨q31, qr6⟩ := qr6
        refine x_cV2i (pc := 31) dX5_limit_31 xl_X5_200 xv_X5_changed (hAt_n n_o_pa (hAt_n n_o_nw hAt_same)) rfl (C_X5_changed G _ o nw rd sd pa xt m tn tp F6 l (hAt_n n_o_pa (hAt_n n_o_nw hAt_same)) (hAt_n n_nw_pa hAt_same) hAt_same n_nw_pa q31) rfl rfl rfl ?_
        obtain ⟨F7, eF7⟩ : ∃ F, f_X5_changed m tn tp F6 l = F := ⟨_, rfl⟩
        rw [eF7]
        try rw [eF7] at eF8
        try rw [eF7] at qr6
        refine Wp.eqh (h' := (hSet (hSet (hSet h o (moC nw rd sd pa xt F7.2.1)) nw (arI 103 F7.2.2.1)) pa (arI 412 F7.2.2.2))) ((congrArg (fun z => hSet z pa _) ((congrArg (fun z => hSet z nw _) (hSet_sw2 n_o_nw n_o_pa)).trans (hSet_sw1 n_nw_pa))).trans (hSet_set)) ?_
        refine x_goto (pc := 34) (tgt := 38) dX5_limit_34 (by decide) ?_
        subst eF8
        exact J
  subst er
  exact x_iret (pc := 38) dX5_limit_38 rfl rfl rfl rfl ⟨rfl, rfl⟩

def g_X5_kind_6 (m : (Nat → Int32)) (tn : (Nat → Int32)) (tp : (Nat → Int32)) (i : Int32) (hh : Int32) (k : Int32) (y0 : Int32) : Int32 × (Nat → Int32) × (Nat → Int32) × (Nat → Int32) := (if y0 = 0 then ((-1 : Int32), m, tn, tp) else (if (f_X5_in k (0 : Int32) (3 : Int32)) = 0 then ((-1 : Int32), m, tn, tp) else ((f_X5_changed m tn tp (f_X5_at i ((18 : Int32) + hh)) k).1, (f_X5_changed m tn tp (f_X5_at i ((18 : Int32) + hh)) k).2.1, (f_X5_changed m tn tp (f_X5_at i ((18 : Int32) + hh)) k).2.2.1, (f_X5_changed m tn tp (f_X5_at i ((18 : Int32) + hh)) k).2.2.2)))
def h_X5_kind_6 (m : (Nat → Int32)) (tn : (Nat → Int32)) (tp : (Nat → Int32)) (i : Int32) (hh : Int32) (k : Int32) (y0 : Int32) : Prop := ((y0 = 0 → True) ∧ (¬ (y0 = 0) → (((f_X5_in k (0 : Int32) (3 : Int32)) = 0 → True) ∧ (¬ ((f_X5_in k (0 : Int32) (3 : Int32)) = 0) → (p_X5_changed m tn tp (f_X5_at i ((18 : Int32) + hh)) k ∧ True)))))
def f_X5_kind (m tn tp : Nat → Int32) (i hh k : Int32) : Int32 × (Nat → Int32) × (Nat → Int32) × (Nat → Int32) := ((g_X5_kind_6 m tn tp i hh k (f_X5_isHop m tn i hh)).1, (g_X5_kind_6 m tn tp i hh k (f_X5_isHop m tn i hh)).2.1, (g_X5_kind_6 m tn tp i hh k (f_X5_isHop m tn i hh)).2.2.1, (g_X5_kind_6 m tn tp i hh k (f_X5_isHop m tn i hh)).2.2.2)
def p_X5_kind (m tn tp : Nat → Int32) (i hh k : Int32) : Prop := (p_X5_isHop m tn i hh ∧ ((h_X5_kind_6 m tn tp i hh k (f_X5_isHop m tn i hh)) ∧ True))
set_option maxRecDepth 100000 in
set_option maxHeartbeats 4000000 in
theorem C_X5_kind (G : xG) (h : xH) (o nw rd sd pa xt : Nat) (m tn tp : Nat → Int32) (i hh k : Int32) (k_o : hAt h o = some (moC nw rd sd pa xt m)) (k_nw : hAt h nw = some (arI 103 tn)) (k_pa : hAt h pa = some (arI 412 tp)) (n_nw_pa : nw ≠ pa) (hp : p_X5_kind m tn tp i hh k) : Cd G 3 yX5_kind cX5_kind 4 (some .int) [.ref o, .int i, .int hh, .int k] h (some (.int (f_X5_kind m tn tp i hh k).1)) (hSet (hSet (hSet h o (moC nw rd sd pa xt (f_X5_kind m tn tp i hh k).2.1)) nw (arI 103 (f_X5_kind m tn tp i hh k).2.2.1)) pa (arI 412 (f_X5_kind m tn tp i hh k).2.2.2)) := by
  have n_o_nw : o ≠ nw := hne_k k_o k_nw rfl
  have n_o_pa : o ≠ pa := hne_k k_o k_pa rfl
  refine Ct.of (by decide) (by rfl) ?_
  refine Wp.eqs (L' := [(0, .ref o), (1, .int i), (2, .int hh), (3, .int k)]) (st' := []) rfl rfl ?_
  refine Wp.eqh (h' := (hSet (hSet (hSet h o (moC nw rd sd pa xt m)) nw (arI 103 tn)) pa (arI 412 tp))) (by rw [hSet_self k_o, hSet_self k_nw, hSet_self k_pa]) ?_
  obtain ⟨R, er⟩ : ∃ R, f_X5_kind m tn tp i hh k = R := ⟨_, rfl⟩
  rw [er]
  unfold f_X5_kind at er
  unfold p_X5_kind at hp
  refine x_aload_n (pc := 0) dX5_kind_0 rfl ?_
  refine x_iload_n (pc := 1) dX5_kind_1 rfl ?_
  refine x_iload_n (pc := 2) dX5_kind_2 rfl ?_
  obtain ⟨q3, hp⟩ := hp
  refine x_cV2i (pc := 3) dX5_kind_3 xl_X5_197 xv_X5_isHop (hAt_n n_o_pa (hAt_n n_o_nw hAt_same)) rfl (C_X5_isHop G _ o nw rd sd pa xt m tn i hh (hAt_n n_o_pa (hAt_n n_o_nw hAt_same)) (hAt_n n_nw_pa hAt_same) q3) rfl rfl rfl ?_
  obtain ⟨F1, eF1⟩ : ∃ F, f_X5_isHop m tn i hh = F := ⟨_, rfl⟩
  rw [eF1]
  try rw [eF1] at er
  try rw [eF1] at hp
  have bF1 : xB F1 := by rw [← eF1]; exact (B_X5_isHop _ _ _ _)
  obtain ⟨qr6, hp⟩ := hp
  obtain ⟨F8, eF8⟩ : ∃ F, g_X5_kind_6 m tn tp i hh k F1 = F := ⟨_, rfl⟩
  try rw [eF8] at er
  try rw [eF8] at hp
  refine x_mrg (pc' := 35) (L' := [(0, .ref o), (1, .int i), (2, .int hh), (3, .int k)]) (st' := [.int F8.1]) (h' := (hSet (hSet (hSet h o (moC nw rd sd pa xt F8.2.1)) nw (arI 103 F8.2.2.1)) pa (arI 412 F8.2.2.2))) (fun J => ?_) ?_
  · unfold g_X5_kind_6 at eF8
    unfold h_X5_kind_6 at qr6
    try rw [eF1] at eF8
    try rw [eF1] at qr6
    refine x_if_eq (pc := 6) (tgt := 34) dX5_kind_6 (by decide) (fun (c3 : F1 = 0) => ?_) (fun (c3 : ¬ (F1 = 0)) => ?_)
    · rw [if_pos c3] at eF8
      replace qr6 := qr6.1 c3
      refine x_iconst (pc := 34) (v := (-1 : Int32)) dX5_kind_34 (by decide) ?_
      subst eF8
      exact J
    · rw [if_neg c3] at eF8
      replace qr6 := qr6.2 c3
      refine x_iload_n (pc := 9) dX5_kind_9 rfl ?_
      refine x_iconst (pc := 10) (v := (0 : Int32)) dX5_kind_10 (by decide) ?_
      refine x_iconst (pc := 11) (v := (3 : Int32)) dX5_kind_11 (by decide) ?_
      refine x_cS3i (pc := 12) dX5_kind_12 xl_X5_57 xs_X5_in (C_X5_in G _ k (0 : Int32) (3 : Int32)) rfl rfl rfl ?_
      obtain ⟨F5, eF5⟩ : ∃ F, f_X5_in k (0 : Int32) (3 : Int32) = F := ⟨_, rfl⟩
      rw [eF5]
      try rw [eF5] at eF8
      try rw [eF5] at qr6
      have bF5 : xB F5 := by rw [← eF5]; exact (B_X5_in _ _ _)
      refine x_if_eq (pc := 15) (tgt := 34) dX5_kind_15 (by decide) (fun (c4 : F5 = 0) => ?_) (fun (c4 : ¬ (F5 = 0)) => ?_)
      · rw [if_pos c4] at eF8
        replace qr6 := qr6.1 c4
        refine x_iconst (pc := 34) (v := (-1 : Int32)) dX5_kind_34 (by decide) ?_
        subst eF8
        exact J
      · rw [if_neg c4] at eF8
        replace qr6 := qr6.2 c4
        refine x_aload_n (pc := 18) dX5_kind_18 rfl ?_
        refine x_iload_n (pc := 19) dX5_kind_19 rfl ?_
        refine x_bipush (pc := 20) (v := (18 : Int32)) dX5_kind_20 (by decide) ?_
        refine x_iload_n (pc := 22) dX5_kind_22 rfl ?_
        refine x_iadd (pc := 23) dX5_kind_23 ?_
        refine x_cS2i (pc := 24) dX5_kind_24 xl_X5_36 xs_X5_at (C_X5_at G _ i ((18 : Int32) + hh)) rfl rfl rfl ?_
        obtain ⟨F6, eF6⟩ : ∃ F, f_X5_at i ((18 : Int32) + hh) = F := ⟨_, rfl⟩
        rw [eF6]
        try rw [eF6] at eF8
        try rw [eF6] at qr6
        refine x_iload_n (pc := 27) dX5_kind_27 rfl ?_
        obtain ⟨q28, qr6⟩ := qr6
        refine x_cV2i (pc := 28) dX5_kind_28 xl_X5_200 xv_X5_changed (hAt_n n_o_pa (hAt_n n_o_nw hAt_same)) rfl (C_X5_changed G _ o nw rd sd pa xt m tn tp F6 k (hAt_n n_o_pa (hAt_n n_o_nw hAt_same)) (hAt_n n_nw_pa hAt_same) hAt_same n_nw_pa q28) rfl rfl rfl ?_
        obtain ⟨F7, eF7⟩ : ∃ F, f_X5_changed m tn tp F6 k = F := ⟨_, rfl⟩
        rw [eF7]
        try rw [eF7] at eF8
        try rw [eF7] at qr6
        refine Wp.eqh (h' := (hSet (hSet (hSet h o (moC nw rd sd pa xt F7.2.1)) nw (arI 103 F7.2.2.1)) pa (arI 412 F7.2.2.2))) ((congrArg (fun z => hSet z pa _) ((congrArg (fun z => hSet z nw _) (hSet_sw2 n_o_nw n_o_pa)).trans (hSet_sw1 n_nw_pa))).trans (hSet_set)) ?_
        refine x_goto (pc := 31) (tgt := 35) dX5_kind_31 (by decide) ?_
        subst eF8
        exact J
  subst er
  exact x_iret (pc := 35) dX5_kind_35 rfl rfl rfl rfl ⟨rfl, rfl⟩

def g_X5_loss_5 (m : (Nat → Int32)) (tn : (Nat → Int32)) (tp : (Nat → Int32)) (i : Int32) (q : Int32) (y0 : Int32) : Int32 × (Nat → Int32) × (Nat → Int32) × (Nat → Int32) := (if y0 = 0 then ((-1 : Int32), m, tn, tp) else (if (f_X5_in q (0 : Int32) (99 : Int32)) = 0 then ((-1 : Int32), m, tn, tp) else ((f_X5_changed m tn tp (f_X5_at i (10 : Int32)) q).1, (f_X5_changed m tn tp (f_X5_at i (10 : Int32)) q).2.1, (f_X5_changed m tn tp (f_X5_at i (10 : Int32)) q).2.2.1, (f_X5_changed m tn tp (f_X5_at i (10 : Int32)) q).2.2.2)))
def h_X5_loss_5 (m : (Nat → Int32)) (tn : (Nat → Int32)) (tp : (Nat → Int32)) (i : Int32) (q : Int32) (y0 : Int32) : Prop := ((y0 = 0 → True) ∧ (¬ (y0 = 0) → (((f_X5_in q (0 : Int32) (99 : Int32)) = 0 → True) ∧ (¬ ((f_X5_in q (0 : Int32) (99 : Int32)) = 0) → (p_X5_changed m tn tp (f_X5_at i (10 : Int32)) q ∧ True)))))
def f_X5_loss (m tn tp : Nat → Int32) (i q : Int32) : Int32 × (Nat → Int32) × (Nat → Int32) × (Nat → Int32) := ((g_X5_loss_5 m tn tp i q (f_X5_isWay m tn i)).1, (g_X5_loss_5 m tn tp i q (f_X5_isWay m tn i)).2.1, (g_X5_loss_5 m tn tp i q (f_X5_isWay m tn i)).2.2.1, (g_X5_loss_5 m tn tp i q (f_X5_isWay m tn i)).2.2.2)
def p_X5_loss (m tn tp : Nat → Int32) (i q : Int32) : Prop := ((h_X5_loss_5 m tn tp i q (f_X5_isWay m tn i)) ∧ True)
set_option maxRecDepth 100000 in
set_option maxHeartbeats 4000000 in
theorem C_X5_loss (G : xG) (h : xH) (o nw rd sd pa xt : Nat) (m tn tp : Nat → Int32) (i q : Int32) (k_o : hAt h o = some (moC nw rd sd pa xt m)) (k_nw : hAt h nw = some (arI 103 tn)) (k_pa : hAt h pa = some (arI 412 tp)) (n_nw_pa : nw ≠ pa) (hp : p_X5_loss m tn tp i q) : Cd G 3 yX5_loss cX5_loss 3 (some .int) [.ref o, .int i, .int q] h (some (.int (f_X5_loss m tn tp i q).1)) (hSet (hSet (hSet h o (moC nw rd sd pa xt (f_X5_loss m tn tp i q).2.1)) nw (arI 103 (f_X5_loss m tn tp i q).2.2.1)) pa (arI 412 (f_X5_loss m tn tp i q).2.2.2)) := by
  have n_o_nw : o ≠ nw := hne_k k_o k_nw rfl
  have n_o_pa : o ≠ pa := hne_k k_o k_pa rfl
  refine Ct.of (by decide) (by rfl) ?_
  refine Wp.eqs (L' := [(0, .ref o), (1, .int i), (2, .int q)]) (st' := []) rfl rfl ?_
  refine Wp.eqh (h' := (hSet (hSet (hSet h o (moC nw rd sd pa xt m)) nw (arI 103 tn)) pa (arI 412 tp))) (by rw [hSet_self k_o, hSet_self k_nw, hSet_self k_pa]) ?_
  obtain ⟨R, er⟩ : ∃ R, f_X5_loss m tn tp i q = R := ⟨_, rfl⟩
  rw [er]
  unfold f_X5_loss at er
  unfold p_X5_loss at hp
  refine x_aload_n (pc := 0) dX5_loss_0 rfl ?_
  refine x_iload_n (pc := 1) dX5_loss_1 rfl ?_
  refine x_cV1i (pc := 2) dX5_loss_2 xl_X5_193 xv_X5_isWay (hAt_n n_o_pa (hAt_n n_o_nw hAt_same)) rfl (C_X5_isWay G _ o nw rd sd pa xt m tn i (hAt_n n_o_pa (hAt_n n_o_nw hAt_same)) (hAt_n n_nw_pa hAt_same)) rfl rfl rfl ?_
  obtain ⟨F1, eF1⟩ : ∃ F, f_X5_isWay m tn i = F := ⟨_, rfl⟩
  rw [eF1]
  try rw [eF1] at er
  try rw [eF1] at hp
  have bF1 : xB F1 := by rw [← eF1]; exact (B_X5_isWay _ _ _)
  obtain ⟨qr5, hp⟩ := hp
  obtain ⟨F8, eF8⟩ : ∃ F, g_X5_loss_5 m tn tp i q F1 = F := ⟨_, rfl⟩
  try rw [eF8] at er
  try rw [eF8] at hp
  refine x_mrg (pc' := 33) (L' := [(0, .ref o), (1, .int i), (2, .int q)]) (st' := [.int F8.1]) (h' := (hSet (hSet (hSet h o (moC nw rd sd pa xt F8.2.1)) nw (arI 103 F8.2.2.1)) pa (arI 412 F8.2.2.2))) (fun J => ?_) ?_
  · unfold g_X5_loss_5 at eF8
    unfold h_X5_loss_5 at qr5
    try rw [eF1] at eF8
    try rw [eF1] at qr5
    refine x_if_eq (pc := 5) (tgt := 32) dX5_loss_5 (by decide) (fun (c3 : F1 = 0) => ?_) (fun (c3 : ¬ (F1 = 0)) => ?_)
    · rw [if_pos c3] at eF8
      replace qr5 := qr5.1 c3
      refine x_iconst (pc := 32) (v := (-1 : Int32)) dX5_loss_32 (by decide) ?_
      subst eF8
      exact J
    · rw [if_neg c3] at eF8
      replace qr5 := qr5.2 c3
      refine x_iload_n (pc := 8) dX5_loss_8 rfl ?_
      refine x_iconst (pc := 9) (v := (0 : Int32)) dX5_loss_9 (by decide) ?_
      refine x_bipush (pc := 10) (v := (99 : Int32)) dX5_loss_10 (by decide) ?_
      refine x_cS3i (pc := 12) dX5_loss_12 xl_X5_57 xs_X5_in (C_X5_in G _ q (0 : Int32) (99 : Int32)) rfl rfl rfl ?_
      obtain ⟨F5, eF5⟩ : ∃ F, f_X5_in q (0 : Int32) (99 : Int32) = F := ⟨_, rfl⟩
      rw [eF5]
      try rw [eF5] at eF8
      try rw [eF5] at qr5
      have bF5 : xB F5 := by rw [← eF5]; exact (B_X5_in _ _ _)
      refine x_if_eq (pc := 15) (tgt := 32) dX5_loss_15 (by decide) (fun (c4 : F5 = 0) => ?_) (fun (c4 : ¬ (F5 = 0)) => ?_)
      · rw [if_pos c4] at eF8
        replace qr5 := qr5.1 c4
        refine x_iconst (pc := 32) (v := (-1 : Int32)) dX5_loss_32 (by decide) ?_
        subst eF8
        exact J
      · rw [if_neg c4] at eF8
        replace qr5 := qr5.2 c4
        refine x_aload_n (pc := 18) dX5_loss_18 rfl ?_
        refine x_iload_n (pc := 19) dX5_loss_19 rfl ?_
        refine x_bipush (pc := 20) (v := (10 : Int32)) dX5_loss_20 (by decide) ?_
        refine x_cS2i (pc := 22) dX5_loss_22 xl_X5_36 xs_X5_at (C_X5_at G _ i (10 : Int32)) rfl rfl rfl ?_
        obtain ⟨F6, eF6⟩ : ∃ F, f_X5_at i (10 : Int32) = F := ⟨_, rfl⟩
        rw [eF6]
        try rw [eF6] at eF8
        try rw [eF6] at qr5
        refine x_iload_n (pc := 25) dX5_loss_25 rfl ?_
        obtain ⟨q26, qr5⟩ := qr5
        refine x_cV2i (pc := 26) dX5_loss_26 xl_X5_200 xv_X5_changed (hAt_n n_o_pa (hAt_n n_o_nw hAt_same)) rfl (C_X5_changed G _ o nw rd sd pa xt m tn tp F6 q (hAt_n n_o_pa (hAt_n n_o_nw hAt_same)) (hAt_n n_nw_pa hAt_same) hAt_same n_nw_pa q26) rfl rfl rfl ?_
        obtain ⟨F7, eF7⟩ : ∃ F, f_X5_changed m tn tp F6 q = F := ⟨_, rfl⟩
        rw [eF7]
        try rw [eF7] at eF8
        try rw [eF7] at qr5
        refine Wp.eqh (h' := (hSet (hSet (hSet h o (moC nw rd sd pa xt F7.2.1)) nw (arI 103 F7.2.2.1)) pa (arI 412 F7.2.2.2))) ((congrArg (fun z => hSet z pa _) ((congrArg (fun z => hSet z nw _) (hSet_sw2 n_o_nw n_o_pa)).trans (hSet_sw1 n_nw_pa))).trans (hSet_set)) ?_
        refine x_goto (pc := 29) (tgt := 33) dX5_loss_29 (by decide) ?_
        subst eF8
        exact J
  subst er
  exact x_iret (pc := 33) dX5_loss_33 rfl rfl rfl rfl ⟨rfl, rfl⟩

def g_X5_believe_6 (m : (Nat → Int32)) (tn : (Nat → Int32)) (tp : (Nat → Int32)) (b : Int32) (y0 : Int32) : Int32 × (Nat → Int32) × (Nat → Int32) × (Nat → Int32) := (if y0 = 0 then ((-1 : Int32), m, tn, tp) else ((f_X5_changed m tn tp (5 : Int32) b).1, (f_X5_changed m tn tp (5 : Int32) b).2.1, (f_X5_changed m tn tp (5 : Int32) b).2.2.1, (f_X5_changed m tn tp (5 : Int32) b).2.2.2))
def h_X5_believe_6 (m : (Nat → Int32)) (tn : (Nat → Int32)) (tp : (Nat → Int32)) (b : Int32) (y0 : Int32) : Prop := ((y0 = 0 → True) ∧ (¬ (y0 = 0) → (p_X5_changed m tn tp (5 : Int32) b ∧ True)))
def f_X5_believe (m tn tp : Nat → Int32) (b : Int32) : Int32 × (Nat → Int32) × (Nat → Int32) × (Nat → Int32) := ((g_X5_believe_6 m tn tp b (f_X5_in b (0 : Int32) (2 : Int32))).1, (g_X5_believe_6 m tn tp b (f_X5_in b (0 : Int32) (2 : Int32))).2.1, (g_X5_believe_6 m tn tp b (f_X5_in b (0 : Int32) (2 : Int32))).2.2.1, (g_X5_believe_6 m tn tp b (f_X5_in b (0 : Int32) (2 : Int32))).2.2.2)
def p_X5_believe (m tn tp : Nat → Int32) (b : Int32) : Prop := ((h_X5_believe_6 m tn tp b (f_X5_in b (0 : Int32) (2 : Int32))) ∧ True)
set_option maxRecDepth 100000 in
set_option maxHeartbeats 4000000 in
theorem C_X5_believe (G : xG) (h : xH) (o nw rd sd pa xt : Nat) (m tn tp : Nat → Int32) (b : Int32) (k_o : hAt h o = some (moC nw rd sd pa xt m)) (k_nw : hAt h nw = some (arI 103 tn)) (k_pa : hAt h pa = some (arI 412 tp)) (n_nw_pa : nw ≠ pa) (hp : p_X5_believe m tn tp b) : Cd G 3 yX5_believe cX5_believe 2 (some .int) [.ref o, .int b] h (some (.int (f_X5_believe m tn tp b).1)) (hSet (hSet (hSet h o (moC nw rd sd pa xt (f_X5_believe m tn tp b).2.1)) nw (arI 103 (f_X5_believe m tn tp b).2.2.1)) pa (arI 412 (f_X5_believe m tn tp b).2.2.2)) := by
  have n_o_nw : o ≠ nw := hne_k k_o k_nw rfl
  have n_o_pa : o ≠ pa := hne_k k_o k_pa rfl
  refine Ct.of (by decide) (by rfl) ?_
  refine Wp.eqs (L' := [(0, .ref o), (1, .int b)]) (st' := []) rfl rfl ?_
  refine Wp.eqh (h' := (hSet (hSet (hSet h o (moC nw rd sd pa xt m)) nw (arI 103 tn)) pa (arI 412 tp))) (by rw [hSet_self k_o, hSet_self k_nw, hSet_self k_pa]) ?_
  obtain ⟨R, er⟩ : ∃ R, f_X5_believe m tn tp b = R := ⟨_, rfl⟩
  rw [er]
  unfold f_X5_believe at er
  unfold p_X5_believe at hp
  refine x_iload_n (pc := 0) dX5_believe_0 rfl ?_
  refine x_iconst (pc := 1) (v := (0 : Int32)) dX5_believe_1 (by decide) ?_
  refine x_iconst (pc := 2) (v := (2 : Int32)) dX5_believe_2 (by decide) ?_
  refine x_cS3i (pc := 3) dX5_believe_3 xl_X5_57 xs_X5_in (C_X5_in G _ b (0 : Int32) (2 : Int32)) rfl rfl rfl ?_
  obtain ⟨F1, eF1⟩ : ∃ F, f_X5_in b (0 : Int32) (2 : Int32) = F := ⟨_, rfl⟩
  rw [eF1]
  try rw [eF1] at er
  try rw [eF1] at hp
  have bF1 : xB F1 := by rw [← eF1]; exact (B_X5_in _ _ _)
  obtain ⟨qr6, hp⟩ := hp
  obtain ⟨F4, eF4⟩ : ∃ F, g_X5_believe_6 m tn tp b F1 = F := ⟨_, rfl⟩
  try rw [eF4] at er
  try rw [eF4] at hp
  refine x_mrg (pc' := 19) (L' := [(0, .ref o), (1, .int b)]) (st' := [.int F4.1]) (h' := (hSet (hSet (hSet h o (moC nw rd sd pa xt F4.2.1)) nw (arI 103 F4.2.2.1)) pa (arI 412 F4.2.2.2))) (fun J => ?_) ?_
  · unfold g_X5_believe_6 at eF4
    unfold h_X5_believe_6 at qr6
    try rw [eF1] at eF4
    try rw [eF1] at qr6
    refine x_if_eq (pc := 6) (tgt := 18) dX5_believe_6 (by decide) (fun (c2 : F1 = 0) => ?_) (fun (c2 : ¬ (F1 = 0)) => ?_)
    · rw [if_pos c2] at eF4
      replace qr6 := qr6.1 c2
      refine x_iconst (pc := 18) (v := (-1 : Int32)) dX5_believe_18 (by decide) ?_
      subst eF4
      exact J
    · rw [if_neg c2] at eF4
      replace qr6 := qr6.2 c2
      refine x_aload_n (pc := 9) dX5_believe_9 rfl ?_
      refine x_iconst (pc := 10) (v := (5 : Int32)) dX5_believe_10 (by decide) ?_
      refine x_iload_n (pc := 11) dX5_believe_11 rfl ?_
      obtain ⟨q12, qr6⟩ := qr6
      refine x_cV2i (pc := 12) dX5_believe_12 xl_X5_200 xv_X5_changed (hAt_n n_o_pa (hAt_n n_o_nw hAt_same)) rfl (C_X5_changed G _ o nw rd sd pa xt m tn tp (5 : Int32) b (hAt_n n_o_pa (hAt_n n_o_nw hAt_same)) (hAt_n n_nw_pa hAt_same) hAt_same n_nw_pa q12) rfl rfl rfl ?_
      obtain ⟨F3, eF3⟩ : ∃ F, f_X5_changed m tn tp (5 : Int32) b = F := ⟨_, rfl⟩
      rw [eF3]
      try rw [eF3] at eF4
      try rw [eF3] at qr6
      refine Wp.eqh (h' := (hSet (hSet (hSet h o (moC nw rd sd pa xt F3.2.1)) nw (arI 103 F3.2.2.1)) pa (arI 412 F3.2.2.2))) ((congrArg (fun z => hSet z pa _) ((congrArg (fun z => hSet z nw _) (hSet_sw2 n_o_nw n_o_pa)).trans (hSet_sw1 n_nw_pa))).trans (hSet_set)) ?_
      refine x_goto (pc := 15) (tgt := 19) dX5_believe_15 (by decide) ?_
      subst eF4
      exact J
  subst er
  exact x_iret (pc := 19) dX5_believe_19 rfl rfl rfl rfl ⟨rfl, rfl⟩

def l_X5_passes_6 : Nat → (Nat → Int32) → Int32 → Int32 → Int32 → Int32 × Int32
  | 0, _, _, _, _ => (0, 0)
  | n + 1, t, i, v3, v2 => (if (t ((f_X5_at i (11 : Int32)).toNatClampNeg)) ≤ v3 then (v3, v2) else (l_X5_passes_6 n t i (v3 + (1 : Int32)) (f_X5_lesser v2 (t ((f_X5_at i ((12 : Int32) + v3)).toNatClampNeg)))))
def q_X5_passes_6 : Nat → (Nat → Int32) → Int32 → Int32 → Int32 → Prop
  | 0, _, _, _, _ => False
  | n + 1, t, i, v3, v2 => (vp_in (f_X5_at i (11 : Int32)) 103 ∧ (((t ((f_X5_at i (11 : Int32)).toNatClampNeg)) ≤ v3 → True) ∧ (¬ ((t ((f_X5_at i (11 : Int32)).toNatClampNeg)) ≤ v3) → (vp_in (f_X5_at i ((12 : Int32) + v3)) 103 ∧ (q_X5_passes_6 n t i (v3 + (1 : Int32)) (f_X5_lesser v2 (t ((f_X5_at i ((12 : Int32) + v3)).toNatClampNeg))))))))
set_option maxRecDepth 100000 in
set_option maxHeartbeats 4000000 in
theorem L_X5_passes_6 (G : xG) (h : xH) (ta : Nat) (t : Nat → Int32) (i : Int32) (k_ta : hAt h ta = some (arI 103 t)) {Z : xZ} : ∀ (n : Nat) (v3 : Int32) (v2 : Int32), q_X5_passes_6 n t i v3 v2 → Wp G yX5_passes.cls cX5_passes 4 yX5_passes.name (some .int) (xR 1 0 0) Z 0 0 39 [(3, .int (l_X5_passes_6 n t i v3 v2).1), (2, .int (l_X5_passes_6 n t i v3 v2).2), (0, .ref ta), (1, .int i)] [] h → Wp G yX5_passes.cls cX5_passes 4 yX5_passes.name (some .int) (xR 1 0 0) Z 0 0 6 [(3, .int v3), (2, .int v2), (0, .ref ta), (1, .int i)] [] h := by
  intro n
  induction n with
  | zero => intro v3 v2 hp; exact absurd hp id
  | succ n ih =>
    intro v3 v2 hp kk
    obtain ⟨R, er⟩ : ∃ R, l_X5_passes_6 (n + 1) t i v3 v2 = R := ⟨_, rfl⟩
    rw [er] at kk
    rw [l_X5_passes_6] at er
    rw [q_X5_passes_6] at hp
    refine x_iload_n (pc := 6) dX5_passes_6 rfl ?_
    refine x_aload_n (pc := 7) dX5_passes_7 rfl ?_
    refine x_iload_n (pc := 8) dX5_passes_8 rfl ?_
    refine x_bipush (pc := 9) (v := (11 : Int32)) dX5_passes_9 (by decide) ?_
    refine x_cS2i (pc := 11) dX5_passes_11 xl_X5_36 xs_X5_at (C_X5_at G _ i (11 : Int32)) rfl rfl rfl ?_
    obtain ⟨F4, eF4⟩ : ∃ F, f_X5_at i (11 : Int32) = F := ⟨_, rfl⟩
    rw [eF4]
    try rw [eF4] at er
    try rw [eF4] at hp
    obtain ⟨q14, hp⟩ := hp
    refine x_iald (pc := 14) dX5_passes_14 k_ta q14 (j := (F4.toNatClampNeg)) rfl ?_
    refine x_icmp_ge (pc := 15) (tgt := 39) dX5_passes_15 (by decide) (fun (c1 : (t (F4.toNatClampNeg)) ≤ v3) => ?_) (fun (c1 : ¬ ((t (F4.toNatClampNeg)) ≤ v3)) => ?_)
    · rw [if_pos c1] at er
      replace hp := hp.1 c1
      subst er
      exact kk
    · rw [if_neg c1] at er
      replace hp := hp.2 c1
      refine x_iload_n (pc := 18) dX5_passes_18 rfl ?_
      refine x_aload_n (pc := 19) dX5_passes_19 rfl ?_
      refine x_iload_n (pc := 20) dX5_passes_20 rfl ?_
      refine x_bipush (pc := 21) (v := (12 : Int32)) dX5_passes_21 (by decide) ?_
      refine x_iload_n (pc := 23) dX5_passes_23 rfl ?_
      refine x_iadd (pc := 24) dX5_passes_24 ?_
      refine x_cS2i (pc := 25) dX5_passes_25 xl_X5_36 xs_X5_at (C_X5_at G _ i ((12 : Int32) + v3)) rfl rfl rfl ?_
      obtain ⟨F5, eF5⟩ : ∃ F, f_X5_at i ((12 : Int32) + v3) = F := ⟨_, rfl⟩
      rw [eF5]
      try rw [eF5] at er
      try rw [eF5] at hp
      obtain ⟨q28, hp⟩ := hp
      refine x_iald (pc := 28) dX5_passes_28 k_ta q28 (j := (F5.toNatClampNeg)) rfl ?_
      refine x_cS2i (pc := 29) dX5_passes_29 xl_X5_169 xs_X5_lesser (C_X5_lesser G _ v2 (t (F5.toNatClampNeg))) rfl rfl rfl ?_
      obtain ⟨F6, eF6⟩ : ∃ F, f_X5_lesser v2 (t (F5.toNatClampNeg)) = F := ⟨_, rfl⟩
      rw [eF6]
      try rw [eF6] at er
      try rw [eF6] at hp
      refine x_istore_n (pc := 32) (L' := [(2, .int F6), (3, .int v3), (0, .ref ta), (1, .int i)]) dX5_passes_32 rfl rfl ?_
      refine x_iinc (pc := 33) (v := (v3 + (1 : Int32))) (L' := [(3, .int (v3 + (1 : Int32))), (2, .int F6), (0, .ref ta), (1, .int i)]) dX5_passes_33 rfl rfl rfl rfl ?_
      refine x_goto (pc := 36) (tgt := 6) dX5_passes_36 (by decide) ?_
      subst er
      exact ih (v3 + (1 : Int32)) F6 hp kk
def f_X5_passes (t : Nat → Int32) (i : Int32) : Int32 := (l_X5_passes_6 xK t i (0 : Int32) (999 : Int32)).2
def p_X5_passes (t : Nat → Int32) (i : Int32) : Prop := ((q_X5_passes_6 xK t i (0 : Int32) (999 : Int32)) ∧ True)
set_option maxRecDepth 100000 in
set_option maxHeartbeats 4000000 in
theorem C_X5_passes (G : xG) (h : xH) (ta : Nat) (t : Nat → Int32) (i : Int32) (k_ta : hAt h ta = some (arI 103 t)) (hp : p_X5_passes t i) : Cd G 1 yX5_passes cX5_passes 4 (some .int) [.ref ta, .int i] h (some (.int (f_X5_passes t i))) h := by
  refine Ct.of (by decide) (by rfl) ?_
  refine Wp.eqs (L' := [(0, .ref ta), (1, .int i)]) (st' := []) rfl rfl ?_
  obtain ⟨R, er⟩ : ∃ R, f_X5_passes t i = R := ⟨_, rfl⟩
  rw [er]
  unfold f_X5_passes at er
  unfold p_X5_passes at hp
  refine x_sipush (pc := 0) (v := (999 : Int32)) dX5_passes_0 (by decide) ?_
  refine x_istore_n (pc := 3) (L' := [(2, .int (999 : Int32)), (0, .ref ta), (1, .int i)]) dX5_passes_3 rfl rfl ?_
  refine x_iconst (pc := 4) (v := (0 : Int32)) dX5_passes_4 (by decide) ?_
  refine x_istore_n (pc := 5) (L' := [(3, .int (0 : Int32)), (2, .int (999 : Int32)), (0, .ref ta), (1, .int i)]) dX5_passes_5 rfl rfl ?_
  obtain ⟨ql6, hp⟩ := hp
  refine L_X5_passes_6 G h ta t i k_ta  xK (0 : Int32) (999 : Int32) ql6 ?_
  obtain ⟨F7, eF7⟩ : ∃ F, l_X5_passes_6 xK t i (0 : Int32) (999 : Int32) = F := ⟨_, rfl⟩
  rw [eF7]
  try rw [eF7] at er
  try rw [eF7] at hp
  refine x_iload_n (pc := 39) dX5_passes_39 rfl ?_
  subst er
  exact x_iret (pc := 40) dX5_passes_40 rfl rfl rfl rfl ⟨rfl, rfl⟩
