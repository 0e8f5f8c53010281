def f_X5_wipe (m : Nat → Int32) : Int32 × (Nat → Int32) := ((m 1), (upd m 1 (0 : Int32)))
set_option maxRecDepth 100000 in
set_option maxHeartbeats 4000000 in
theorem C_X5_wipe (G : xG) (h : xH) (o nw rd sd pa xt : Nat) (m : Nat → Int32) (k_o : hAt h o = some (moC nw rd sd pa xt m)) : Cd G 0 yX5_wipe cX5_wipe 2 (some .int) [.ref o] h (some (.int (f_X5_wipe m).1)) (hSet h o (moC nw rd sd pa xt (f_X5_wipe m).2)) := by
  refine Ct.of (by decide) (by rfl) ?_
  refine Wp.eqs (L' := [(0, .ref o)]) (st' := []) rfl rfl ?_
  refine Wp.eqh (h' := (hSet h o (moC nw rd sd pa xt m))) (by rw [hSet_self k_o]) ?_
  obtain ⟨R, er⟩ : ∃ R, f_X5_wipe m = R := ⟨_, rfl⟩
  rw [er]
  unfold f_X5_wipe at er
  refine x_aload_n (pc := 0) dX5_wipe_0 rfl ?_
  refine x_getf (pc := 1) (v := .int (m 1)) dX5_wipe_1 xf_X5_54 hAt_same rfl ?_
  refine x_istore_n (pc := 4) (L' := [(1, .int (m 1)), (0, .ref o)]) dX5_wipe_4 rfl rfl ?_
  refine x_aload_n (pc := 5) dX5_wipe_5 rfl ?_
  refine x_iconst (pc := 6) (v := (0 : Int32)) dX5_wipe_6 (by decide) ?_
  refine x_putf (pc := 7) (e' := moC nw rd sd pa xt (upd m 1 (0 : Int32))) dX5_wipe_7 xf_X5_54 hAt_same rfl rfl rfl rfl ?_
  refine Wp.eqh (h' := (hSet h o (moC nw rd sd pa xt (upd m 1 (0 : Int32))))) (hSet_set) ?_
  refine x_iload_n (pc := 10) dX5_wipe_10 rfl ?_
  subst er
  exact x_iret (pc := 11) dX5_wipe_11 rfl rfl rfl rfl ⟨rfl, rfl⟩

def f_X5_fault (m tr tx : Nat → Int32) : Int32 × (Nat → Int32) × (Nat → Int32) := ((f_X5_reads m tr tx).1, (f_X5_reads m tr tx).2.1, (f_X5_reads m tr tx).2.2)
def p_X5_fault (m tr tx : Nat → Int32) : Prop := (p_X5_reads m tr tx ∧ True)
set_option maxRecDepth 100000 in
set_option maxHeartbeats 4000000 in
theorem C_X5_fault (G : xG) (h : xH) (o nw rd sd pa xt : Nat) (m tr tx : Nat → Int32) (k_o : hAt h o = some (moC nw rd sd pa xt m)) (k_rd : hAt h rd = some (arI 103 tr)) (k_xt : hAt h xt = some (arI 240 tx)) (n_rd_xt : rd ≠ xt) (hp : p_X5_fault m tr tx) : Cd G 8 yX5_fault cX5_fault 1 (some .int) [.ref o] h (some (.int (f_X5_fault m tr tx).1)) (hSet (hSet h o (moC nw rd sd pa xt (f_X5_fault m tr tx).2.1)) rd (arI 103 (f_X5_fault m tr tx).2.2)) := by
  have n_o_rd : o ≠ rd := hne_k k_o k_rd rfl
  have n_xt_o : xt ≠ o := hne_k k_xt k_o rfl
  have n_xt_rd : xt ≠ rd := Ne.symm n_rd_xt
  refine Ct.of (by decide) (by rfl) ?_
  refine Wp.eqs (L' := [(0, .ref o)]) (st' := []) rfl rfl ?_
  refine Wp.eqh (h' := (hSet (hSet h o (moC nw rd sd pa xt m)) rd (arI 103 tr))) (by rw [hSet_self k_o, hSet_self k_rd]) ?_
  obtain ⟨R, er⟩ : ∃ R, f_X5_fault m tr tx = R := ⟨_, rfl⟩
  rw [er]
  unfold f_X5_fault at er
  unfold p_X5_fault at hp
  refine x_aload_n (pc := 0) dX5_fault_0 rfl ?_
  obtain ⟨q1, hp⟩ := hp
  refine x_cV0i (pc := 1) dX5_fault_1 xl_X5_126 xv_X5_reads (hAt_n n_o_rd hAt_same) rfl (C_X5_reads G _ o nw rd sd pa xt m tr tx (hAt_n n_o_rd hAt_same) hAt_same (hAt_n n_xt_rd (hAt_n n_xt_o k_xt)) n_rd_xt q1) rfl rfl rfl ?_
  obtain ⟨F1, eF1⟩ : ∃ F, f_X5_reads m tr tx = F := ⟨_, rfl⟩
  rw [eF1]
  try rw [eF1] at er
  try rw [eF1] at hp
  refine Wp.eqh (h' := (hSet (hSet h o (moC nw rd sd pa xt F1.2.1)) rd (arI 103 F1.2.2))) ((congrArg (fun z => hSet z rd _) (hSet_sw1 n_o_rd)).trans (hSet_set)) ?_
  subst er
  exact x_iret (pc := 4) dX5_fault_4 rfl rfl rfl rfl ⟨rfl, rfl⟩

def f_X5_lay (m tn tr tx : Nat → Int32) : Int32 × (Nat → Int32) × (Nat → Int32) × (Nat → Int32) := (if (f_X5_reads m tr tx).1 = (-4 : Int32) then (if ((f_X5_reads m tr tx).2.2 0) = 0 then ((-2 : Int32), (f_X5_reads m tr tx).2.1, tn, (f_X5_reads m tr tx).2.2) else (((f_X5_takes (f_X5_reads m tr tx).2.1 tn (f_X5_reads m tr tx).2.2).2.1 0), (f_X5_takes (f_X5_reads m tr tx).2.1 tn (f_X5_reads m tr tx).2.2).1, (f_X5_takes (f_X5_reads m tr tx).2.1 tn (f_X5_reads m tr tx).2.2).2.1, (f_X5_takes (f_X5_reads m tr tx).2.1 tn (f_X5_reads m tr tx).2.2).2.2)) else ((-2 : Int32), (f_X5_reads m tr tx).2.1, tn, (f_X5_reads m tr tx).2.2))
def p_X5_lay (m tn tr tx : Nat → Int32) : Prop := (p_X5_reads m tr tx ∧ (((f_X5_reads m tr tx).1 = (-4 : Int32) → ((((f_X5_reads m tr tx).2.2 0) = 0 → True) ∧ (¬ (((f_X5_reads m tr tx).2.2 0) = 0) → (p_X5_takes (f_X5_reads m tr tx).2.1 tn (f_X5_reads m tr tx).2.2 ∧ True)))) ∧ (¬ ((f_X5_reads m tr tx).1 = (-4 : Int32)) → True)))
set_option maxRecDepth 100000 in
set_option maxHeartbeats 4000000 in
theorem C_X5_lay (G : xG) (h : xH) (o nw rd sd pa xt : Nat) (m tn tr tx : Nat → Int32) (k_o : hAt h o = some (moC nw rd sd pa xt m)) (k_nw : hAt h nw = some (arI 103 tn)) (k_rd : hAt h rd = some (arI 103 tr)) (k_xt : hAt h xt = some (arI 240 tx)) (n_nw_rd : nw ≠ rd) (n_nw_xt : nw ≠ xt) (n_rd_xt : rd ≠ xt) (hp : p_X5_lay m tn tr tx) : Cd G 8 yX5_lay cX5_lay 1 (some .int) [.ref o] h (some (.int (f_X5_lay m tn tr tx).1)) (hSet (hSet (hSet h o (moC nw rd sd pa xt (f_X5_lay m tn tr tx).2.1)) nw (arI 103 (f_X5_lay m tn tr tx).2.2.1)) rd (arI 103 (f_X5_lay m tn tr tx).2.2.2)) := by
  have n_o_nw : o ≠ nw := hne_k k_o k_nw rfl
  have n_o_rd : o ≠ rd := hne_k k_o k_rd rfl
  have n_xt_nw : xt ≠ nw := Ne.symm n_nw_xt
  have n_xt_o : xt ≠ o := hne_k k_xt k_o rfl
  have n_xt_rd : xt ≠ rd := Ne.symm n_rd_xt
  refine Ct.of (by decide) (by rfl) ?_
  refine Wp.eqs (L' := [(0, .ref o)]) (st' := []) rfl rfl ?_
  refine Wp.eqh (h' := (hSet (hSet (hSet h o (moC nw rd sd pa xt m)) nw (arI 103 tn)) rd (arI 103 tr))) (by rw [hSet_self k_o, hSet_self k_nw, hSet_self k_rd]) ?_
  obtain ⟨R, er⟩ : ∃ R, f_X5_lay m tn tr tx = R := ⟨_, rfl⟩
  rw [er]
  unfold f_X5_lay at er
  unfold p_X5_lay at hp
  refine x_aload_n (pc := 0) dX5_lay_0 rfl ?_
  obtain ⟨q1, hp⟩ := hp
  refine x_cV0i (pc := 1) dX5_lay_1 xl_X5_126 xv_X5_reads (hAt_n n_o_rd (hAt_n n_o_nw hAt_same)) rfl (C_X5_reads G _ o nw rd sd pa xt m tr tx (hAt_n n_o_rd (hAt_n n_o_nw hAt_same)) hAt_same (hAt_n n_xt_rd (hAt_n n_xt_nw (hAt_n n_xt_o k_xt))) n_rd_xt q1) rfl rfl rfl ?_
  obtain ⟨F1, eF1⟩ : ∃ F, f_X5_reads m tr tx = F := ⟨_, rfl⟩
  rw [eF1]
  try rw [eF1] at er
  try rw [eF1] at hp
  refine Wp.eqh (h' := (hSet (hSet (hSet h o (moC nw rd sd pa xt F1.2.1)) nw (arI 103 tn)) rd (arI 103 F1.2.2))) ((congrArg (fun z => hSet z rd _) (hSet_sw2 n_o_nw n_o_rd)).trans (hSet_set)) ?_
  refine x_bipush (pc := 4) (v := (-4 : Int32)) dX5_lay_4 (by decide) ?_
  refine x_icmp_ne (pc := 6) (tgt := 18) dX5_lay_6 (by decide) (fun (c1 : ¬ (F1.1 = (-4 : Int32))) => ?_) (fun (c1 : F1.1 = (-4 : Int32)) => ?_)
  · rw [if_neg c1] at er
    replace hp := hp.2 c1
    refine x_bipush (pc := 18) (v := (-2 : Int32)) dX5_lay_18 (by decide) ?_
    subst er
    exact x_iret (pc := 20) dX5_lay_20 rfl rfl rfl rfl ⟨rfl, rfl⟩
  · rw [if_pos c1] at er
    replace hp := hp.1 c1
    refine x_aload_n (pc := 9) dX5_lay_9 rfl ?_
    refine x_getf (pc := 10) (v := .ref rd) dX5_lay_10 xf_X5_13 (hAt_n n_o_rd (hAt_n n_o_nw hAt_same)) rfl ?_
    refine x_iconst (pc := 13) (v := (0 : Int32)) dX5_lay_13 (by decide) ?_
    refine x_iald (pc := 14) dX5_lay_14 hAt_same (vp_in_nI (n := 0) (by decide) (by decide)) (j := 0) (nI_clamp (n := 0) (by decide)) ?_
    refine x_if_ne (pc := 15) (tgt := 21) dX5_lay_15 (by decide) (fun (c2 : ¬ ((F1.2.2 0) = 0)) => ?_) (fun (c2 : (F1.2.2 0) = 0) => ?_)
    · rw [if_neg c2] at er
      replace hp := hp.2 c2
      refine x_aload_n (pc := 21) dX5_lay_21 rfl ?_
      obtain ⟨q22, hp⟩ := hp
      refine x_cV0v (pc := 22) dX5_lay_22 xl_X5_40 xv_X5_takes (hAt_n n_o_rd (hAt_n n_o_nw hAt_same)) rfl (C_X5_takes G _ o nw rd sd pa xt F1.2.1 tn F1.2.2 (hAt_n n_o_rd (hAt_n n_o_nw hAt_same)) (hAt_n n_nw_rd hAt_same) hAt_same n_nw_rd q22) rfl rfl rfl ?_
      obtain ⟨F2, eF2⟩ : ∃ F, f_X5_takes F1.2.1 tn F1.2.2 = F := ⟨_, rfl⟩
      rw [eF2]
      try rw [eF2] at er
      try rw [eF2] at hp
      refine Wp.eqh (h' := (hSet (hSet (hSet h o (moC nw rd sd pa xt F2.1)) nw (arI 103 F2.2.1)) rd (arI 103 F2.2.2))) ((congrArg (fun z => hSet z rd _) ((congrArg (fun z => hSet z nw _) (hSet_sw2 n_o_nw n_o_rd)).trans (hSet_sw1 n_nw_rd))).trans (hSet_set)) ?_
      refine x_aload_n (pc := 25) dX5_lay_25 rfl ?_
      refine x_getf (pc := 26) (v := .ref nw) dX5_lay_26 xf_X5_7 (hAt_n n_o_rd (hAt_n n_o_nw hAt_same)) rfl ?_
      refine x_iconst (pc := 29) (v := (0 : Int32)) dX5_lay_29 (by decide) ?_
      refine x_iald (pc := 30) dX5_lay_30 (hAt_n n_nw_rd hAt_same) (vp_in_nI (n := 0) (by decide) (by decide)) (j := 0) (nI_clamp (n := 0) (by decide)) ?_
      subst er
      exact x_iret (pc := 31) dX5_lay_31 rfl rfl rfl rfl ⟨rfl, rfl⟩
    · rw [if_pos c2] at er
      replace hp := hp.1 c2
      refine x_bipush (pc := 18) (v := (-2 : Int32)) dX5_lay_18 (by decide) ?_
      subst er
      exact x_iret (pc := 20) dX5_lay_20 rfl rfl rfl rfl ⟨rfl, rfl⟩

def f_X5_drawn (t : Nat → Int32) (i k : Int32) : Int32 := ((((((((7919 : Int64) * ((t 6)).toInt64) + ((6151 : Int64) * (i).toInt64)) + ((3571 : Int64) * (k).toInt64)) + (1 : Int64)) * (((((7919 : Int64) * ((t 6)).toInt64) + ((6151 : Int64) * (i).toInt64)) + ((3571 : Int64) * (k).toInt64)) + (1 : Int64))) - ((((((7919 : Int64) * ((t 6)).toInt64) + ((6151 : Int64) * (i).toInt64)) + ((3571 : Int64) * (k).toInt64)) + (1 : Int64)) * (((((7919 : Int64) * ((t 6)).toInt64) + ((6151 : Int64) * (i).toInt64)) + ((3571 : Int64) * (k).toInt64)) + (1 : Int64))) / (65521 : Int64) * (65521 : Int64))).toInt32
set_option maxRecDepth 100000 in
set_option maxHeartbeats 4000000 in
theorem C_X5_drawn (G : xG) (h : xH) (ta : Nat) (t : Nat → Int32) (i k : Int32) (k_ta : hAt h ta = some (arI 103 t)) : Cd G 0 yX5_drawn cX5_drawn 5 (some .int) [.ref ta, .int i, .int k] h (some (.int (f_X5_drawn t i k))) h := by
  refine Ct.of (by decide) (by rfl) ?_
  refine Wp.eqs (L' := [(0, .ref ta), (1, .int i), (2, .int k)]) (st' := []) rfl rfl ?_
  obtain ⟨R, er⟩ : ∃ R, f_X5_drawn t i k = R := ⟨_, rfl⟩
  rw [er]
  unfold f_X5_drawn at er
  refine x_ldc2 (pc := 0) (v := (7919 : Int64)) dX5_drawn_0 xk_X5_130 ?_
  refine x_aload_n (pc := 3) dX5_drawn_3 rfl ?_
  refine x_bipush (pc := 4) (v := (6 : Int32)) dX5_drawn_4 (by decide) ?_
  refine x_iald (pc := 6) dX5_drawn_6 k_ta (vp_in_nI (n := 6) (by decide) (by decide)) (j := 6) (nI_clamp (n := 6) (by decide)) ?_
  refine x_i2l (pc := 7) dX5_drawn_7 ?_
  refine x_lmul (pc := 8) dX5_drawn_8 ?_
  refine x_ldc2 (pc := 9) (v := (6151 : Int64)) dX5_drawn_9 xk_X5_132 ?_
  refine x_iload_n (pc := 12) dX5_drawn_12 rfl ?_
  refine x_i2l (pc := 13) dX5_drawn_13 ?_
  refine x_lmul (pc := 14) dX5_drawn_14 ?_
  refine x_ladd (pc := 15) dX5_drawn_15 ?_
  refine x_ldc2 (pc := 16) (v := (3571 : Int64)) dX5_drawn_16 xk_X5_134 ?_
  refine x_iload_n (pc := 19) dX5_drawn_19 rfl ?_
  refine x_i2l (pc := 20) dX5_drawn_20 ?_
  refine x_lmul (pc := 21) dX5_drawn_21 ?_
  refine x_ladd (pc := 22) dX5_drawn_22 ?_
  refine x_lconst (pc := 23) (v := (1 : Int64)) dX5_drawn_23 (by decide) ?_
  refine x_ladd (pc := 24) dX5_drawn_24 ?_
  refine x_lstore_n (pc := 25) (L' := [(3, .long (((((7919 : Int64) * ((t 6)).toInt64) + ((6151 : Int64) * (i).toInt64)) + ((3571 : Int64) * (k).toInt64)) + (1 : Int64))), (0, .ref ta), (1, .int i), (2, .int k)]) dX5_drawn_25 rfl rfl ?_
  refine x_lload_n (pc := 26) dX5_drawn_26 rfl ?_
  refine x_lload_n (pc := 27) dX5_drawn_27 rfl ?_
  refine x_lmul (pc := 28) dX5_drawn_28 ?_
  refine x_ldc2 (pc := 29) (v := (65521 : Int64)) dX5_drawn_29 xk_X5_136 ?_
  refine x_lrem (pc := 32) dX5_drawn_32 (by decide) ?_
  refine x_l2i (pc := 33) dX5_drawn_33 ?_
  subst er
  exact x_iret (pc := 34) dX5_drawn_34 rfl rfl rfl rfl ⟨rfl, rfl⟩

def l_X5_dropper_2 : Nat → (Nat → Int32) → Int32 → Int32 → Int32 → Int32
  | 0, _, _, _, _ => 0
  | n + 1, t, i, size, v3 => (if (t ((f_X5_at i (11 : Int32)).toNatClampNeg)) ≤ v3 then v3 else (if (t ((f_X5_at i ((12 : Int32) + v3)).toNatClampNeg)) < size then v3 else (l_X5_dropper_2 n t i size (v3 + (1 : Int32)))))
def q_X5_dropper_2 : Nat → (Nat → Int32) → Int32 → Int32 → Int32 → Prop
  | 0, _, _, _, _ => False
  | n + 1, t, i, size, v3 => (vp_in (f_X5_at i (11 : Int32)) 103 ∧ (((t ((f_X5_at i (11 : Int32)).toNatClampNeg)) ≤ v3 → True) ∧ (¬ ((t ((f_X5_at i (11 : Int32)).toNatClampNeg)) ≤ v3) → (vp_in (f_X5_at i ((12 : Int32) + v3)) 103 ∧ (((t ((f_X5_at i ((12 : Int32) + v3)).toNatClampNeg)) < size → True) ∧ (¬ ((t ((f_X5_at i ((12 : Int32) + v3)).toNatClampNeg)) < size) → (q_X5_dropper_2 n t i size (v3 + (1 : Int32)))))))))
set_option maxRecDepth 100000 in
set_option maxHeartbeats 4000000 in
theorem L_X5_dropper_2 (G : xG) (h : xH) (ta : Nat) (t : Nat → Int32) (i size : Int32) (k_ta : hAt h ta = some (arI 103 t)) {Z : xZ} : ∀ (n : Nat) (v3 : Int32), q_X5_dropper_2 n t i size v3 → Wp G yX5_dropper.cls cX5_dropper 4 yX5_dropper.name (some .int) (xR 1 0 0) Z 0 0 34 [(3, .int (l_X5_dropper_2 n t i size v3)), (0, .ref ta), (1, .int i), (2, .int size)] [] h → Wp G yX5_dropper.cls cX5_dropper 4 yX5_dropper.name (some .int) (xR 1 0 0) Z 0 0 2 [(3, .int v3), (0, .ref ta), (1, .int i), (2, .int size)] [] h := by
  intro n
  induction n with
  | zero => intro v3 hp; exact absurd hp id
  | succ n ih =>
    intro v3 hp kk
    obtain ⟨R, er⟩ : ∃ R, l_X5_dropper_2 (n + 1) t i size v3 = R := ⟨_, rfl⟩
    rw [er] at kk
    rw [l_X5_dropper_2] at er
    rw [q_X5_dropper_2] at hp
    refine x_iload_n (pc := 2) dX5_dropper_2 rfl ?_
    refine x_aload_n (pc := 3) dX5_dropper_3 rfl ?_
    refine x_iload_n (pc := 4) dX5_dropper_4 rfl ?_
    refine x_bipush (pc := 5) (v := (11 : Int32)) dX5_dropper_5 (by decide) ?_
    refine x_cS2i (pc := 7) dX5_dropper_7 xl_X5_36 xs_X5_at (C_X5_at G _ i (11 : Int32)) rfl rfl rfl ?_
    obtain ⟨F3, eF3⟩ : ∃ F, f_X5_at i (11 : Int32) = F := ⟨_, rfl⟩
    rw [eF3]
    try rw [eF3] at er
    try rw [eF3] at hp
    obtain ⟨q10, hp⟩ := hp
    refine x_iald (pc := 10) dX5_dropper_10 k_ta q10 (j := (F3.toNatClampNeg)) rfl ?_
    refine x_icmp_ge (pc := 11) (tgt := 34) dX5_dropper_11 (by decide) (fun (c1 : (t (F3.toNatClampNeg)) ≤ v3) => ?_) (fun (c1 : ¬ ((t (F3.toNatClampNeg)) ≤ v3)) => ?_)
    · rw [if_pos c1] at er
      replace hp := hp.1 c1
      subst er
      exact kk
    · rw [if_neg c1] at er
      replace hp := hp.2 c1
      refine x_aload_n (pc := 14) dX5_dropper_14 rfl ?_
      refine x_iload_n (pc := 15) dX5_dropper_15 rfl ?_
      refine x_bipush (pc := 16) (v := (12 : Int32)) dX5_dropper_16 (by decide) ?_
      refine x_iload_n (pc := 18) dX5_dropper_18 rfl ?_
      refine x_iadd (pc := 19) dX5_dropper_19 ?_
      refine x_cS2i (pc := 20) dX5_dropper_20 xl_X5_36 xs_X5_at (C_X5_at G _ i ((12 : Int32) + v3)) rfl rfl rfl ?_
      obtain ⟨F4, eF4⟩ : ∃ F, f_X5_at i ((12 : Int32) + v3) = F := ⟨_, rfl⟩
      rw [eF4]
      try rw [eF4] at er
      try rw [eF4] at hp
      obtain ⟨q23, hp⟩ := hp
      refine x_iald (pc := 23) dX5_dropper_23 k_ta q23 (j := (F4.toNatClampNeg)) rfl ?_
      refine x_iload_n (pc := 24) dX5_dropper_24 rfl ?_
      refine x_icmp_lt (pc := 25) (tgt := 34) dX5_dropper_25 (by decide) (fun (c2 : (t (F4.toNatClampNeg)) < size) => ?_) (fun (c2 : ¬ ((t (F4.toNatClampNeg)) < size)) => ?_)
      · rw [if_pos c2] at er
        replace hp := hp.1 c2
        subst er
        exact kk
      · rw [if_neg c2] at er
        replace hp := hp.2 c2
        refine x_iinc (pc := 28) (v := (v3 + (1 : Int32))) (L' := [(3, .int (v3 + (1 : Int32))), (0, .ref ta), (1, .int i), (2, .int size)]) dX5_dropper_28 rfl rfl rfl rfl ?_
        refine x_goto (pc := 31) (tgt := 2) dX5_dropper_31 (by decide) ?_
        subst er
        exact ih (v3 + (1 : Int32)) hp kk
def f_X5_dropper (t : Nat → Int32) (i size : Int32) : Int32 := ((if (t ((f_X5_at i (11 : Int32)).toNatClampNeg)) ≤ (l_X5_dropper_2 xK t i size (0 : Int32)) then (-4 : Int32) else (l_X5_dropper_2 xK t i size (0 : Int32))))
def p_X5_dropper (t : Nat → Int32) (i size : Int32) : Prop := ((q_X5_dropper_2 xK t i size (0 : Int32)) ∧ (vp_in (f_X5_at i (11 : Int32)) 103 ∧ True))
set_option maxRecDepth 100000 in
set_option maxHeartbeats 4000000 in
theorem C_X5_dropper (G : xG) (h : xH) (ta : Nat) (t : Nat → Int32) (i size : Int32) (k_ta : hAt h ta = some (arI 103 t)) (hp : p_X5_dropper t i size) : Cd G 1 yX5_dropper cX5_dropper 4 (some .int) [.ref ta, .int i, .int size] h (some (.int (f_X5_dropper t i size))) h := by
  refine Ct.of (by decide) (by rfl) ?_
  refine Wp.eqs (L' := [(0, .ref ta), (1, .int i), (2, .int size)]) (st' := []) rfl rfl ?_
  obtain ⟨R, er⟩ : ∃ R, f_X5_dropper t i size = R := ⟨_, rfl⟩
  rw [er]
  unfold f_X5_dropper at er
  unfold p_X5_dropper at hp
  refine x_iconst (pc := 0) (v := (0 : Int32)) dX5_dropper_0 (by decide) ?_
  refine x_istore_n (pc := 1) (L' := [(3, .int (0 : Int32)), (0, .ref ta), (1, .int i), (2, .int size)]) dX5_dropper_1 rfl rfl ?_
  obtain ⟨ql2, hp⟩ := hp
  refine L_X5_dropper_2 G h ta t i size k_ta  xK (0 : Int32) ql2 ?_
  obtain ⟨F5, eF5⟩ : ∃ F, l_X5_dropper_2 xK t i size (0 : Int32) = F := ⟨_, rfl⟩
  rw [eF5]
  try rw [eF5] at er
  try rw [eF5] at hp
  refine x_iload_n (pc := 34) dX5_dropper_34 rfl ?_
  refine x_aload_n (pc := 35) dX5_dropper_35 rfl ?_
  refine x_iload_n (pc := 36) dX5_dropper_36 rfl ?_
  refine x_bipush (pc := 37) (v := (11 : Int32)) dX5_dropper_37 (by decide) ?_
  refine x_cS2i (pc := 39) dX5_dropper_39 xl_X5_36 xs_X5_at (C_X5_at G _ i (11 : Int32)) rfl rfl rfl ?_
  obtain ⟨F6, eF6⟩ : ∃ F, f_X5_at i (11 : Int32) = F := ⟨_, rfl⟩
  rw [eF6]
  try rw [eF6] at er
  try rw [eF6] at hp
  obtain ⟨q42, hp⟩ := hp
  refine x_iald (pc := 42) dX5_dropper_42 k_ta q42 (j := (F6.toNatClampNeg)) rfl ?_
  obtain ⟨F7, eF7⟩ : ∃ F, (if (t (F6.toNatClampNeg)) ≤ F5 then (-4 : Int32) else F5) = F := ⟨_, rfl⟩
  try rw [eF7] at er
  try rw [eF7] at hp
  refine x_mrg (pc' := 52) (L' := [(3, .int F5), (0, .ref ta), (1, .int i), (2, .int size)]) (st' := [.int F7]) (h' := h) (fun J => ?_) ?_
  · refine x_icmp_ge (pc := 43) (tgt := 50) dX5_dropper_43 (by decide) (fun (c3 : (t (F6.toNatClampNeg)) ≤ F5) => ?_) (fun (c3 : ¬ ((t (F6.toNatClampNeg)) ≤ F5)) => ?_)
    · refine x_bipush (pc := 50) (v := (-4 : Int32)) dX5_dropper_50 (by decide) ?_
      rw [if_pos c3] at eF7
      subst eF7
      exact J
    · refine x_iload_n (pc := 46) dX5_dropper_46 rfl ?_
      refine x_goto (pc := 47) (tgt := 52) dX5_dropper_47 (by decide) ?_
      rw [if_neg c3] at eF7
      subst eF7
      exact J
  subst er
  exact x_iret (pc := 52) dX5_dropper_52 rfl rfl rfl rfl ⟨rfl, rfl⟩

def f_X5_met (t : Nat → Int32) (i size : Int32) : Int32 := (if (f_X5_dropper t i size) = (-4 : Int32) then (0 : Int32) else (if (t ((f_X5_at i ((18 : Int32) + (f_X5_dropper t i size))).toNatClampNeg)) = (0 : Int32) then ((2 : Int32) + (t ((f_X5_at i ((12 : Int32) + (f_X5_dropper t i size))).toNatClampNeg))) else (if (t ((f_X5_at i ((18 : Int32) + (f_X5_dropper t i size))).toNatClampNeg)) = (1 : Int32) then ((2 : Int32) + (f_X5_greater (0 : Int32) ((t ((f_X5_at i ((12 : Int32) + (f_X5_dropper t i size))).toNatClampNeg)) - (40 : Int32)))) else (if (t ((f_X5_at i ((18 : Int32) + (f_X5_dropper t i size))).toNatClampNeg)) = (2 : Int32) then ((2 : Int32) + (size / (2 : Int32))) else (1 : Int32)))))
def p_X5_met (t : Nat → Int32) (i size : Int32) : Prop := (p_X5_dropper t i size ∧ (((f_X5_dropper t i size) = (-4 : Int32) → True) ∧ (¬ ((f_X5_dropper t i size) = (-4 : Int32)) → (vp_in (f_X5_at i ((12 : Int32) + (f_X5_dropper t i size))) 103 ∧ (vp_in (f_X5_at i ((18 : Int32) + (f_X5_dropper t i size))) 103 ∧ (((t ((f_X5_at i ((18 : Int32) + (f_X5_dropper t i size))).toNatClampNeg)) = (0 : Int32) → True) ∧ (¬ ((t ((f_X5_at i ((18 : Int32) + (f_X5_dropper t i size))).toNatClampNeg)) = (0 : Int32)) → (((t ((f_X5_at i ((18 : Int32) + (f_X5_dropper t i size))).toNatClampNeg)) = (1 : Int32) → True) ∧ (¬ ((t ((f_X5_at i ((18 : Int32) + (f_X5_dropper t i size))).toNatClampNeg)) = (1 : Int32)) → (((t ((f_X5_at i ((18 : Int32) + (f_X5_dropper t i size))).toNatClampNeg)) = (2 : Int32) → True) ∧ (¬ ((t ((f_X5_at i ((18 : Int32) + (f_X5_dropper t i size))).toNatClampNeg)) = (2 : Int32)) → True)))))))))))
set_option maxRecDepth 100000 in
set_option maxHeartbeats 4000000 in
theorem C_X5_met (G : xG) (h : xH) (ta : Nat) (t : Nat → Int32) (i size : Int32) (k_ta : hAt h ta = some (arI 103 t)) (hp : p_X5_met t i size) : Cd G 2 yX5_met cX5_met 5 (some .int) [.ref ta, .int i, .int size] h (some (.int (f_X5_met t i size))) h := by
  refine Ct.of (by decide) (by rfl) ?_
  refine Wp.eqs (L' := [(0, .ref ta), (1, .int i), (2, .int size)]) (st' := []) rfl rfl ?_
  obtain ⟨R, er⟩ : ∃ R, f_X5_met t i size = R := ⟨_, rfl⟩
  rw [er]
  unfold f_X5_met at er
  unfold p_X5_met at hp
  refine x_aload_n (pc := 0) dX5_met_0 rfl ?_
  refine x_iload_n (pc := 1) dX5_met_1 rfl ?_
  refine x_iload_n (pc := 2) dX5_met_2 rfl ?_
  obtain ⟨q3, hp⟩ := hp
  refine x_cS3i (pc := 3) dX5_met_3 xl_X5_138 xs_X5_dropper (C_X5_dropper G _ ta t i size k_ta q3) rfl rfl rfl ?_
  obtain ⟨F1, eF1⟩ : ∃ F, f_X5_dropper t i size = F := ⟨_, rfl⟩
  rw [eF1]
  try rw [eF1] at er
  try rw [eF1] at hp
  refine x_istore_n (pc := 6) (L' := [(3, .int F1), (0, .ref ta), (1, .int i), (2, .int size)]) dX5_met_6 rfl rfl ?_
  refine x_iload_n (pc := 7) dX5_met_7 rfl ?_
  refine x_bipush (pc := 8) (v := (-4 : Int32)) dX5_met_8 (by decide) ?_
  refine x_icmp_ne (pc := 10) (tgt := 15) dX5_met_10 (by decide) (fun (c1 : ¬ (F1 = (-4 : Int32))) => ?_) (fun (c1 : F1 = (-4 : Int32)) => ?_)
  · rw [if_neg c1] at er
    replace hp := hp.2 c1
    refine x_aload_n (pc := 15) dX5_met_15 rfl ?_
    refine x_iload_n (pc := 16) dX5_met_16 rfl ?_
    refine x_bipush (pc := 17) (v := (12 : Int32)) dX5_met_17 (by decide) ?_
    refine x_iload_n (pc := 19) dX5_met_19 rfl ?_
    refine x_iadd (pc := 20) dX5_met_20 ?_
    refine x_cS2i (pc := 21) dX5_met_21 xl_X5_36 xs_X5_at (C_X5_at G _ i ((12 : Int32) + F1)) rfl rfl rfl ?_
    obtain ⟨F2, eF2⟩ : ∃ F, f_X5_at i ((12 : Int32) + F1) = F := ⟨_, rfl⟩
    rw [eF2]
    try rw [eF2] at er
    try rw [eF2] at hp
    obtain ⟨q24, hp⟩ := hp
    refine x_iald (pc := 24) dX5_met_24 k_ta q24 (j := (F2.toNatClampNeg)) rfl ?_
    refine x_istore (pc := 25) (L' := [(4, .int (t (F2.toNatClampNeg))), (3, .int F1), (0, .ref ta), (1, .int i), (2, .int size)]) dX5_met_25 rfl rfl ?_
    refine x_aload_n (pc := 27) dX5_met_27 rfl ?_
    refine x_iload_n (pc := 28) dX5_met_28 rfl ?_
    refine x_bipush (pc := 29) (v := (18 : Int32)) dX5_met_29 (by decide) ?_
    refine x_iload_n (pc := 31) dX5_met_31 rfl ?_
    refine x_iadd (pc := 32) dX5_met_32 ?_
    refine x_cS2i (pc := 33) dX5_met_33 xl_X5_36 xs_X5_at (C_X5_at G _ i ((18 : Int32) + F1)) rfl rfl rfl ?_
    obtain ⟨F3, eF3⟩ : ∃ F, f_X5_at i ((18 : Int32) + F1) = F := ⟨_, rfl⟩
    rw [eF3]
    try rw [eF3] at er
    try rw [eF3] at hp
    obtain ⟨q36, hp⟩ := hp
    refine x_iald (pc := 36) dX5_met_36 k_ta q36 (j := (F3.toNatClampNeg)) rfl ?_
    by_cases c2 : (t (F3.toNatClampNeg)) = (0 : Int32)
    · rw [if_pos c2] at er
      replace hp := hp.1 c2
      refine x_tabIn (pc := 37) (off := 27) (tgt := 64) dX5_met_37 (by rw [c2]; decide) (by rw [c2]; decide) (by rw [c2]; rfl) (by decide) ?_
      refine x_iconst (pc := 64) (v := (2 : Int32)) dX5_met_64 (by decide) ?_
      refine x_iload (pc := 65) dX5_met_65 rfl ?_
      refine x_iadd (pc := 67) dX5_met_67 ?_
      subst er
      exact x_iret (pc := 68) dX5_met_68 rfl rfl rfl rfl ⟨rfl, rfl⟩
    rw [if_neg c2] at er
    replace hp := hp.2 c2
    by_cases c3 : (t (F3.toNatClampNeg)) = (1 : Int32)
    · rw [if_pos c3] at er
      replace hp := hp.1 c3
      refine x_tabIn (pc := 37) (off := 32) (tgt := 69) dX5_met_37 (by rw [c3]; decide) (by rw [c3]; decide) (by rw [c3]; rfl) (by decide) ?_
      refine x_iconst (pc := 69) (v := (2 : Int32)) dX5_met_69 (by decide) ?_
      refine x_iconst (pc := 70) (v := (0 : Int32)) dX5_met_70 (by decide) ?_
      refine x_iload (pc := 71) dX5_met_71 rfl ?_
      refine x_bipush (pc := 73) (v := (40 : Int32)) dX5_met_73 (by decide) ?_
      refine x_isub (pc := 75) dX5_met_75 ?_
      refine x_cS2i (pc := 76) dX5_met_76 xl_X5_142 xs_X5_greater (C_X5_greater G _ (0 : Int32) ((t (F2.toNatClampNeg)) - (40 : Int32))) rfl rfl rfl ?_
      obtain ⟨F4, eF4⟩ : ∃ F, f_X5_greater (0 : Int32) ((t (F2.toNatClampNeg)) - (40 : Int32)) = F := ⟨_, rfl⟩
      rw [eF4]
      try rw [eF4] at er
      try rw [eF4] at hp
      refine x_iadd (pc := 79) dX5_met_79 ?_
      subst er
      exact x_iret (pc := 80) dX5_met_80 rfl rfl rfl rfl ⟨rfl, rfl⟩
    rw [if_neg c3] at er
    replace hp := hp.2 c3
    by_cases c4 : (t (F3.toNatClampNeg)) = (2 : Int32)
    · rw [if_pos c4] at er
      replace hp := hp.1 c4
      refine x_tabIn (pc := 37) (off := 44) (tgt := 81) dX5_met_37 (by rw [c4]; decide) (by rw [c4]; decide) (by rw [c4]; rfl) (by decide) ?_
      refine x_iconst (pc := 81) (v := (2 : Int32)) dX5_met_81 (by decide) ?_
      refine x_iload_n (pc := 82) dX5_met_82 rfl ?_
      refine x_iconst (pc := 83) (v := (2 : Int32)) dX5_met_83 (by decide) ?_
      refine x_idiv (pc := 84) dX5_met_84 (by decide) ?_
      refine x_iadd (pc := 85) dX5_met_85 ?_
      subst er
      exact x_iret (pc := 86) dX5_met_86 rfl rfl rfl rfl ⟨rfl, rfl⟩
    rw [if_neg c4] at er
    replace hp := hp.2 c4
    refine x_tabOut (pc := 37) (tgt := 87) dX5_met_37 (by have zc2 := xneL c2 (z := 0) rfl; have zc3 := xneL c3 (z := 1) rfl; have zc4 := xneL c4 (z := 2) rfl; omega) (by decide) ?_
    refine x_iconst (pc := 87) (v := (1 : Int32)) dX5_met_87 (by decide) ?_
    subst er
    exact x_iret (pc := 88) dX5_met_88 rfl rfl rfl rfl ⟨rfl, rfl⟩
  · rw [if_pos c1] at er
    replace hp := hp.1 c1
    refine x_iconst (pc := 13) (v := (0 : Int32)) dX5_met_13 (by decide) ?_
    subst er
    exact x_iret (pc := 14) dX5_met_14 rfl rfl rfl rfl ⟨rfl, rfl⟩
