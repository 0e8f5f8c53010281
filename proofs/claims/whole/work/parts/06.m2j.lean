def f_X5_undo (m tn tp : Nat → Int32) : Int32 × (Nat → Int32) × (Nat → Int32) := (if (m 0) = 0 then ((-2 : Int32), m, tn) else (((upd m 0 ((m 0) - (1 : Int32))) 0), (upd m 0 ((m 0) - (1 : Int32))), (f_X5_copiesC tp tn ((103 : Int32) * ((upd m 0 ((m 0) - (1 : Int32))) 0)) (0 : Int32))))
def p_X5_undo (m tn tp : Nat → Int32) : Prop := (((m 0) = 0 → True) ∧ (¬ ((m 0) = 0) → (p_X5_copiesC tp tn ((103 : Int32) * ((upd m 0 ((m 0) - (1 : Int32))) 0)) (0 : Int32) ∧ True)))
set_option maxRecDepth 100000 in
set_option maxHeartbeats 4000000 in
theorem C_X5_undo (G : xG) (h : xH) (o nw rd sd pa xt : Nat) (m tn tp : Nat → Int32) (k_o : hAt h o = some (moC nw rd sd pa xt m)) (k_nw : hAt h nw = some (arI 103 tn)) (k_pa : hAt h pa = some (arI 412 tp)) (n_nw_pa : nw ≠ pa) (hp : p_X5_undo m tn tp) : Cd G 1 yX5_undo cX5_undo 1 (some .int) [.ref o] h (some (.int (f_X5_undo m tn tp).1)) (hSet (hSet h o (moC nw rd sd pa xt (f_X5_undo m tn tp).2.1)) nw (arI 103 (f_X5_undo m tn tp).2.2)) := by
  have n_o_nw : o ≠ nw := hne_k k_o k_nw rfl
  have n_pa_nw : pa ≠ nw := Ne.symm n_nw_pa
  have n_pa_o : pa ≠ o := hne_k k_pa k_o rfl
  refine Ct.of (by decide) (by rfl) ?_
  refine Wp.eqs (L' := [(0, .ref o)]) (st' := []) rfl rfl ?_
  refine Wp.eqh (h' := (hSet (hSet h o (moC nw rd sd pa xt m)) nw (arI 103 tn))) (by rw [hSet_self k_o, hSet_self k_nw]) ?_
  obtain ⟨R, er⟩ : ∃ R, f_X5_undo m tn tp = R := ⟨_, rfl⟩
  rw [er]
  unfold f_X5_undo at er
  unfold p_X5_undo at hp
  refine x_aload_n (pc := 0) dX5_undo_0 rfl ?_
  refine x_getf (pc := 1) (v := .int (m 0)) dX5_undo_1 xf_X5_47 (hAt_n n_o_nw hAt_same) rfl ?_
  refine x_if_ne (pc := 4) (tgt := 10) dX5_undo_4 (by decide) (fun (c1 : ¬ ((m 0) = 0)) => ?_) (fun (c1 : (m 0) = 0) => ?_)
  · rw [if_neg c1] at er
    replace hp := hp.2 c1
    refine x_aload_n (pc := 10) dX5_undo_10 rfl ?_
    refine x_dup (pc := 11) dX5_undo_11 rfl ?_
    refine x_getf (pc := 12) (v := .int (m 0)) dX5_undo_12 xf_X5_47 (hAt_n n_o_nw hAt_same) rfl ?_
    refine x_iconst (pc := 15) (v := (1 : Int32)) dX5_undo_15 (by decide) ?_
    refine x_isub (pc := 16) dX5_undo_16 ?_
    refine x_putf (pc := 17) (e' := moC nw rd sd pa xt (upd m 0 ((m 0) - (1 : Int32)))) dX5_undo_17 xf_X5_47 (hAt_n n_o_nw hAt_same) rfl rfl rfl rfl ?_
    refine Wp.eqh (h' := (hSet (hSet h o (moC nw rd sd pa xt (upd m 0 ((m 0) - (1 : Int32))))) nw (arI 103 tn))) (hSet_sw1 n_o_nw) ?_
    refine x_aload_n (pc := 20) dX5_undo_20 rfl ?_
    refine x_getf (pc := 21) (v := .ref pa) dX5_undo_21 xf_X5_19 (hAt_n n_o_nw hAt_same) rfl ?_
    refine x_bipush (pc := 24) (v := (103 : Int32)) dX5_undo_24 (by decide) ?_
    refine x_aload_n (pc := 26) dX5_undo_26 rfl ?_
    refine x_getf (pc := 27) (v := .int ((upd m 0 ((m 0) - (1 : Int32))) 0)) dX5_undo_27 xf_X5_47 (hAt_n n_o_nw hAt_same) rfl ?_
    refine x_imul (pc := 30) dX5_undo_30 ?_
    refine x_aload_n (pc := 31) dX5_undo_31 rfl ?_
    refine x_getf (pc := 32) (v := .ref nw) dX5_undo_32 xf_X5_7 (hAt_n n_o_nw hAt_same) rfl ?_
    refine x_iconst (pc := 35) (v := (0 : Int32)) dX5_undo_35 (by decide) ?_
    obtain ⟨q36, hp⟩ := hp
    refine x_cS4v (pc := 36) dX5_undo_36 xl_X5_43 xs_X5_copies (C_X5_copiesC G _ pa nw tp tn ((103 : Int32) * ((upd m 0 ((m 0) - (1 : Int32))) 0)) (0 : Int32) (hAt_n n_pa_nw (hAt_n n_pa_o k_pa)) hAt_same n_pa_nw q36) rfl rfl rfl ?_
    obtain ⟨F1, eF1⟩ : ∃ F, f_X5_copiesC tp tn ((103 : Int32) * ((upd m 0 ((m 0) - (1 : Int32))) 0)) (0 : Int32) = F := ⟨_, rfl⟩
    rw [eF1]
    try rw [eF1] at er
    try rw [eF1] at hp
    refine Wp.eqh (h' := (hSet (hSet h o (moC nw rd sd pa xt (upd m 0 ((m 0) - (1 : Int32))))) nw (arI 103 F1))) (hSet_set) ?_
    refine x_aload_n (pc := 39) dX5_undo_39 rfl ?_
    refine x_getf (pc := 40) (v := .int ((upd m 0 ((m 0) - (1 : Int32))) 0)) dX5_undo_40 xf_X5_47 (hAt_n n_o_nw hAt_same) rfl ?_
    subst er
    exact x_iret (pc := 43) dX5_undo_43 rfl rfl rfl rfl ⟨rfl, rfl⟩
  · rw [if_pos c1] at er
    replace hp := hp.1 c1
    refine x_bipush (pc := 7) (v := (-2 : Int32)) dX5_undo_7 (by decide) ?_
    subst er
    exact x_iret (pc := 9) dX5_undo_9 rfl rfl rfl rfl ⟨rfl, rfl⟩

def l_X5_sumOf_4 : Nat → (Nat → Int32) → (Nat → Int32) → Int32 → Int32 → Int32 → Int32 × Int32
  | 0, _, _, _, _, _ => (0, 0)
  | n + 1, m, tn, what, v3, v2 => (if (tn 0) ≤ v3 then (v3, v2) else (l_X5_sumOf_4 n m tn what (v3 + (1 : Int32)) (v2 + (tn ((f_X5_at v3 what).toNatClampNeg)))))
def q_X5_sumOf_4 : Nat → (Nat → Int32) → (Nat → Int32) → Int32 → Int32 → Int32 → Prop
  | 0, _, _, _, _, _ => False
  | n + 1, m, tn, what, v3, v2 => (((tn 0) ≤ v3 → True) ∧ (¬ ((tn 0) ≤ v3) → (vp_in (f_X5_at v3 what) 103 ∧ (q_X5_sumOf_4 n m tn what (v3 + (1 : Int32)) (v2 + (tn ((f_X5_at v3 what).toNatClampNeg)))))))
set_option maxRecDepth 100000 in
set_option maxHeartbeats 4000000 in
theorem L_X5_sumOf_4 (G : xG) (h : xH) (o nw rd sd pa xt : Nat) (m tn : Nat → Int32) (what : Int32) (k_o : hAt h o = some (moC nw rd sd pa xt m)) (k_nw : hAt h nw = some (arI 103 tn)) {Z : xZ} : ∀ (n : Nat) (v3 : Int32) (v2 : Int32), q_X5_sumOf_4 n m tn what v3 v2 → Wp G yX5_sumOf.cls cX5_sumOf 4 yX5_sumOf.name (some .int) (xR 1 0 0) Z 0 0 33 [(3, .int (l_X5_sumOf_4 n m tn what v3 v2).1), (2, .int (l_X5_sumOf_4 n m tn what v3 v2).2), (0, .ref o), (1, .int what)] [] h → Wp G yX5_sumOf.cls cX5_sumOf 4 yX5_sumOf.name (some .int) (xR 1 0 0) Z 0 0 4 [(3, .int v3), (2, .int v2), (0, .ref o), (1, .int what)] [] h := by
  intro n
  induction n with
  | zero => intro v3 v2 hp; exact absurd hp id
  | succ n ih =>
    intro v3 v2 hp kk
    obtain ⟨R, er⟩ : ∃ R, l_X5_sumOf_4 (n + 1) m tn what v3 v2 = R := ⟨_, rfl⟩
    rw [er] at kk
    rw [l_X5_sumOf_4] at er
    rw [q_X5_sumOf_4] at hp
    refine x_iload_n (pc := 4) dX5_sumOf_4 rfl ?_
    refine x_aload_n (pc := 5) dX5_sumOf_5 rfl ?_
    refine x_getf (pc := 6) (v := .ref nw) dX5_sumOf_6 xf_X5_7 k_o rfl ?_
    refine x_iconst (pc := 9) (v := (0 : Int32)) dX5_sumOf_9 (by decide) ?_
    refine x_iald (pc := 10) dX5_sumOf_10 k_nw (vp_in_nI (n := 0) (by decide) (by decide)) (j := 0) (nI_clamp (n := 0) (by decide)) ?_
    refine x_icmp_ge (pc := 11) (tgt := 33) dX5_sumOf_11 (by decide) (fun (c1 : (tn 0) ≤ v3) => ?_) (fun (c1 : ¬ ((tn 0) ≤ v3)) => ?_)
    · rw [if_pos c1] at er
      replace hp := hp.1 c1
      subst er
      exact kk
    · rw [if_neg c1] at er
      replace hp := hp.2 c1
      refine x_iload_n (pc := 14) dX5_sumOf_14 rfl ?_
      refine x_aload_n (pc := 15) dX5_sumOf_15 rfl ?_
      refine x_getf (pc := 16) (v := .ref nw) dX5_sumOf_16 xf_X5_7 k_o rfl ?_
      refine x_iload_n (pc := 19) dX5_sumOf_19 rfl ?_
      refine x_iload_n (pc := 20) dX5_sumOf_20 rfl ?_
      refine x_cS2i (pc := 21) dX5_sumOf_21 xl_X5_36 xs_X5_at (C_X5_at G _ v3 what) rfl rfl rfl ?_
      obtain ⟨F2, eF2⟩ : ∃ F, f_X5_at v3 what = F := ⟨_, rfl⟩
      rw [eF2]
      try rw [eF2] at er
      try rw [eF2] at hp
      obtain ⟨q24, hp⟩ := hp
      refine x_iald (pc := 24) dX5_sumOf_24 k_nw q24 (j := (F2.toNatClampNeg)) rfl ?_
      refine x_iadd (pc := 25) dX5_sumOf_25 ?_
      refine x_istore_n (pc := 26) (L' := [(2, .int (v2 + (tn (F2.toNatClampNeg)))), (3, .int v3), (0, .ref o), (1, .int what)]) dX5_sumOf_26 rfl rfl ?_
      refine x_iinc (pc := 27) (v := (v3 + (1 : Int32))) (L' := [(3, .int (v3 + (1 : Int32))), (2, .int (v2 + (tn (F2.toNatClampNeg)))), (0, .ref o), (1, .int what)]) dX5_sumOf_27 rfl rfl rfl rfl ?_
      refine x_goto (pc := 30) (tgt := 4) dX5_sumOf_30 (by decide) ?_
      subst er
      exact ih (v3 + (1 : Int32)) (v2 + (tn (F2.toNatClampNeg))) hp kk
def f_X5_sumOf (m tn : Nat → Int32) (what : Int32) : Int32 := (l_X5_sumOf_4 xK m tn what (0 : Int32) (0 : Int32)).2
def p_X5_sumOf (m tn : Nat → Int32) (what : Int32) : Prop := ((q_X5_sumOf_4 xK m tn what (0 : Int32) (0 : Int32)) ∧ True)
set_option maxRecDepth 100000 in
set_option maxHeartbeats 4000000 in
theorem C_X5_sumOf (G : xG) (h : xH) (o nw rd sd pa xt : Nat) (m tn : Nat → Int32) (what : Int32) (k_o : hAt h o = some (moC nw rd sd pa xt m)) (k_nw : hAt h nw = some (arI 103 tn)) (hp : p_X5_sumOf m tn what) : Cd G 1 yX5_sumOf cX5_sumOf 4 (some .int) [.ref o, .int what] h (some (.int (f_X5_sumOf m tn what))) h := by
  refine Ct.of (by decide) (by rfl) ?_
  refine Wp.eqs (L' := [(0, .ref o), (1, .int what)]) (st' := []) rfl rfl ?_
  obtain ⟨R, er⟩ : ∃ R, f_X5_sumOf m tn what = R := ⟨_, rfl⟩
  rw [er]
  unfold f_X5_sumOf at er
  unfold p_X5_sumOf at hp
  refine x_iconst (pc := 0) (v := (0 : Int32)) dX5_sumOf_0 (by decide) ?_
  refine x_istore_n (pc := 1) (L' := [(2, .int (0 : Int32)), (0, .ref o), (1, .int what)]) dX5_sumOf_1 rfl rfl ?_
  refine x_iconst (pc := 2) (v := (0 : Int32)) dX5_sumOf_2 (by decide) ?_
  refine x_istore_n (pc := 3) (L' := [(3, .int (0 : Int32)), (2, .int (0 : Int32)), (0, .ref o), (1, .int what)]) dX5_sumOf_3 rfl rfl ?_
  obtain ⟨ql4, hp⟩ := hp
  refine L_X5_sumOf_4 G h o nw rd sd pa xt m tn what k_o k_nw  xK (0 : Int32) (0 : Int32) ql4 ?_
  obtain ⟨F3, eF3⟩ : ∃ F, l_X5_sumOf_4 xK m tn what (0 : Int32) (0 : Int32) = F := ⟨_, rfl⟩
  rw [eF3]
  try rw [eF3] at er
  try rw [eF3] at hp
  refine x_iload_n (pc := 33) dX5_sumOf_33 rfl ?_
  subst er
  exact x_iret (pc := 34) dX5_sumOf_34 rfl rfl rfl rfl ⟨rfl, rfl⟩

def l_X5_tick_50 : Nat → (Nat → Int32) → (Nat → Int32) → (Nat → Int32) → Int32 → Int32 → Int32 → (Nat → Int32) → (Nat → Int32) → (Nat → Int32) → Int32 → Int32 × Int32 × (Nat → Int32) × (Nat → Int32) × (Nat → Int32) × Int32
  | 0, _, _, _, _, _, _, _, _, _, _ => (0, 0, (fun _ => 0), (fun _ => 0), (fun _ => 0), 0)
  | n + 1, m, tn, tp, nn, v3, v2, x_o, x_nw, x_pa, v4 => (if (x_nw 0) ≤ v4 then (v3, v2, x_o, x_nw, x_pa, v4) else (l_X5_tick_50 n m tn tp nn v3 v2 (f_X5_ticks x_o x_nw v4).1 (f_X5_ticks x_o x_nw v4).2 x_pa (v4 + (1 : Int32))))
def q_X5_tick_50 : Nat → (Nat → Int32) → (Nat → Int32) → (Nat → Int32) → Int32 → Int32 → Int32 → (Nat → Int32) → (Nat → Int32) → (Nat → Int32) → Int32 → Prop
  | 0, _, _, _, _, _, _, _, _, _, _ => False
  | n + 1, m, tn, tp, nn, v3, v2, x_o, x_nw, x_pa, v4 => (((x_nw 0) ≤ v4 → True) ∧ (¬ ((x_nw 0) ≤ v4) → (p_X5_ticks x_o x_nw v4 ∧ (q_X5_tick_50 n m tn tp nn v3 v2 (f_X5_ticks x_o x_nw v4).1 (f_X5_ticks x_o x_nw v4).2 x_pa (v4 + (1 : Int32))))))
set_option maxRecDepth 100000 in
set_option maxHeartbeats 4000000 in
theorem L_X5_tick_50 (G : xG) (h : xH) (o nw rd sd pa xt : Nat) (m tn tp : Nat → Int32) (nn : Int32) (k_o : hAt h o = some (moC nw rd sd pa xt m)) (k_nw : hAt h nw = some (arI 103 tn)) (k_pa : hAt h pa = some (arI 412 tp)) (n_nw_pa : nw ≠ pa) {Z : xZ} : ∀ (n : Nat) (v3 : Int32) (v2 : Int32) (x_o : (Nat → Int32)) (x_nw : (Nat → Int32)) (x_pa : (Nat → Int32)) (v4 : Int32), q_X5_tick_50 n m tn tp nn v3 v2 x_o x_nw x_pa v4 → Wp G yX5_tick.cls cX5_tick 5 yX5_tick.name (some .int) (xR 6 0 0) Z 0 0 77 [(4, .int (l_X5_tick_50 n m tn tp nn v3 v2 x_o x_nw x_pa v4).2.2.2.2.2), (3, .int (l_X5_tick_50 n m tn tp nn v3 v2 x_o x_nw x_pa v4).1), (2, .int (l_X5_tick_50 n m tn tp nn v3 v2 x_o x_nw x_pa v4).2.1), (0, .ref o), (1, .int nn)] [] (hSet (hSet (hSet h o (moC nw rd sd pa xt (l_X5_tick_50 n m tn tp nn v3 v2 x_o x_nw x_pa v4).2.2.1)) nw (arI 103 (l_X5_tick_50 n m tn tp nn v3 v2 x_o x_nw x_pa v4).2.2.2.1)) pa (arI 412 (l_X5_tick_50 n m tn tp nn v3 v2 x_o x_nw x_pa v4).2.2.2.2.1)) → Wp G yX5_tick.cls cX5_tick 5 yX5_tick.name (some .int) (xR 6 0 0) Z 0 0 50 [(4, .int v4), (3, .int v3), (2, .int v2), (0, .ref o), (1, .int nn)] [] (hSet (hSet (hSet h o (moC nw rd sd pa xt x_o)) nw (arI 103 x_nw)) pa (arI 412 x_pa)) := by
  have n_o_nw : o ≠ nw := hne_k k_o k_nw rfl
  have n_o_pa : o ≠ pa := hne_k k_o k_pa rfl
  intro n
  induction n with
  | zero => intro v3 v2 x_o x_nw x_pa v4 hp; exact absurd hp id
  | succ n ih =>
    intro v3 v2 x_o x_nw x_pa v4 hp kk
    obtain ⟨R, er⟩ : ∃ R, l_X5_tick_50 (n + 1) m tn tp nn v3 v2 x_o x_nw x_pa v4 = R := ⟨_, rfl⟩
    rw [er] at kk
    rw [l_X5_tick_50] at er
    rw [q_X5_tick_50] at hp
    refine x_iload (pc := 50) dX5_tick_50 rfl ?_
    refine x_aload_n (pc := 52) dX5_tick_52 rfl ?_
    refine x_getf (pc := 53) (v := .ref nw) dX5_tick_53 xf_X5_7 (hAt_n n_o_pa (hAt_n n_o_nw hAt_same)) rfl ?_
    refine x_iconst (pc := 56) (v := (0 : Int32)) dX5_tick_56 (by decide) ?_
    refine x_iald (pc := 57) dX5_tick_57 (hAt_n n_nw_pa hAt_same) (vp_in_nI (n := 0) (by decide) (by decide)) (j := 0) (nI_clamp (n := 0) (by decide)) ?_
    refine x_icmp_ge (pc := 58) (tgt := 77) dX5_tick_58 (by decide) (fun (c4 : (x_nw 0) ≤ v4) => ?_) (fun (c4 : ¬ ((x_nw 0) ≤ v4)) => ?_)
    · rw [if_pos c4] at er
      replace hp := hp.1 c4
      subst er
      exact kk
    · rw [if_neg c4] at er
      replace hp := hp.2 c4
      refine x_aload_n (pc := 61) dX5_tick_61 rfl ?_
      refine x_aload_n (pc := 62) dX5_tick_62 rfl ?_
      refine x_getf (pc := 63) (v := .ref nw) dX5_tick_63 xf_X5_7 (hAt_n n_o_pa (hAt_n n_o_nw hAt_same)) rfl ?_
      refine x_iload (pc := 66) dX5_tick_66 rfl ?_
      obtain ⟨q68, hp⟩ := hp
      refine x_cV2v (pc := 68) dX5_tick_68 xl_X5_190 xv_X5_ticks (hAt_n n_o_pa (hAt_n n_o_nw hAt_same)) rfl (C_X5_ticks G _ o nw nw rd sd pa xt x_o x_nw v4 (hAt_n n_o_pa (hAt_n n_o_nw hAt_same)) (hAt_n n_nw_pa hAt_same) q68) rfl rfl rfl ?_
      obtain ⟨F8, eF8⟩ : ∃ F, f_X5_ticks x_o x_nw v4 = F := ⟨_, rfl⟩
      rw [eF8]
      try rw [eF8] at er
      try rw [eF8] at hp
      refine Wp.eqh (h' := (hSet (hSet (hSet h o (moC nw rd sd pa xt F8.1)) nw (arI 103 F8.2)) pa (arI 412 x_pa))) ((congrArg (fun z => hSet z nw _) (hSet_sw2 n_o_nw n_o_pa)).trans (hSet_sw1 n_nw_pa)) ?_
      refine x_iinc (pc := 71) (v := (v4 + (1 : Int32))) (L' := [(4, .int (v4 + (1 : Int32))), (3, .int v3), (2, .int v2), (0, .ref o), (1, .int nn)]) dX5_tick_71 rfl rfl rfl rfl ?_
      refine x_goto (pc := 74) (tgt := 50) dX5_tick_74 (by decide) ?_
      subst er
      exact ih v3 v2 F8.1 F8.2 x_pa (v4 + (1 : Int32)) hp kk
def l_X5_tick_42 : Nat → (Nat → Int32) → (Nat → Int32) → (Nat → Int32) → Int32 → Int32 → (Nat → Int32) → (Nat → Int32) → Int32 → (Nat → Int32) → Int32 × (Nat → Int32) × (Nat → Int32) × Int32 × (Nat → Int32)
  | 0, _, _, _, _, _, _, _, _, _ => (0, (fun _ => 0), (fun _ => 0), 0, (fun _ => 0))
  | n + 1, m, tn, tp, nn, v2, x_o, x_pa, v3, x_nw => (if nn ≤ v3 then (v2, x_o, x_pa, v3, x_nw) else (l_X5_tick_42 n m tn tp nn (l_X5_tick_50 xK m tn tp nn v3 v2 x_o x_nw x_pa (0 : Int32)).2.1 (l_X5_tick_50 xK m tn tp nn v3 v2 x_o x_nw x_pa (0 : Int32)).2.2.1 (l_X5_tick_50 xK m tn tp nn v3 v2 x_o x_nw x_pa (0 : Int32)).2.2.2.2.1 ((l_X5_tick_50 xK m tn tp nn v3 v2 x_o x_nw x_pa (0 : Int32)).1 + (1 : Int32)) (l_X5_tick_50 xK m tn tp nn v3 v2 x_o x_nw x_pa (0 : Int32)).2.2.2.1))
def q_X5_tick_42 : Nat → (Nat → Int32) → (Nat → Int32) → (Nat → Int32) → Int32 → Int32 → (Nat → Int32) → (Nat → Int32) → Int32 → (Nat → Int32) → Prop
  | 0, _, _, _, _, _, _, _, _, _ => False
  | n + 1, m, tn, tp, nn, v2, x_o, x_pa, v3, x_nw => ((nn ≤ v3 → True) ∧ (¬ (nn ≤ v3) → ((q_X5_tick_50 xK m tn tp nn v3 v2 x_o x_nw x_pa (0 : Int32)) ∧ (q_X5_tick_42 n m tn tp nn (l_X5_tick_50 xK m tn tp nn v3 v2 x_o x_nw x_pa (0 : Int32)).2.1 (l_X5_tick_50 xK m tn tp nn v3 v2 x_o x_nw x_pa (0 : Int32)).2.2.1 (l_X5_tick_50 xK m tn tp nn v3 v2 x_o x_nw x_pa (0 : Int32)).2.2.2.2.1 ((l_X5_tick_50 xK m tn tp nn v3 v2 x_o x_nw x_pa (0 : Int32)).1 + (1 : Int32)) (l_X5_tick_50 xK m tn tp nn v3 v2 x_o x_nw x_pa (0 : Int32)).2.2.2.1))))
set_option maxRecDepth 100000 in
set_option maxHeartbeats 4000000 in
theorem L_X5_tick_42 (G : xG) (h : xH) (o nw rd sd pa xt : Nat) (m tn tp : Nat → Int32) (nn : Int32) (k_o : hAt h o = some (moC nw rd sd pa xt m)) (k_nw : hAt h nw = some (arI 103 tn)) (k_pa : hAt h pa = some (arI 412 tp)) (n_nw_pa : nw ≠ pa) {Z : xZ} : ∀ (n : Nat) (v2 : Int32) (x_o : (Nat → Int32)) (x_pa : (Nat → Int32)) (v3 : Int32) (x_nw : (Nat → Int32)), q_X5_tick_42 n m tn tp nn v2 x_o x_pa v3 x_nw → Wp G yX5_tick.cls cX5_tick 5 yX5_tick.name (some .int) (xR 6 0 0) Z 0 0 83 [(3, .int (l_X5_tick_42 n m tn tp nn v2 x_o x_pa v3 x_nw).2.2.2.1), (2, .int (l_X5_tick_42 n m tn tp nn v2 x_o x_pa v3 x_nw).1), (0, .ref o), (1, .int nn)] [] (hSet (hSet (hSet h o (moC nw rd sd pa xt (l_X5_tick_42 n m tn tp nn v2 x_o x_pa v3 x_nw).2.1)) nw (arI 103 (l_X5_tick_42 n m tn tp nn v2 x_o x_pa v3 x_nw).2.2.2.2)) pa (arI 412 (l_X5_tick_42 n m tn tp nn v2 x_o x_pa v3 x_nw).2.2.1)) → Wp G yX5_tick.cls cX5_tick 5 yX5_tick.name (some .int) (xR 6 0 0) Z 0 0 42 [(3, .int v3), (2, .int v2), (0, .ref o), (1, .int nn)] [] (hSet (hSet (hSet h o (moC nw rd sd pa xt x_o)) nw (arI 103 x_nw)) pa (arI 412 x_pa)) := by
  have n_o_nw : o ≠ nw := hne_k k_o k_nw rfl
  have n_o_pa : o ≠ pa := hne_k k_o k_pa rfl
  intro n
  induction n with
  | zero => intro v2 x_o x_pa v3 x_nw hp; exact absurd hp id
  | succ n ih =>
    intro v2 x_o x_pa v3 x_nw hp kk
    obtain ⟨R, er⟩ : ∃ R, l_X5_tick_42 (n + 1) m tn tp nn v2 x_o x_pa v3 x_nw = R := ⟨_, rfl⟩
    rw [er] at kk
    rw [l_X5_tick_42] at er
    rw [q_X5_tick_42] at hp
    refine x_iload_n (pc := 42) dX5_tick_42 rfl ?_
    refine x_iload_n (pc := 43) dX5_tick_43 rfl ?_
    refine x_icmp_ge (pc := 44) (tgt := 83) dX5_tick_44 (by decide) (fun (c3 : nn ≤ v3) => ?_) (fun (c3 : ¬ (nn ≤ v3)) => ?_)
    · rw [if_pos c3] at er
      replace hp := hp.1 c3
      subst er
      exact kk
    · rw [if_neg c3] at er
      replace hp := hp.2 c3
      refine x_iconst (pc := 47) (v := (0 : Int32)) dX5_tick_47 (by decide) ?_
      refine x_istore (pc := 48) (L' := [(4, .int (0 : Int32)), (3, .int v3), (2, .int v2), (0, .ref o), (1, .int nn)]) dX5_tick_48 rfl rfl ?_
      obtain ⟨ql50, hp⟩ := hp
      refine L_X5_tick_50 G h o nw rd sd pa xt m tn tp nn k_o k_nw k_pa n_nw_pa xK v3 v2 x_o x_nw x_pa (0 : Int32) ql50 ?_
      obtain ⟨F9, eF9⟩ : ∃ F, l_X5_tick_50 xK m tn tp nn v3 v2 x_o x_nw x_pa (0 : Int32) = F := ⟨_, rfl⟩
      rw [eF9]
      try rw [eF9] at er
      try rw [eF9] at hp
      refine x_iinc (pc := 77) (v := (F9.1 + (1 : Int32))) (L' := [(3, .int (F9.1 + (1 : Int32))), (4, .int F9.2.2.2.2.2), (2, .int F9.2.1), (0, .ref o), (1, .int nn)]) dX5_tick_77 rfl rfl rfl rfl ?_
      refine x_goto (pc := 80) (tgt := 42) dX5_tick_80 (by decide) ?_
      subst er
      refine Wp.sub [0, 2, 3, 4] (L' := [(3, .int (F9.1 + (1 : Int32))), (2, .int F9.2.1), (0, .ref o), (1, .int nn)]) rfl ?_
      exact ih F9.2.1 F9.2.2.1 F9.2.2.2.2.1 (F9.1 + (1 : Int32)) F9.2.2.2.1 hp kk
def f_X5_tick (m tn tp : Nat → Int32) (nn : Int32) : Int32 × (Nat → Int32) × (Nat → Int32) × (Nat → Int32) := (if (f_X5_in nn (1 : Int32) (99 : Int32)) = 0 then ((-1 : Int32), m, tn, tp) else (if ((tn 1) + nn) ≤ (9999 : Int32) then (((f_X5_sumOf (l_X5_tick_42 xK m tn tp nn (f_X5_sumOf (f_X5_keeps m tn tp).1 tn (8 : Int32)) (f_X5_keeps m tn tp).1 (f_X5_keeps m tn tp).2 (0 : Int32) tn).2.1 (upd (l_X5_tick_42 xK m tn tp nn (f_X5_sumOf (f_X5_keeps m tn tp).1 tn (8 : Int32)) (f_X5_keeps m tn tp).1 (f_X5_keeps m tn tp).2 (0 : Int32) tn).2.2.2.2 1 (((l_X5_tick_42 xK m tn tp nn (f_X5_sumOf (f_X5_keeps m tn tp).1 tn (8 : Int32)) (f_X5_keeps m tn tp).1 (f_X5_keeps m tn tp).2 (0 : Int32) tn).2.2.2.2 1) + nn)) (8 : Int32)) - (l_X5_tick_42 xK m tn tp nn (f_X5_sumOf (f_X5_keeps m tn tp).1 tn (8 : Int32)) (f_X5_keeps m tn tp).1 (f_X5_keeps m tn tp).2 (0 : Int32) tn).1), (l_X5_tick_42 xK m tn tp nn (f_X5_sumOf (f_X5_keeps m tn tp).1 tn (8 : Int32)) (f_X5_keeps m tn tp).1 (f_X5_keeps m tn tp).2 (0 : Int32) tn).2.1, (upd (l_X5_tick_42 xK m tn tp nn (f_X5_sumOf (f_X5_keeps m tn tp).1 tn (8 : Int32)) (f_X5_keeps m tn tp).1 (f_X5_keeps m tn tp).2 (0 : Int32) tn).2.2.2.2 1 (((l_X5_tick_42 xK m tn tp nn (f_X5_sumOf (f_X5_keeps m tn tp).1 tn (8 : Int32)) (f_X5_keeps m tn tp).1 (f_X5_keeps m tn tp).2 (0 : Int32) tn).2.2.2.2 1) + nn)), (l_X5_tick_42 xK m tn tp nn (f_X5_sumOf (f_X5_keeps m tn tp).1 tn (8 : Int32)) (f_X5_keeps m tn tp).1 (f_X5_keeps m tn tp).2 (0 : Int32) tn).2.2.1) else ((-2 : Int32), m, tn, tp)))
def p_X5_tick (m tn tp : Nat → Int32) (nn : Int32) : Prop := (((f_X5_in nn (1 : Int32) (99 : Int32)) = 0 → True) ∧ (¬ ((f_X5_in nn (1 : Int32) (99 : Int32)) = 0) → ((((tn 1) + nn) ≤ (9999 : Int32) → (p_X5_keeps m tn tp ∧ (p_X5_sumOf (f_X5_keeps m tn tp).1 tn (8 : Int32) ∧ ((q_X5_tick_42 xK m tn tp nn (f_X5_sumOf (f_X5_keeps m tn tp).1 tn (8 : Int32)) (f_X5_keeps m tn tp).1 (f_X5_keeps m tn tp).2 (0 : Int32) tn) ∧ (p_X5_sumOf (l_X5_tick_42 xK m tn tp nn (f_X5_sumOf (f_X5_keeps m tn tp).1 tn (8 : Int32)) (f_X5_keeps m tn tp).1 (f_X5_keeps m tn tp).2 (0 : Int32) tn).2.1 (upd (l_X5_tick_42 xK m tn tp nn (f_X5_sumOf (f_X5_keeps m tn tp).1 tn (8 : Int32)) (f_X5_keeps m tn tp).1 (f_X5_keeps m tn tp).2 (0 : Int32) tn).2.2.2.2 1 (((l_X5_tick_42 xK m tn tp nn (f_X5_sumOf (f_X5_keeps m tn tp).1 tn (8 : Int32)) (f_X5_keeps m tn tp).1 (f_X5_keeps m tn tp).2 (0 : Int32) tn).2.2.2.2 1) + nn)) (8 : Int32) ∧ True))))) ∧ (¬ (((tn 1) + nn) ≤ (9999 : Int32)) → True))))
set_option maxRecDepth 100000 in
set_option maxHeartbeats 4000000 in
theorem C_X5_tick (G : xG) (h : xH) (o nw rd sd pa xt : Nat) (m tn tp : Nat → Int32) (nn : Int32) (k_o : hAt h o = some (moC nw rd sd pa xt m)) (k_nw : hAt h nw = some (arI 103 tn)) (k_pa : hAt h pa = some (arI 412 tp)) (n_nw_pa : nw ≠ pa) (hp : p_X5_tick m tn tp nn) : Cd G 6 yX5_tick cX5_tick 5 (some .int) [.ref o, .int nn] h (some (.int (f_X5_tick m tn tp nn).1)) (hSet (hSet (hSet h o (moC nw rd sd pa xt (f_X5_tick m tn tp nn).2.1)) nw (arI 103 (f_X5_tick m tn tp nn).2.2.1)) pa (arI 412 (f_X5_tick m tn tp nn).2.2.2)) := by
  have n_o_nw : o ≠ nw := hne_k k_o k_nw rfl
  have n_o_pa : o ≠ pa := hne_k k_o k_pa rfl
  refine Ct.of (by decide) (by rfl) ?_
  refine Wp.eqs (L' := [(0, .ref o), (1, .int nn)]) (st' := []) rfl rfl ?_
  refine Wp.eqh (h' := (hSet (hSet (hSet h o (moC nw rd sd pa xt m)) nw (arI 103 tn)) pa (arI 412 tp))) (by rw [hSet_self k_o, hSet_self k_nw, hSet_self k_pa]) ?_
  obtain ⟨R, er⟩ : ∃ R, f_X5_tick m tn tp nn = R := ⟨_, rfl⟩
  rw [er]
  unfold f_X5_tick at er
  unfold p_X5_tick at hp
  refine x_iload_n (pc := 0) dX5_tick_0 rfl ?_
  refine x_iconst (pc := 1) (v := (1 : Int32)) dX5_tick_1 (by decide) ?_
  refine x_bipush (pc := 2) (v := (99 : Int32)) dX5_tick_2 (by decide) ?_
  refine x_cS3i (pc := 4) dX5_tick_4 xl_X5_57 xs_X5_in (C_X5_in G _ nn (1 : Int32) (99 : Int32)) rfl rfl rfl ?_
  obtain ⟨F1, eF1⟩ : ∃ F, f_X5_in nn (1 : Int32) (99 : Int32) = F := ⟨_, rfl⟩
  rw [eF1]
  try rw [eF1] at er
  try rw [eF1] at hp
  have bF1 : xB F1 := by rw [← eF1]; exact (B_X5_in _ _ _)
  refine x_if_ne (pc := 7) (tgt := 12) dX5_tick_7 (by decide) (fun (c1 : ¬ (F1 = 0)) => ?_) (fun (c1 : F1 = 0) => ?_)
  · rw [if_neg c1] at er
    replace hp := hp.2 c1
    refine x_aload_n (pc := 12) dX5_tick_12 rfl ?_
    refine x_getf (pc := 13) (v := .ref nw) dX5_tick_13 xf_X5_7 (hAt_n n_o_pa (hAt_n n_o_nw hAt_same)) rfl ?_
    refine x_iconst (pc := 16) (v := (1 : Int32)) dX5_tick_16 (by decide) ?_
    refine x_iald (pc := 17) dX5_tick_17 (hAt_n n_nw_pa hAt_same) (vp_in_nI (n := 1) (by decide) (by decide)) (j := 1) (nI_clamp (n := 1) (by decide)) ?_
    refine x_iload_n (pc := 18) dX5_tick_18 rfl ?_
    refine x_iadd (pc := 19) dX5_tick_19 ?_
    refine x_sipush (pc := 20) (v := (9999 : Int32)) dX5_tick_20 (by decide) ?_
    refine x_icmp_le (pc := 23) (tgt := 29) dX5_tick_23 (by decide) (fun (c2 : ((tn 1) + nn) ≤ (9999 : Int32)) => ?_) (fun (c2 : ¬ (((tn 1) + nn) ≤ (9999 : Int32))) => ?_)
    · rw [if_pos c2] at er
      replace hp := hp.1 c2
      refine x_aload_n (pc := 29) dX5_tick_29 rfl ?_
      obtain ⟨q30, hp⟩ := hp
      refine x_cV0v (pc := 30) dX5_tick_30 xl_X5_183 xv_X5_keeps (hAt_n n_o_pa (hAt_n n_o_nw hAt_same)) rfl (C_X5_keeps G _ o nw rd sd pa xt m tn tp (hAt_n n_o_pa (hAt_n n_o_nw hAt_same)) (hAt_n n_nw_pa hAt_same) hAt_same n_nw_pa q30) rfl rfl rfl ?_
      obtain ⟨F2, eF2⟩ : ∃ F, f_X5_keeps m tn tp = F := ⟨_, rfl⟩
      rw [eF2]
      try rw [eF2] at er
      try rw [eF2] at hp
      refine Wp.eqh (h' := (hSet (hSet (hSet h o (moC nw rd sd pa xt F2.1)) nw (arI 103 tn)) pa (arI 412 F2.2))) ((congrArg (fun z => hSet z pa _) (hSet_sw2 n_o_nw n_o_pa)).trans (hSet_set)) ?_
      refine x_aload_n (pc := 33) dX5_tick_33 rfl ?_
      refine x_bipush (pc := 34) (v := (8 : Int32)) dX5_tick_34 (by decide) ?_
      obtain ⟨q36, hp⟩ := hp
      refine x_cV1i (pc := 36) dX5_tick_36 xl_X5_186 xv_X5_sumOf (hAt_n n_o_pa (hAt_n n_o_nw hAt_same)) rfl (C_X5_sumOf G _ o nw rd sd pa xt F2.1 tn (8 : Int32) (hAt_n n_o_pa (hAt_n n_o_nw hAt_same)) (hAt_n n_nw_pa hAt_same) q36) rfl rfl rfl ?_
      obtain ⟨F3, eF3⟩ : ∃ F, f_X5_sumOf F2.1 tn (8 : Int32) = F := ⟨_, rfl⟩
      rw [eF3]
      try rw [eF3] at er
      try rw [eF3] at hp
      refine x_istore_n (pc := 39) (L' := [(2, .int F3), (0, .ref o), (1, .int nn)]) dX5_tick_39 rfl rfl ?_
      refine x_iconst (pc := 40) (v := (0 : Int32)) dX5_tick_40 (by decide) ?_
      refine x_istore_n (pc := 41) (L' := [(3, .int (0 : Int32)), (2, .int F3), (0, .ref o), (1, .int nn)]) dX5_tick_41 rfl rfl ?_
      obtain ⟨ql42, hp⟩ := hp
      refine L_X5_tick_42 G h o nw rd sd pa xt m tn tp nn k_o k_nw k_pa n_nw_pa xK F3 F2.1 F2.2 (0 : Int32) tn ql42 ?_
      obtain ⟨F10, eF10⟩ : ∃ F, l_X5_tick_42 xK m tn tp nn F3 F2.1 F2.2 (0 : Int32) tn = F := ⟨_, rfl⟩
      rw [eF10]
      try rw [eF10] at er
      try rw [eF10] at hp
      refine x_aload_n (pc := 83) dX5_tick_83 rfl ?_
      refine x_getf (pc := 84) (v := .ref nw) dX5_tick_84 xf_X5_7 (hAt_n n_o_pa (hAt_n n_o_nw hAt_same)) rfl ?_
      refine x_iconst (pc := 87) (v := (1 : Int32)) dX5_tick_87 (by decide) ?_
      refine x_dup2 (pc := 88) dX5_tick_88 rfl rfl ?_
      refine x_iald (pc := 89) dX5_tick_89 (hAt_n n_nw_pa hAt_same) (vp_in_nI (n := 1) (by decide) (by decide)) (j := 1) (nI_clamp (n := 1) (by decide)) ?_
      refine x_iload_n (pc := 90) dX5_tick_90 rfl ?_
      refine x_iadd (pc := 91) dX5_tick_91 ?_
      refine x_iast (pc := 92) (e' := arI 103 (upd F10.2.2.2.2 1 ((F10.2.2.2.2 1) + nn))) dX5_tick_92 (hAt_n n_nw_pa hAt_same) (vp_in_nI (n := 1) (by decide) (by decide)) (j := 1) (nI_clamp (n := 1) (by decide)) rfl ?_
      refine Wp.eqh (h' := (hSet (hSet (hSet h o (moC nw rd sd pa xt F10.2.1)) nw (arI 103 (upd F10.2.2.2.2 1 ((F10.2.2.2.2 1) + nn)))) pa (arI 412 F10.2.2.1))) (hSet_sw1 n_nw_pa) ?_
      refine x_aload_n (pc := 93) dX5_tick_93 rfl ?_
      refine x_bipush (pc := 94) (v := (8 : Int32)) dX5_tick_94 (by decide) ?_
      obtain ⟨q96, hp⟩ := hp
      refine x_cV1i (pc := 96) dX5_tick_96 xl_X5_186 xv_X5_sumOf (hAt_n n_o_pa (hAt_n n_o_nw hAt_same)) rfl (C_X5_sumOf G _ o nw rd sd pa xt F10.2.1 (upd F10.2.2.2.2 1 ((F10.2.2.2.2 1) + nn)) (8 : Int32) (hAt_n n_o_pa (hAt_n n_o_nw hAt_same)) (hAt_n n_nw_pa hAt_same) q96) rfl rfl rfl ?_
      obtain ⟨F11, eF11⟩ : ∃ F, f_X5_sumOf F10.2.1 (upd F10.2.2.2.2 1 ((F10.2.2.2.2 1) + nn)) (8 : Int32) = F := ⟨_, rfl⟩
      rw [eF11]
      try rw [eF11] at er
      try rw [eF11] at hp
      refine x_iload_n (pc := 99) dX5_tick_99 rfl ?_
      refine x_isub (pc := 100) dX5_tick_100 ?_
      subst er
      exact x_iret (pc := 101) dX5_tick_101 rfl rfl rfl rfl ⟨rfl, rfl⟩
    · rw [if_neg c2] at er
      replace hp := hp.2 c2
      refine x_bipush (pc := 26) (v := (-2 : Int32)) dX5_tick_26 (by decide) ?_
      subst er
      exact x_iret (pc := 28) dX5_tick_28 rfl rfl rfl rfl ⟨rfl, rfl⟩
  · rw [if_pos c1] at er
    replace hp := hp.1 c1
    refine x_iconst (pc := 10) (v := (-1 : Int32)) dX5_tick_10 (by decide) ?_
    subst er
    exact x_iret (pc := 11) dX5_tick_11 rfl rfl rfl rfl ⟨rfl, rfl⟩

def f_X5_isWay (m tn : Nat → Int32) (i : Int32) : Int32 := (f_X5_in i (0 : Int32) ((tn 0) - (1 : Int32)))
set_option maxRecDepth 100000 in
set_option maxHeartbeats 4000000 in
theorem C_X5_isWay (G : xG) (h : xH) (o nw rd sd pa xt : Nat) (m tn : Nat → Int32) (i : Int32) (k_o : hAt h o = some (moC nw rd sd pa xt m)) (k_nw : hAt h nw = some (arI 103 tn)) : Cd G 1 yX5_isWay cX5_isWay 2 (some .boolean) [.ref o, .int i] h (some (.int (f_X5_isWay m tn i))) h := by
  refine Ct.of (by decide) (by rfl) ?_
  refine Wp.eqs (L' := [(0, .ref o), (1, .int i)]) (st' := []) rfl rfl ?_
  obtain ⟨R, er⟩ : ∃ R, f_X5_isWay m tn i = R := ⟨_, rfl⟩
  rw [er]
  unfold f_X5_isWay at er
  refine x_iload_n (pc := 0) dX5_isWay_0 rfl ?_
  refine x_iconst (pc := 1) (v := (0 : Int32)) dX5_isWay_1 (by decide) ?_
  refine x_aload_n (pc := 2) dX5_isWay_2 rfl ?_
  refine x_getf (pc := 3) (v := .ref nw) dX5_isWay_3 xf_X5_7 k_o rfl ?_
  refine x_iconst (pc := 6) (v := (0 : Int32)) dX5_isWay_6 (by decide) ?_
  refine x_iald (pc := 7) dX5_isWay_7 k_nw (vp_in_nI (n := 0) (by decide) (by decide)) (j := 0) (nI_clamp (n := 0) (by decide)) ?_
  refine x_iconst (pc := 8) (v := (1 : Int32)) dX5_isWay_8 (by decide) ?_
  refine x_isub (pc := 9) dX5_isWay_9 ?_
  refine x_cS3i (pc := 10) dX5_isWay_10 xl_X5_57 xs_X5_in (C_X5_in G _ i (0 : Int32) ((tn 0) - (1 : Int32))) rfl rfl rfl ?_
  obtain ⟨F1, eF1⟩ : ∃ F, f_X5_in i (0 : Int32) ((tn 0) - (1 : Int32)) = F := ⟨_, rfl⟩
  rw [eF1]
  try rw [eF1] at er
  have bF1 : xB F1 := by rw [← eF1]; exact (B_X5_in _ _ _)
  subst er
  exact x_iret (pc := 13) dX5_isWay_13 rfl (xb_nar bF1) rfl rfl ⟨rfl, rfl⟩
theorem B_X5_isWay (m tn : Nat → Int32) (i : Int32) : xB (f_X5_isWay m tn i) := by
  unfold f_X5_isWay
  exact (B_X5_in _ _ _)
