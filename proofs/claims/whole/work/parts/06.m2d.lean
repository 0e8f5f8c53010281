def g_X5_isAt_8 (m : (Nat → Int32)) (tx : (Nat → Int32)) (lo : Int32) (hi : Int32) (y0 : Int32) (y1 : Int32) : Int32 := (if y0 ≤ y1 then (0 : Int32) else (if (f_X5_in (tx ((m 2).toNatClampNeg)) lo hi) = 0 then (0 : Int32) else (1 : Int32)))
def h_X5_isAt_8 (m : (Nat → Int32)) (tx : (Nat → Int32)) (lo : Int32) (hi : Int32) (y0 : Int32) (y1 : Int32) : Prop := ((y0 ≤ y1 → True) ∧ (¬ (y0 ≤ y1) → (vp_in (m 2) 240 ∧ (((f_X5_in (tx ((m 2).toNatClampNeg)) lo hi) = 0 → True) ∧ (¬ ((f_X5_in (tx ((m 2).toNatClampNeg)) lo hi) = 0) → True)))))
theorem Bg_X5_isAt_8 (m : (Nat → Int32)) (tx : (Nat → Int32)) (lo : Int32) (hi : Int32) (y0 : Int32) (y1 : Int32) : xB (g_X5_isAt_8 m tx lo hi y0 y1) := by
  unfold g_X5_isAt_8
  exact (xB_ite xB0 (xB_ite xB0 xB1))
def f_X5_isAt (m tx : Nat → Int32) (lo hi : Int32) : Int32 := (g_X5_isAt_8 m tx lo hi (m 1) (m 2))
def p_X5_isAt (m tx : Nat → Int32) (lo hi : Int32) : Prop := ((h_X5_isAt_8 m tx lo hi (m 1) (m 2)) ∧ True)
set_option maxRecDepth 100000 in
set_option maxHeartbeats 4000000 in
theorem C_X5_isAt (G : xG) (h : xH) (o nw rd sd pa xt : Nat) (m tx : Nat → Int32) (lo hi : Int32) (k_o : hAt h o = some (moC nw rd sd pa xt m)) (k_xt : hAt h xt = some (arI 240 tx)) (hp : p_X5_isAt m tx lo hi) : Cd G 1 yX5_isAt cX5_isAt 3 (some .boolean) [.ref o, .int lo, .int hi] h (some (.int (f_X5_isAt m tx lo hi))) h := by
  refine Ct.of (by decide) (by rfl) ?_
  refine Wp.eqs (L' := [(0, .ref o), (1, .int lo), (2, .int hi)]) (st' := []) rfl rfl ?_
  obtain ⟨R, er⟩ : ∃ R, f_X5_isAt m tx lo hi = R := ⟨_, rfl⟩
  rw [er]
  unfold f_X5_isAt at er
  unfold p_X5_isAt at hp
  refine x_aload_n (pc := 0) dX5_isAt_0 rfl ?_
  refine x_getf (pc := 1) (v := .int (m 2)) dX5_isAt_1 xf_X5_51 k_o rfl ?_
  refine x_aload_n (pc := 4) dX5_isAt_4 rfl ?_
  refine x_getf (pc := 5) (v := .int (m 1)) dX5_isAt_5 xf_X5_54 k_o rfl ?_
  obtain ⟨qr8, hp⟩ := hp
  obtain ⟨F3, eF3⟩ : ∃ F, g_X5_isAt_8 m tx lo hi (m 1) (m 2) = F := ⟨_, rfl⟩
  try rw [eF3] at er
  try rw [eF3] at hp
  have bF3 : xB F3 := by rw [← eF3]; exact (Bg_X5_isAt_8 _ _ _ _ _ _)
  refine x_mrg (pc' := 33) (L' := [(0, .ref o), (1, .int lo), (2, .int hi)]) (st' := [.int F3]) (h' := h) (fun J => ?_) ?_
  · unfold g_X5_isAt_8 at eF3
    unfold h_X5_isAt_8 at qr8
    refine x_icmp_ge (pc := 8) (tgt := 32) dX5_isAt_8 (by decide) (fun (c3 : (m 1) ≤ (m 2)) => ?_) (fun (c3 : ¬ ((m 1) ≤ (m 2))) => ?_)
    · rw [if_pos c3] at eF3
      replace qr8 := qr8.1 c3
      refine x_iconst (pc := 32) (v := (0 : Int32)) dX5_isAt_32 (by decide) ?_
      subst eF3
      exact J
    · rw [if_neg c3] at eF3
      replace qr8 := qr8.2 c3
      refine x_aload_n (pc := 11) dX5_isAt_11 rfl ?_
      refine x_getf (pc := 12) (v := .ref xt) dX5_isAt_12 xf_X5_22 k_o rfl ?_
      refine x_aload_n (pc := 15) dX5_isAt_15 rfl ?_
      refine x_getf (pc := 16) (v := .int (m 2)) dX5_isAt_16 xf_X5_51 k_o rfl ?_
      obtain ⟨q19, qr8⟩ := qr8
      refine x_iald (pc := 19) dX5_isAt_19 k_xt q19 (j := ((m 2).toNatClampNeg)) rfl ?_
      refine x_iload_n (pc := 20) dX5_isAt_20 rfl ?_
      refine x_iload_n (pc := 21) dX5_isAt_21 rfl ?_
      refine x_cS3i (pc := 22) dX5_isAt_22 xl_X5_57 xs_X5_in (C_X5_in G _ (tx ((m 2).toNatClampNeg)) lo hi) rfl rfl rfl ?_
      obtain ⟨F2, eF2⟩ : ∃ F, f_X5_in (tx ((m 2).toNatClampNeg)) lo hi = F := ⟨_, rfl⟩
      rw [eF2]
      try rw [eF2] at eF3
      try rw [eF2] at qr8
      have bF2 : xB F2 := by rw [← eF2]; exact (B_X5_in _ _ _)
      refine x_if_eq (pc := 25) (tgt := 32) dX5_isAt_25 (by decide) (fun (c4 : F2 = 0) => ?_) (fun (c4 : ¬ (F2 = 0)) => ?_)
      · rw [if_pos c4] at eF3
        replace qr8 := qr8.1 c4
        refine x_iconst (pc := 32) (v := (0 : Int32)) dX5_isAt_32 (by decide) ?_
        subst eF3
        exact J
      · rw [if_neg c4] at eF3
        replace qr8 := qr8.2 c4
        refine x_iconst (pc := 28) (v := (1 : Int32)) dX5_isAt_28 (by decide) ?_
        refine x_goto (pc := 29) (tgt := 33) dX5_isAt_29 (by decide) ?_
        subst eF3
        exact J
  subst er
  exact x_iret (pc := 33) dX5_isAt_33 rfl (xb_nar bF3) rfl rfl ⟨rfl, rfl⟩
theorem B_X5_isAt (m tx : Nat → Int32) (lo hi : Int32) : xB (f_X5_isAt m tx lo hi) := by
  unfold f_X5_isAt
  exact (Bg_X5_isAt_8 _ _ _ _ _ _)

def f_X5_takesSign (m tx : Nat → Int32) (sign : Int32) : Int32 × (Nat → Int32) := ((f_X5_isAt m tx sign sign), (upd m 2 ((m 2) + ((if (f_X5_isAt m tx sign sign) = 0 then (0 : Int32) else (1 : Int32))))))
def p_X5_takesSign (m tx : Nat → Int32) (sign : Int32) : Prop := (p_X5_isAt m tx sign sign ∧ True)
set_option maxRecDepth 100000 in
set_option maxHeartbeats 4000000 in
theorem C_X5_takesSign (G : xG) (h : xH) (o nw rd sd pa xt : Nat) (m tx : Nat → Int32) (sign : Int32) (k_o : hAt h o = some (moC nw rd sd pa xt m)) (k_xt : hAt h xt = some (arI 240 tx)) (hp : p_X5_takesSign m tx sign) : Cd G 2 yX5_takesSign cX5_takesSign 3 (some .boolean) [.ref o, .int sign] h (some (.int (f_X5_takesSign m tx sign).1)) (hSet h o (moC nw rd sd pa xt (f_X5_takesSign m tx sign).2)) := by
  have n_xt_o : xt ≠ o := hne_k k_xt k_o rfl
  refine Ct.of (by decide) (by rfl) ?_
  refine Wp.eqs (L' := [(0, .ref o), (1, .int sign)]) (st' := []) rfl rfl ?_
  refine Wp.eqh (h' := (hSet h o (moC nw rd sd pa xt m))) (by rw [hSet_self k_o]) ?_
  obtain ⟨R, er⟩ : ∃ R, f_X5_takesSign m tx sign = R := ⟨_, rfl⟩
  rw [er]
  unfold f_X5_takesSign at er
  unfold p_X5_takesSign at hp
  refine x_aload_n (pc := 0) dX5_takesSign_0 rfl ?_
  refine x_iload_n (pc := 1) dX5_takesSign_1 rfl ?_
  refine x_iload_n (pc := 2) dX5_takesSign_2 rfl ?_
  obtain ⟨q3, hp⟩ := hp
  refine x_cV2i (pc := 3) dX5_takesSign_3 xl_X5_61 xv_X5_isAt hAt_same rfl (C_X5_isAt G _ o nw rd sd pa xt m tx sign sign hAt_same (hAt_n n_xt_o k_xt) q3) rfl rfl rfl ?_
  obtain ⟨F1, eF1⟩ : ∃ F, f_X5_isAt m tx sign sign = F := ⟨_, rfl⟩
  rw [eF1]
  try rw [eF1] at er
  try rw [eF1] at hp
  have bF1 : xB F1 := by rw [← eF1]; exact (B_X5_isAt _ _ _ _)
  refine x_istore_n (pc := 6) (L' := [(2, .int F1), (0, .ref o), (1, .int sign)]) dX5_takesSign_6 rfl rfl ?_
  refine x_aload_n (pc := 7) dX5_takesSign_7 rfl ?_
  refine x_dup (pc := 8) dX5_takesSign_8 rfl ?_
  refine x_getf (pc := 9) (v := .int (m 2)) dX5_takesSign_9 xf_X5_51 hAt_same rfl ?_
  refine x_iload_n (pc := 12) dX5_takesSign_12 rfl ?_
  obtain ⟨F2, eF2⟩ : ∃ F, (if F1 = 0 then (0 : Int32) else (1 : Int32)) = F := ⟨_, rfl⟩
  try rw [eF2] at er
  try rw [eF2] at hp
  have bF2 : xB F2 := by rw [← eF2]; exact (xB_ite xB0 xB1)
  refine x_mrg (pc' := 21) (L' := [(2, .int F1), (0, .ref o), (1, .int sign)]) (st' := [.int F2, .int (m 2), .ref o]) (h' := (hSet h o (moC nw rd sd pa xt m))) (fun J => ?_) ?_
  · refine x_if_eq (pc := 13) (tgt := 20) dX5_takesSign_13 (by decide) (fun (c1 : F1 = 0) => ?_) (fun (c1 : ¬ (F1 = 0)) => ?_)
    · refine x_iconst (pc := 20) (v := (0 : Int32)) dX5_takesSign_20 (by decide) ?_
      rw [if_pos c1] at eF2
      subst eF2
      exact J
    · refine x_iconst (pc := 16) (v := (1 : Int32)) dX5_takesSign_16 (by decide) ?_
      refine x_goto (pc := 17) (tgt := 21) dX5_takesSign_17 (by decide) ?_
      rw [if_neg c1] at eF2
      subst eF2
      exact J
  refine x_iadd (pc := 21) dX5_takesSign_21 ?_
  refine x_putf (pc := 22) (e' := moC nw rd sd pa xt (upd m 2 ((m 2) + F2))) dX5_takesSign_22 xf_X5_51 hAt_same rfl rfl rfl rfl ?_
  refine Wp.eqh (h' := (hSet h o (moC nw rd sd pa xt (upd m 2 ((m 2) + F2))))) (hSet_set) ?_
  refine x_iload_n (pc := 25) dX5_takesSign_25 rfl ?_
  subst er
  exact x_iret (pc := 26) dX5_takesSign_26 rfl (xb_nar bF1) rfl rfl ⟨rfl, rfl⟩
theorem B_X5_takesSign (m tx : Nat → Int32) (sign : Int32) : xB (f_X5_takesSign m tx sign).1 := by
  unfold f_X5_takesSign
  exact (xB_fst (B_X5_isAt _ _ _ _))

def g_X5_takesWord_18 (tx : (Nat → Int32)) (v3 : Int32) (v1 : Int64) (x_o : (Nat → Int32)) : Int64 := (if (8 : Int32) ≤ v3 then (-4 : Int64) else ((((32 : Int64) * v1) + ((tx ((x_o 2).toNatClampNeg))).toInt64) - (96 : Int64)))
def h_X5_takesWord_18 (tx : (Nat → Int32)) (v3 : Int32) (v1 : Int64) (x_o : (Nat → Int32)) : Prop := (((8 : Int32) ≤ v3 → True) ∧ (¬ ((8 : Int32) ≤ v3) → (vp_in (x_o 2) 240 ∧ True)))
def l_X5_takesWord_4 : Nat → (Nat → Int32) → (Nat → Int32) → Int32 → Int64 → (Nat → Int32) → Int32 × Int64 × (Nat → Int32)
  | 0, _, _, _, _, _ => (0, 0, (fun _ => 0))
  | n + 1, m, tx, v3, v1, x_o => (if (f_X5_isAt x_o tx (97 : Int32) (122 : Int32)) = 0 then (v3, v1, x_o) else (l_X5_takesWord_4 n m tx ((if 0 ≤ (lg_cmp (g_X5_takesWord_18 tx v3 v1 x_o) (0 : Int64)) then (v3 + (1 : Int32)) else (9 : Int32))) (g_X5_takesWord_18 tx v3 v1 x_o) (upd x_o 2 ((x_o 2) + (1 : Int32)))))
def q_X5_takesWord_4 : Nat → (Nat → Int32) → (Nat → Int32) → Int32 → Int64 → (Nat → Int32) → Prop
  | 0, _, _, _, _, _ => False
  | n + 1, m, tx, v3, v1, x_o => (p_X5_isAt x_o tx (97 : Int32) (122 : Int32) ∧ (((f_X5_isAt x_o tx (97 : Int32) (122 : Int32)) = 0 → True) ∧ (¬ ((f_X5_isAt x_o tx (97 : Int32) (122 : Int32)) = 0) → ((h_X5_takesWord_18 tx v3 v1 x_o) ∧ (q_X5_takesWord_4 n m tx ((if 0 ≤ (lg_cmp (g_X5_takesWord_18 tx v3 v1 x_o) (0 : Int64)) then (v3 + (1 : Int32)) else (9 : Int32))) (g_X5_takesWord_18 tx v3 v1 x_o) (upd x_o 2 ((x_o 2) + (1 : Int32))))))))
set_option maxRecDepth 100000 in
set_option maxHeartbeats 4000000 in
theorem L_X5_takesWord_4 (G : xG) (h : xH) (o nw rd sd pa xt : Nat) (m tx : Nat → Int32) (k_o : hAt h o = some (moC nw rd sd pa xt m)) (k_xt : hAt h xt = some (arI 240 tx)) {Z : xZ} : ∀ (n : Nat) (v3 : Int32) (v1 : Int64) (x_o : (Nat → Int32)), q_X5_takesWord_4 n m tx v3 v1 x_o → Wp G yX5_takesWord.cls cX5_takesWord 4 yX5_takesWord.name (some .long) (xR 2 0 0) Z 0 0 76 [(3, .int (l_X5_takesWord_4 n m tx v3 v1 x_o).1), (1, .long (l_X5_takesWord_4 n m tx v3 v1 x_o).2.1), (0, .ref o)] [] (hSet h o (moC nw rd sd pa xt (l_X5_takesWord_4 n m tx v3 v1 x_o).2.2)) → Wp G yX5_takesWord.cls cX5_takesWord 4 yX5_takesWord.name (some .long) (xR 2 0 0) Z 0 0 4 [(3, .int v3), (1, .long v1), (0, .ref o)] [] (hSet h o (moC nw rd sd pa xt x_o)) := by
  have n_xt_o : xt ≠ o := hne_k k_xt k_o rfl
  intro n
  induction n with
  | zero => intro v3 v1 x_o hp; exact absurd hp id
  | succ n ih =>
    intro v3 v1 x_o hp kk
    obtain ⟨R, er⟩ : ∃ R, l_X5_takesWord_4 (n + 1) m tx v3 v1 x_o = R := ⟨_, rfl⟩
    rw [er] at kk
    rw [l_X5_takesWord_4] at er
    rw [q_X5_takesWord_4] at hp
    refine x_aload_n (pc := 4) dX5_takesWord_4 rfl ?_
    refine x_bipush (pc := 5) (v := (97 : Int32)) dX5_takesWord_5 (by decide) ?_
    refine x_bipush (pc := 7) (v := (122 : Int32)) dX5_takesWord_7 (by decide) ?_
    obtain ⟨q9, hp⟩ := hp
    refine x_cV2i (pc := 9) dX5_takesWord_9 xl_X5_61 xv_X5_isAt hAt_same rfl (C_X5_isAt G _ o nw rd sd pa xt x_o tx (97 : Int32) (122 : Int32) hAt_same (hAt_n n_xt_o k_xt) q9) rfl rfl rfl ?_
    obtain ⟨F3, eF3⟩ : ∃ F, f_X5_isAt x_o tx (97 : Int32) (122 : Int32) = F := ⟨_, rfl⟩
    rw [eF3]
    try rw [eF3] at er
    try rw [eF3] at hp
    have bF3 : xB F3 := by rw [← eF3]; exact (B_X5_isAt _ _ _ _)
    refine x_if_eq (pc := 12) (tgt := 76) dX5_takesWord_12 (by decide) (fun (c1 : F3 = 0) => ?_) (fun (c1 : ¬ (F3 = 0)) => ?_)
    · rw [if_pos c1] at er
      replace hp := hp.1 c1
      subst er
      exact kk
    · rw [if_neg c1] at er
      replace hp := hp.2 c1
      refine x_iload_n (pc := 15) dX5_takesWord_15 rfl ?_
      refine x_bipush (pc := 16) (v := (8 : Int32)) dX5_takesWord_16 (by decide) ?_
      obtain ⟨qr18, hp⟩ := hp
      obtain ⟨F4, eF4⟩ : ∃ F, g_X5_takesWord_18 tx v3 v1 x_o = F := ⟨_, rfl⟩
      try rw [eF4] at er
      try rw [eF4] at hp
      refine x_mrg (pc' := 47) (L' := [(3, .int v3), (1, .long v1), (0, .ref o)]) (st' := [.long F4]) (h' := (hSet h o (moC nw rd sd pa xt x_o))) (fun J => ?_) ?_
      · unfold g_X5_takesWord_18 at eF4
        unfold h_X5_takesWord_18 at qr18
        try rw [eF3] at eF4
        try rw [eF3] at qr18
        refine x_icmp_ge (pc := 18) (tgt := 44) dX5_takesWord_18 (by decide) (fun (c3 : (8 : Int32) ≤ v3) => ?_) (fun (c3 : ¬ ((8 : Int32) ≤ v3)) => ?_)
        · rw [if_pos c3] at eF4
          replace qr18 := qr18.1 c3
          refine x_ldc2 (pc := 44) (v := (-4 : Int64)) dX5_takesWord_44 xk_X5_68 ?_
          subst eF4
          exact J
        · rw [if_neg c3] at eF4
          replace qr18 := qr18.2 c3
          refine x_ldc2 (pc := 21) (v := (32 : Int64)) dX5_takesWord_21 xk_X5_64 ?_
          refine x_lload_n (pc := 24) dX5_takesWord_24 rfl ?_
          refine x_lmul (pc := 25) dX5_takesWord_25 ?_
          refine x_aload_n (pc := 26) dX5_takesWord_26 rfl ?_
          refine x_getf (pc := 27) (v := .ref xt) dX5_takesWord_27 xf_X5_22 hAt_same rfl ?_
          refine x_aload_n (pc := 30) dX5_takesWord_30 rfl ?_
          refine x_getf (pc := 31) (v := .int (x_o 2)) dX5_takesWord_31 xf_X5_51 hAt_same rfl ?_
          obtain ⟨q34, qr18⟩ := qr18
          refine x_iald (pc := 34) dX5_takesWord_34 (hAt_n n_xt_o k_xt) q34 (j := ((x_o 2).toNatClampNeg)) rfl ?_
          refine x_i2l (pc := 35) dX5_takesWord_35 ?_
          refine x_ladd (pc := 36) dX5_takesWord_36 ?_
          refine x_ldc2 (pc := 37) (v := (96 : Int64)) dX5_takesWord_37 xk_X5_66 ?_
          refine x_lsub (pc := 40) dX5_takesWord_40 ?_
          refine x_goto (pc := 41) (tgt := 47) dX5_takesWord_41 (by decide) ?_
          subst eF4
          exact J
      refine x_lstore_n (pc := 47) (L' := [(1, .long F4), (3, .int v3), (0, .ref o)]) dX5_takesWord_47 rfl rfl ?_
      refine x_lload_n (pc := 48) dX5_takesWord_48 rfl ?_
      refine x_lconst (pc := 49) (v := (0 : Int64)) dX5_takesWord_49 (by decide) ?_
      refine x_lcmp (pc := 50) dX5_takesWord_50 ?_
      obtain ⟨F5, eF5⟩ : ∃ F, (if 0 ≤ (lg_cmp F4 (0 : Int64)) then (v3 + (1 : Int32)) else (9 : Int32)) = F := ⟨_, rfl⟩
      try rw [eF5] at er
      try rw [eF5] at hp
      refine x_mrg (pc' := 62) (L' := [(1, .long F4), (3, .int v3), (0, .ref o)]) (st' := [.int F5]) (h' := (hSet h o (moC nw rd sd pa xt x_o))) (fun J => ?_) ?_
      · refine x_if_ge (pc := 51) (tgt := 59) dX5_takesWord_51 (by decide) (fun (c4 : 0 ≤ (lg_cmp F4 (0 : Int64))) => ?_) (fun (c4 : ¬ (0 ≤ (lg_cmp F4 (0 : Int64)))) => ?_)
        · refine x_iload_n (pc := 59) dX5_takesWord_59 rfl ?_
          refine x_iconst (pc := 60) (v := (1 : Int32)) dX5_takesWord_60 (by decide) ?_
          refine x_iadd (pc := 61) dX5_takesWord_61 ?_
          rw [if_pos c4] at eF5
          subst eF5
          exact J
        · refine x_bipush (pc := 54) (v := (9 : Int32)) dX5_takesWord_54 (by decide) ?_
          refine x_goto (pc := 56) (tgt := 62) dX5_takesWord_56 (by decide) ?_
          rw [if_neg c4] at eF5
          subst eF5
          exact J
      refine x_istore_n (pc := 62) (L' := [(3, .int F5), (1, .long F4), (0, .ref o)]) dX5_takesWord_62 rfl rfl ?_
      refine x_aload_n (pc := 63) dX5_takesWord_63 rfl ?_
      refine x_dup (pc := 64) dX5_takesWord_64 rfl ?_
      refine x_getf (pc := 65) (v := .int (x_o 2)) dX5_takesWord_65 xf_X5_51 hAt_same rfl ?_
      refine x_iconst (pc := 68) (v := (1 : Int32)) dX5_takesWord_68 (by decide) ?_
      refine x_iadd (pc := 69) dX5_takesWord_69 ?_
      refine x_putf (pc := 70) (e' := moC nw rd sd pa xt (upd x_o 2 ((x_o 2) + (1 : Int32)))) dX5_takesWord_70 xf_X5_51 hAt_same rfl rfl rfl rfl ?_
      refine Wp.eqh (h' := (hSet h o (moC nw rd sd pa xt (upd x_o 2 ((x_o 2) + (1 : Int32)))))) (hSet_set) ?_
      refine x_goto (pc := 73) (tgt := 4) dX5_takesWord_73 (by decide) ?_
      subst er
      exact ih F5 F4 (upd x_o 2 ((x_o 2) + (1 : Int32))) hp kk
def f_X5_takesWord (m tx : Nat → Int32) : Int64 × (Nat → Int32) := ((l_X5_takesWord_4 xK m tx (0 : Int32) (0 : Int64) m).2.1, (l_X5_takesWord_4 xK m tx (0 : Int32) (0 : Int64) m).2.2)
def p_X5_takesWord (m tx : Nat → Int32) : Prop := ((q_X5_takesWord_4 xK m tx (0 : Int32) (0 : Int64) m) ∧ True)
set_option maxRecDepth 100000 in
set_option maxHeartbeats 4000000 in
theorem C_X5_takesWord (G : xG) (h : xH) (o nw rd sd pa xt : Nat) (m tx : Nat → Int32) (k_o : hAt h o = some (moC nw rd sd pa xt m)) (k_xt : hAt h xt = some (arI 240 tx)) (hp : p_X5_takesWord m tx) : Cd G 2 yX5_takesWord cX5_takesWord 4 (some .long) [.ref o] h (some (.long (f_X5_takesWord m tx).1)) (hSet h o (moC nw rd sd pa xt (f_X5_takesWord m tx).2)) := by
  have n_xt_o : xt ≠ o := hne_k k_xt k_o rfl
  refine Ct.of (by decide) (by rfl) ?_
  refine Wp.eqs (L' := [(0, .ref o)]) (st' := []) rfl rfl ?_
  refine Wp.eqh (h' := (hSet h o (moC nw rd sd pa xt m))) (by rw [hSet_self k_o]) ?_
  obtain ⟨R, er⟩ : ∃ R, f_X5_takesWord m tx = R := ⟨_, rfl⟩
  rw [er]
  unfold f_X5_takesWord at er
  unfold p_X5_takesWord at hp
  refine x_lconst (pc := 0) (v := (0 : Int64)) dX5_takesWord_0 (by decide) ?_
  refine x_lstore_n (pc := 1) (L' := [(1, .long (0 : Int64)), (0, .ref o)]) dX5_takesWord_1 rfl rfl ?_
  refine x_iconst (pc := 2) (v := (0 : Int32)) dX5_takesWord_2 (by decide) ?_
  refine x_istore_n (pc := 3) (L' := [(3, .int (0 : Int32)), (1, .long (0 : Int64)), (0, .ref o)]) dX5_takesWord_3 rfl rfl ?_
  obtain ⟨ql4, hp⟩ := hp
  refine L_X5_takesWord_4 G h o nw rd sd pa xt m tx k_o k_xt  xK (0 : Int32) (0 : Int64) m ql4 ?_
  obtain ⟨F6, eF6⟩ : ∃ F, l_X5_takesWord_4 xK m tx (0 : Int32) (0 : Int64) m = F := ⟨_, rfl⟩
  rw [eF6]
  try rw [eF6] at er
  try rw [eF6] at hp
  refine x_lload_n (pc := 76) dX5_takesWord_76 rfl ?_
  subst er
  exact x_lret (pc := 77) dX5_takesWord_77 rfl rfl rfl ⟨rfl, rfl⟩

def l_X5_takesNumber_20 : Nat → (Nat → Int32) → (Nat → Int32) → Int32 → Int32 → Int32 → (Nat → Int32) → Int32 → Int32 × (Nat → Int32) × Int32
  | 0, _, _, _, _, _, _, _ => (0, (fun _ => 0), 0)
  | n + 1, m, tx, lo, hi, v3, x_o, v4 => (if (v3 + (4 : Int32)) ≤ (x_o 2) then (v3, x_o, v4) else (if (f_X5_isAt x_o tx (48 : Int32) (57 : Int32)) = 0 then (v3, x_o, v4) else (l_X5_takesNumber_20 n m tx lo hi v3 (upd x_o 2 ((x_o 2) + (1 : Int32))) ((((10 : Int32) * v4) + (tx ((x_o 2).toNatClampNeg))) - (48 : Int32)))))
def q_X5_takesNumber_20 : Nat → (Nat → Int32) → (Nat → Int32) → Int32 → Int32 → Int32 → (Nat → Int32) → Int32 → Prop
  | 0, _, _, _, _, _, _, _ => False
  | n + 1, m, tx, lo, hi, v3, x_o, v4 => (((v3 + (4 : Int32)) ≤ (x_o 2) → True) ∧ (¬ ((v3 + (4 : Int32)) ≤ (x_o 2)) → (p_X5_isAt x_o tx (48 : Int32) (57 : Int32) ∧ (((f_X5_isAt x_o tx (48 : Int32) (57 : Int32)) = 0 → True) ∧ (¬ ((f_X5_isAt x_o tx (48 : Int32) (57 : Int32)) = 0) → (vp_in (x_o 2) 240 ∧ (q_X5_takesNumber_20 n m tx lo hi v3 (upd x_o 2 ((x_o 2) + (1 : Int32))) ((((10 : Int32) * v4) + (tx ((x_o 2).toNatClampNeg))) - (48 : Int32)))))))))
set_option maxRecDepth 100000 in
set_option maxHeartbeats 4000000 in
theorem L_X5_takesNumber_20 (G : xG) (h : xH) (o nw rd sd pa xt : Nat) (m tx : Nat → Int32) (lo hi : Int32) (k_o : hAt h o = some (moC nw rd sd pa xt m)) (k_xt : hAt h xt = some (arI 240 tx)) {Z : xZ} : ∀ (n : Nat) (v3 : Int32) (x_o : (Nat → Int32)) (v4 : Int32), q_X5_takesNumber_20 n m tx lo hi v3 x_o v4 → Wp G yX5_takesNumber.cls cX5_takesNumber 5 yX5_takesNumber.name (some .int) (xR 3 0 0) Z 0 0 74 [(4, .int (l_X5_takesNumber_20 n m tx lo hi v3 x_o v4).2.2), (3, .int (l_X5_takesNumber_20 n m tx lo hi v3 x_o v4).1), (0, .ref o), (1, .int lo), (2, .int hi)] [] (hSet h o (moC nw rd sd pa xt (l_X5_takesNumber_20 n m tx lo hi v3 x_o v4).2.1)) → Wp G yX5_takesNumber.cls cX5_takesNumber 5 yX5_takesNumber.name (some .int) (xR 3 0 0) Z 0 0 20 [(4, .int v4), (3, .int v3), (0, .ref o), (1, .int lo), (2, .int hi)] [] (hSet h o (moC nw rd sd pa xt x_o)) := by
  have n_xt_o : xt ≠ o := hne_k k_xt k_o rfl
  intro n
  induction n with
  | zero => intro v3 x_o v4 hp; exact absurd hp id
  | succ n ih =>
    intro v3 x_o v4 hp kk
    obtain ⟨R, er⟩ : ∃ R, l_X5_takesNumber_20 (n + 1) m tx lo hi v3 x_o v4 = R := ⟨_, rfl⟩
    rw [er] at kk
    rw [l_X5_takesNumber_20] at er
    rw [q_X5_takesNumber_20] at hp
    refine x_aload_n (pc := 20) dX5_takesNumber_20 rfl ?_
    refine x_getf (pc := 21) (v := .int (x_o 2)) dX5_takesNumber_21 xf_X5_51 hAt_same rfl ?_
    refine x_iload_n (pc := 24) dX5_takesNumber_24 rfl ?_
    refine x_iconst (pc := 25) (v := (4 : Int32)) dX5_takesNumber_25 (by decide) ?_
    refine x_iadd (pc := 26) dX5_takesNumber_26 ?_
    refine x_icmp_ge (pc := 27) (tgt := 74) dX5_takesNumber_27 (by decide) (fun (c2 : (v3 + (4 : Int32)) ≤ (x_o 2)) => ?_) (fun (c2 : ¬ ((v3 + (4 : Int32)) ≤ (x_o 2))) => ?_)
    · rw [if_pos c2] at er
      replace hp := hp.1 c2
      subst er
      exact kk
    · rw [if_neg c2] at er
      replace hp := hp.2 c2
      refine x_aload_n (pc := 30) dX5_takesNumber_30 rfl ?_
      refine x_bipush (pc := 31) (v := (48 : Int32)) dX5_takesNumber_31 (by decide) ?_
      refine x_bipush (pc := 33) (v := (57 : Int32)) dX5_takesNumber_33 (by decide) ?_
      obtain ⟨q35, hp⟩ := hp
      refine x_cV2i (pc := 35) dX5_takesNumber_35 xl_X5_61 xv_X5_isAt hAt_same rfl (C_X5_isAt G _ o nw rd sd pa xt x_o tx (48 : Int32) (57 : Int32) hAt_same (hAt_n n_xt_o k_xt) q35) rfl rfl rfl ?_
      obtain ⟨F3, eF3⟩ : ∃ F, f_X5_isAt x_o tx (48 : Int32) (57 : Int32) = F := ⟨_, rfl⟩
      rw [eF3]
      try rw [eF3] at er
      try rw [eF3] at hp
      have bF3 : xB F3 := by rw [← eF3]; exact (B_X5_isAt _ _ _ _)
      refine x_if_eq (pc := 38) (tgt := 74) dX5_takesNumber_38 (by decide) (fun (c3 : F3 = 0) => ?_) (fun (c3 : ¬ (F3 = 0)) => ?_)
      · rw [if_pos c3] at er
        replace hp := hp.1 c3
        subst er
        exact kk
      · rw [if_neg c3] at er
        replace hp := hp.2 c3
        refine x_bipush (pc := 41) (v := (10 : Int32)) dX5_takesNumber_41 (by decide) ?_
        refine x_iload (pc := 43) dX5_takesNumber_43 rfl ?_
        refine x_imul (pc := 45) dX5_takesNumber_45 ?_
        refine x_aload_n (pc := 46) dX5_takesNumber_46 rfl ?_
        refine x_getf (pc := 47) (v := .ref xt) dX5_takesNumber_47 xf_X5_22 hAt_same rfl ?_
        refine x_aload_n (pc := 50) dX5_takesNumber_50 rfl ?_
        refine x_getf (pc := 51) (v := .int (x_o 2)) dX5_takesNumber_51 xf_X5_51 hAt_same rfl ?_
        obtain ⟨q54, hp⟩ := hp
        refine x_iald (pc := 54) dX5_takesNumber_54 (hAt_n n_xt_o k_xt) q54 (j := ((x_o 2).toNatClampNeg)) rfl ?_
        refine x_iadd (pc := 55) dX5_takesNumber_55 ?_
        refine x_bipush (pc := 56) (v := (48 : Int32)) dX5_takesNumber_56 (by decide) ?_
        refine x_isub (pc := 58) dX5_takesNumber_58 ?_
        refine x_istore (pc := 59) (L' := [(4, .int ((((10 : Int32) * v4) + (tx ((x_o 2).toNatClampNeg))) - (48 : Int32))), (3, .int v3), (0, .ref o), (1, .int lo), (2, .int hi)]) dX5_takesNumber_59 rfl rfl ?_
        refine x_aload_n (pc := 61) dX5_takesNumber_61 rfl ?_
        refine x_dup (pc := 62) dX5_takesNumber_62 rfl ?_
        refine x_getf (pc := 63) (v := .int (x_o 2)) dX5_takesNumber_63 xf_X5_51 hAt_same rfl ?_
        refine x_iconst (pc := 66) (v := (1 : Int32)) dX5_takesNumber_66 (by decide) ?_
        refine x_iadd (pc := 67) dX5_takesNumber_67 ?_
        refine x_putf (pc := 68) (e' := moC nw rd sd pa xt (upd x_o 2 ((x_o 2) + (1 : Int32)))) dX5_takesNumber_68 xf_X5_51 hAt_same rfl rfl rfl rfl ?_
        refine Wp.eqh (h' := (hSet h o (moC nw rd sd pa xt (upd x_o 2 ((x_o 2) + (1 : Int32)))))) (hSet_set) ?_
        refine x_goto (pc := 71) (tgt := 20) dX5_takesNumber_71 (by decide) ?_
        subst er
        exact ih v3 (upd x_o 2 ((x_o 2) + (1 : Int32))) ((((10 : Int32) * v4) + (tx ((x_o 2).toNatClampNeg))) - (48 : Int32)) hp kk
def g_X5_takesNumber_79 (lo : Int32) (hi : Int32) (v4 : Int32) (v3 : Int32) (y0 : Int32) : Int32 := (if y0 ≤ v3 then (-4 : Int32) else (if (f_X5_in v4 lo hi) = 0 then (-4 : Int32) else v4))
def f_X5_takesNumber (m tx : Nat → Int32) (lo hi : Int32) : Int32 × (Nat → Int32) := (if (f_X5_takesSign m tx (32 : Int32)).1 = 0 then ((-4 : Int32), (f_X5_takesSign m tx (32 : Int32)).2) else ((g_X5_takesNumber_79 lo hi (l_X5_takesNumber_20 xK m tx lo hi ((f_X5_takesSign m tx (32 : Int32)).2 2) (f_X5_takesSign m tx (32 : Int32)).2 (0 : Int32)).2.2 (l_X5_takesNumber_20 xK m tx lo hi ((f_X5_takesSign m tx (32 : Int32)).2 2) (f_X5_takesSign m tx (32 : Int32)).2 (0 : Int32)).1 ((l_X5_takesNumber_20 xK m tx lo hi ((f_X5_takesSign m tx (32 : Int32)).2 2) (f_X5_takesSign m tx (32 : Int32)).2 (0 : Int32)).2.1 2)), (l_X5_takesNumber_20 xK m tx lo hi ((f_X5_takesSign m tx (32 : Int32)).2 2) (f_X5_takesSign m tx (32 : Int32)).2 (0 : Int32)).2.1))
def p_X5_takesNumber (m tx : Nat → Int32) (lo hi : Int32) : Prop := (p_X5_takesSign m tx (32 : Int32) ∧ (((f_X5_takesSign m tx (32 : Int32)).1 = 0 → True) ∧ (¬ ((f_X5_takesSign m tx (32 : Int32)).1 = 0) → ((q_X5_takesNumber_20 xK m tx lo hi ((f_X5_takesSign m tx (32 : Int32)).2 2) (f_X5_takesSign m tx (32 : Int32)).2 (0 : Int32)) ∧ True))))
set_option maxRecDepth 100000 in
set_option maxHeartbeats 4000000 in
theorem C_X5_takesNumber (G : xG) (h : xH) (o nw rd sd pa xt : Nat) (m tx : Nat → Int32) (lo hi : Int32) (k_o : hAt h o = some (moC nw rd sd pa xt m)) (k_xt : hAt h xt = some (arI 240 tx)) (hp : p_X5_takesNumber m tx lo hi) : Cd G 3 yX5_takesNumber cX5_takesNumber 5 (some .int) [.ref o, .int lo, .int hi] h (some (.int (f_X5_takesNumber m tx lo hi).1)) (hSet h o (moC nw rd sd pa xt (f_X5_takesNumber m tx lo hi).2)) := by
  have n_xt_o : xt ≠ o := hne_k k_xt k_o rfl
  refine Ct.of (by decide) (by rfl) ?_
  refine Wp.eqs (L' := [(0, .ref o), (1, .int lo), (2, .int hi)]) (st' := []) rfl rfl ?_
  refine Wp.eqh (h' := (hSet h o (moC nw rd sd pa xt m))) (by rw [hSet_self k_o]) ?_
  obtain ⟨R, er⟩ : ∃ R, f_X5_takesNumber m tx lo hi = R := ⟨_, rfl⟩
  rw [er]
  unfold f_X5_takesNumber at er
  unfold p_X5_takesNumber at hp
  refine x_aload_n (pc := 0) dX5_takesNumber_0 rfl ?_
  refine x_bipush (pc := 1) (v := (32 : Int32)) dX5_takesNumber_1 (by decide) ?_
  obtain ⟨q3, hp⟩ := hp
  refine x_cV1i (pc := 3) dX5_takesNumber_3 xl_X5_70 xv_X5_takesSign hAt_same rfl (C_X5_takesSign G _ o nw rd sd pa xt m tx (32 : Int32) hAt_same (hAt_n n_xt_o k_xt) q3) rfl rfl rfl ?_
  obtain ⟨F1, eF1⟩ : ∃ F, f_X5_takesSign m tx (32 : Int32) = F := ⟨_, rfl⟩
  rw [eF1]
  try rw [eF1] at er
  try rw [eF1] at hp
  have bF1_1 : xB F1.1 := by rw [← eF1]; exact (B_X5_takesSign _ _ _)
  refine Wp.eqh (h' := (hSet h o (moC nw rd sd pa xt F1.2))) (hSet_set) ?_
  refine x_if_ne (pc := 6) (tgt := 12) dX5_takesNumber_6 (by decide) (fun (c1 : ¬ (F1.1 = 0)) => ?_) (fun (c1 : F1.1 = 0) => ?_)
  · rw [if_neg c1] at er
    replace hp := hp.2 c1
    refine x_aload_n (pc := 12) dX5_takesNumber_12 rfl ?_
    refine x_getf (pc := 13) (v := .int (F1.2 2)) dX5_takesNumber_13 xf_X5_51 hAt_same rfl ?_
    refine x_istore_n (pc := 16) (L' := [(3, .int (F1.2 2)), (0, .ref o), (1, .int lo), (2, .int hi)]) dX5_takesNumber_16 rfl rfl ?_
    refine x_iconst (pc := 17) (v := (0 : Int32)) dX5_takesNumber_17 (by decide) ?_
    refine x_istore (pc := 18) (L' := [(4, .int (0 : Int32)), (3, .int (F1.2 2)), (0, .ref o), (1, .int lo), (2, .int hi)]) dX5_takesNumber_18 rfl rfl ?_
    obtain ⟨ql20, hp⟩ := hp
    refine L_X5_takesNumber_20 G h o nw rd sd pa xt m tx lo hi k_o k_xt  xK (F1.2 2) F1.2 (0 : Int32) ql20 ?_
    obtain ⟨F4, eF4⟩ : ∃ F, l_X5_takesNumber_20 xK m tx lo hi (F1.2 2) F1.2 (0 : Int32) = F := ⟨_, rfl⟩
    rw [eF4]
    try rw [eF4] at er
    try rw [eF4] at hp
    refine x_aload_n (pc := 74) dX5_takesNumber_74 rfl ?_
    refine x_getf (pc := 75) (v := .int (F4.2.1 2)) dX5_takesNumber_75 xf_X5_51 hAt_same rfl ?_
    refine x_iload_n (pc := 78) dX5_takesNumber_78 rfl ?_
    obtain ⟨F7, eF7⟩ : ∃ F, g_X5_takesNumber_79 lo hi F4.2.2 F4.1 (F4.2.1 2) = F := ⟨_, rfl⟩
    try rw [eF7] at er
    try rw [eF7] at hp
    refine x_mrg (pc' := 99) (L' := [(4, .int F4.2.2), (3, .int F4.1), (0, .ref o), (1, .int lo), (2, .int hi)]) (st' := [.int F7]) (h' := (hSet h o (moC nw rd sd pa xt F4.2.1))) (fun J => ?_) ?_
    · unfold g_X5_takesNumber_79 at eF7
      try rw [eF1] at eF7
      refine x_icmp_le (pc := 79) (tgt := 97) dX5_takesNumber_79 (by decide) (fun (c6 : (F4.2.1 2) ≤ F4.1) => ?_) (fun (c6 : ¬ ((F4.2.1 2) ≤ F4.1)) => ?_)
      · rw [if_pos c6] at eF7
        refine x_bipush (pc := 97) (v := (-4 : Int32)) dX5_takesNumber_97 (by decide) ?_
        subst eF7
        exact J
      · rw [if_neg c6] at eF7
        refine x_iload (pc := 82) dX5_takesNumber_82 rfl ?_
        refine x_iload_n (pc := 84) dX5_takesNumber_84 rfl ?_
        refine x_iload_n (pc := 85) dX5_takesNumber_85 rfl ?_
        refine x_cS3i (pc := 86) dX5_takesNumber_86 xl_X5_57 xs_X5_in (C_X5_in G _ F4.2.2 lo hi) rfl rfl rfl ?_
        obtain ⟨F6, eF6⟩ : ∃ F, f_X5_in F4.2.2 lo hi = F := ⟨_, rfl⟩
        rw [eF6]
        try rw [eF6] at eF7
        have bF6 : xB F6 := by rw [← eF6]; exact (B_X5_in _ _ _)
        refine x_if_eq (pc := 89) (tgt := 97) dX5_takesNumber_89 (by decide) (fun (c7 : F6 = 0) => ?_) (fun (c7 : ¬ (F6 = 0)) => ?_)
        · rw [if_pos c7] at eF7
          refine x_bipush (pc := 97) (v := (-4 : Int32)) dX5_takesNumber_97 (by decide) ?_
          subst eF7
          exact J
        · rw [if_neg c7] at eF7
          refine x_iload (pc := 92) dX5_takesNumber_92 rfl ?_
          refine x_goto (pc := 94) (tgt := 99) dX5_takesNumber_94 (by decide) ?_
          subst eF7
          exact J
    subst er
    exact x_iret (pc := 99) dX5_takesNumber_99 rfl rfl rfl rfl ⟨rfl, rfl⟩
  · rw [if_pos c1] at er
    replace hp := hp.1 c1
    refine x_bipush (pc := 9) (v := (-4 : Int32)) dX5_takesNumber_9 (by decide) ?_
    subst er
    exact x_iret (pc := 11) dX5_takesNumber_11 rfl rfl rfl rfl ⟨rfl, rfl⟩
