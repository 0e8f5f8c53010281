def l_X5_begins_2 : Nat → (Nat → Int32) → (Nat → Int32) → Int32 → (Nat → Int32) → Int32 × (Nat → Int32)
  | 0, _, _, _, _ => (0, (fun _ => 0))
  | n + 1, m, tr, v1, x_rd => (if (103 : Int32) ≤ v1 then (v1, x_rd) else (l_X5_begins_2 n m tr (v1 + (1 : Int32)) (upd x_rd (v1.toNatClampNeg) (0 : Int32))))
def q_X5_begins_2 : Nat → (Nat → Int32) → (Nat → Int32) → Int32 → (Nat → Int32) → Prop
  | 0, _, _, _, _ => False
  | n + 1, m, tr, v1, x_rd => (((103 : Int32) ≤ v1 → True) ∧ (¬ ((103 : Int32) ≤ v1) → (vp_in v1 103 ∧ (q_X5_begins_2 n m tr (v1 + (1 : Int32)) (upd x_rd (v1.toNatClampNeg) (0 : Int32))))))
set_option maxRecDepth 100000 in
set_option maxHeartbeats 4000000 in
theorem L_X5_begins_2 (G : xG) (h : xH) (o nw rd sd pa xt : Nat) (m tr : Nat → Int32) (k_o : hAt h o = some (moC nw rd sd pa xt m)) (k_rd : hAt h rd = some (arI 103 tr)) {Z : xZ} : ∀ (n : Nat) (v1 : Int32) (x_rd : (Nat → Int32)), q_X5_begins_2 n m tr v1 x_rd → Wp G yX5_begins.cls cX5_begins 2 yX5_begins.name none (xR 0 0 0) Z 0 0 21 [(1, .int (l_X5_begins_2 n m tr v1 x_rd).1), (0, .ref o)] [] (hSet h rd (arI 103 (l_X5_begins_2 n m tr v1 x_rd).2)) → Wp G yX5_begins.cls cX5_begins 2 yX5_begins.name none (xR 0 0 0) Z 0 0 2 [(1, .int v1), (0, .ref o)] [] (hSet h rd (arI 103 x_rd)) := by
  have n_o_rd : o ≠ rd := hne_k k_o k_rd rfl
  intro n
  induction n with
  | zero => intro v1 x_rd hp; exact absurd hp id
  | succ n ih =>
    intro v1 x_rd hp kk
    obtain ⟨R, er⟩ : ∃ R, l_X5_begins_2 (n + 1) m tr v1 x_rd = R := ⟨_, rfl⟩
    rw [er] at kk
    rw [l_X5_begins_2] at er
    rw [q_X5_begins_2] at hp
    refine x_iload_n (pc := 2) dX5_begins_2 rfl ?_
    refine x_bipush (pc := 3) (v := (103 : Int32)) dX5_begins_3 (by decide) ?_
    refine x_icmp_ge (pc := 5) (tgt := 21) dX5_begins_5 (by decide) (fun (c1 : (103 : Int32) ≤ v1) => ?_) (fun (c1 : ¬ ((103 : Int32) ≤ v1)) => ?_)
    · rw [if_pos c1] at er
      replace hp := hp.1 c1
      subst er
      exact kk
    · rw [if_neg c1] at er
      replace hp := hp.2 c1
      refine x_aload_n (pc := 8) dX5_begins_8 rfl ?_
      refine x_getf (pc := 9) (v := .ref rd) dX5_begins_9 xf_X5_13 (hAt_n n_o_rd k_o) rfl ?_
      refine x_iload_n (pc := 12) dX5_begins_12 rfl ?_
      refine x_iconst (pc := 13) (v := (0 : Int32)) dX5_begins_13 (by decide) ?_
      obtain ⟨q14, hp⟩ := hp
      refine x_iast (pc := 14) (e' := arI 103 (upd x_rd (v1.toNatClampNeg) (0 : Int32))) dX5_begins_14 hAt_same q14 (j := (v1.toNatClampNeg)) rfl rfl ?_
      refine Wp.eqh (h' := (hSet h rd (arI 103 (upd x_rd (v1.toNatClampNeg) (0 : Int32))))) (hSet_set) ?_
      refine x_iinc (pc := 15) (v := (v1 + (1 : Int32))) (L' := [(1, .int (v1 + (1 : Int32))), (0, .ref o)]) dX5_begins_15 rfl rfl rfl rfl ?_
      refine x_goto (pc := 18) (tgt := 2) dX5_begins_18 (by decide) ?_
      subst er
      exact ih (v1 + (1 : Int32)) (upd x_rd (v1.toNatClampNeg) (0 : Int32)) hp kk
def f_X5_begins (m tr : Nat → Int32) : (Nat → Int32) := (upd (upd (upd (upd (l_X5_begins_2 xK m tr (0 : Int32) tr).2 2 (60 : Int32)) 3 (900 : Int32)) 4 (20 : Int32)) 5 (1 : Int32))
def p_X5_begins (m tr : Nat → Int32) : Prop := ((q_X5_begins_2 xK m tr (0 : Int32) tr) ∧ True)
set_option maxRecDepth 100000 in
set_option maxHeartbeats 4000000 in
theorem C_X5_begins (G : xG) (h : xH) (o nw rd sd pa xt : Nat) (m tr : Nat → Int32) (k_o : hAt h o = some (moC nw rd sd pa xt m)) (k_rd : hAt h rd = some (arI 103 tr)) (hp : p_X5_begins m tr) : Cd G 0 yX5_begins cX5_begins 2 none [.ref o] h none (hSet h rd (arI 103 (f_X5_begins m tr))) := by
  have n_o_rd : o ≠ rd := hne_k k_o k_rd rfl
  refine Ct.of (by decide) (by rfl) ?_
  refine Wp.eqs (L' := [(0, .ref o)]) (st' := []) rfl rfl ?_
  refine Wp.eqh (h' := (hSet h rd (arI 103 tr))) (by rw [hSet_self k_rd]) ?_
  obtain ⟨R, er⟩ : ∃ R, f_X5_begins m tr = R := ⟨_, rfl⟩
  rw [er]
  unfold f_X5_begins at er
  unfold p_X5_begins at hp
  refine x_iconst (pc := 0) (v := (0 : Int32)) dX5_begins_0 (by decide) ?_
  refine x_istore_n (pc := 1) (L' := [(1, .int (0 : Int32)), (0, .ref o)]) dX5_begins_1 rfl rfl ?_
  obtain ⟨ql2, hp⟩ := hp
  refine L_X5_begins_2 G h o nw rd sd pa xt m tr k_o k_rd  xK (0 : Int32) tr ql2 ?_
  obtain ⟨F1, eF1⟩ : ∃ F, l_X5_begins_2 xK m tr (0 : Int32) tr = F := ⟨_, rfl⟩
  rw [eF1]
  try rw [eF1] at er
  try rw [eF1] at hp
  refine x_aload_n (pc := 21) dX5_begins_21 rfl ?_
  refine x_getf (pc := 22) (v := .ref rd) dX5_begins_22 xf_X5_13 (hAt_n n_o_rd k_o) rfl ?_
  refine x_iconst (pc := 25) (v := (2 : Int32)) dX5_begins_25 (by decide) ?_
  refine x_bipush (pc := 26) (v := (60 : Int32)) dX5_begins_26 (by decide) ?_
  refine x_iast (pc := 28) (e' := arI 103 (upd F1.2 2 (60 : Int32))) dX5_begins_28 hAt_same (vp_in_nI (n := 2) (by decide) (by decide)) (j := 2) (nI_clamp (n := 2) (by decide)) rfl ?_
  refine Wp.eqh (h' := (hSet h rd (arI 103 (upd F1.2 2 (60 : Int32))))) (hSet_set) ?_
  refine x_aload_n (pc := 29) dX5_begins_29 rfl ?_
  refine x_getf (pc := 30) (v := .ref rd) dX5_begins_30 xf_X5_13 (hAt_n n_o_rd k_o) rfl ?_
  refine x_iconst (pc := 33) (v := (3 : Int32)) dX5_begins_33 (by decide) ?_
  refine x_sipush (pc := 34) (v := (900 : Int32)) dX5_begins_34 (by decide) ?_
  refine x_iast (pc := 37) (e' := arI 103 (upd (upd F1.2 2 (60 : Int32)) 3 (900 : Int32))) dX5_begins_37 hAt_same (vp_in_nI (n := 3) (by decide) (by decide)) (j := 3) (nI_clamp (n := 3) (by decide)) rfl ?_
  refine Wp.eqh (h' := (hSet h rd (arI 103 (upd (upd F1.2 2 (60 : Int32)) 3 (900 : Int32))))) (hSet_set) ?_
  refine x_aload_n (pc := 38) dX5_begins_38 rfl ?_
  refine x_getf (pc := 39) (v := .ref rd) dX5_begins_39 xf_X5_13 (hAt_n n_o_rd k_o) rfl ?_
  refine x_iconst (pc := 42) (v := (4 : Int32)) dX5_begins_42 (by decide) ?_
  refine x_bipush (pc := 43) (v := (20 : Int32)) dX5_begins_43 (by decide) ?_
  refine x_iast (pc := 45) (e' := arI 103 (upd (upd (upd F1.2 2 (60 : Int32)) 3 (900 : Int32)) 4 (20 : Int32))) dX5_begins_45 hAt_same (vp_in_nI (n := 4) (by decide) (by decide)) (j := 4) (nI_clamp (n := 4) (by decide)) rfl ?_
  refine Wp.eqh (h' := (hSet h rd (arI 103 (upd (upd (upd F1.2 2 (60 : Int32)) 3 (900 : Int32)) 4 (20 : Int32))))) (hSet_set) ?_
  refine x_aload_n (pc := 46) dX5_begins_46 rfl ?_
  refine x_getf (pc := 47) (v := .ref rd) dX5_begins_47 xf_X5_13 (hAt_n n_o_rd k_o) rfl ?_
  refine x_iconst (pc := 50) (v := (5 : Int32)) dX5_begins_50 (by decide) ?_
  refine x_iconst (pc := 51) (v := (1 : Int32)) dX5_begins_51 (by decide) ?_
  refine x_iast (pc := 52) (e' := arI 103 (upd (upd (upd (upd F1.2 2 (60 : Int32)) 3 (900 : Int32)) 4 (20 : Int32)) 5 (1 : Int32))) dX5_begins_52 hAt_same (vp_in_nI (n := 5) (by decide) (by decide)) (j := 5) (nI_clamp (n := 5) (by decide)) rfl ?_
  refine Wp.eqh (h' := (hSet h rd (arI 103 (upd (upd (upd (upd F1.2 2 (60 : Int32)) 3 (900 : Int32)) 4 (20 : Int32)) 5 (1 : Int32))))) (hSet_set) ?_
  subst er
  exact x_vret (pc := 53) dX5_begins_53 rfl rfl rfl ⟨rfl, rfl⟩

def f_X5_addsWay (m tr : Nat → Int32) : Int32 × (Nat → Int32) := (((if (4 : Int32) ≤ (tr 0) then (0 : Int32) else (1 : Int32))), (upd tr 0 ((tr 0) + ((if ((if (4 : Int32) ≤ (tr 0) then (0 : Int32) else (1 : Int32))) = 0 then (0 : Int32) else (1 : Int32))))))
set_option maxRecDepth 100000 in
set_option maxHeartbeats 4000000 in
theorem C_X5_addsWay (G : xG) (h : xH) (o nw rd sd pa xt : Nat) (m tr : Nat → Int32) (k_o : hAt h o = some (moC nw rd sd pa xt m)) (k_rd : hAt h rd = some (arI 103 tr)) : Cd G 0 yX5_addsWay cX5_addsWay 2 (some .boolean) [.ref o] h (some (.int (f_X5_addsWay m tr).1)) (hSet h rd (arI 103 (f_X5_addsWay m tr).2)) := by
  have n_o_rd : o ≠ rd := hne_k k_o k_rd rfl
  refine Ct.of (by decide) (by rfl) ?_
  refine Wp.eqs (L' := [(0, .ref o)]) (st' := []) rfl rfl ?_
  refine Wp.eqh (h' := (hSet h rd (arI 103 tr))) (by rw [hSet_self k_rd]) ?_
  obtain ⟨R, er⟩ : ∃ R, f_X5_addsWay m tr = R := ⟨_, rfl⟩
  rw [er]
  unfold f_X5_addsWay at er
  refine x_aload_n (pc := 0) dX5_addsWay_0 rfl ?_
  refine x_getf (pc := 1) (v := .ref rd) dX5_addsWay_1 xf_X5_13 (hAt_n n_o_rd k_o) rfl ?_
  refine x_iconst (pc := 4) (v := (0 : Int32)) dX5_addsWay_4 (by decide) ?_
  refine x_iald (pc := 5) dX5_addsWay_5 hAt_same (vp_in_nI (n := 0) (by decide) (by decide)) (j := 0) (nI_clamp (n := 0) (by decide)) ?_
  refine x_iconst (pc := 6) (v := (4 : Int32)) dX5_addsWay_6 (by decide) ?_
  obtain ⟨F1, eF1⟩ : ∃ F, (if (4 : Int32) ≤ (tr 0) then (0 : Int32) else (1 : Int32)) = F := ⟨_, rfl⟩
  try rw [eF1] at er
  have bF1 : xB F1 := by rw [← eF1]; exact (xB_ite xB0 xB1)
  refine x_mrg (pc' := 15) (L' := [(0, .ref o)]) (st' := [.int F1]) (h' := (hSet h rd (arI 103 tr))) (fun J => ?_) ?_
  · refine x_icmp_ge (pc := 7) (tgt := 14) dX5_addsWay_7 (by decide) (fun (c1 : (4 : Int32) ≤ (tr 0)) => ?_) (fun (c1 : ¬ ((4 : Int32) ≤ (tr 0))) => ?_)
    · refine x_iconst (pc := 14) (v := (0 : Int32)) dX5_addsWay_14 (by decide) ?_
      rw [if_pos c1] at eF1
      subst eF1
      exact J
    · refine x_iconst (pc := 10) (v := (1 : Int32)) dX5_addsWay_10 (by decide) ?_
      refine x_goto (pc := 11) (tgt := 15) dX5_addsWay_11 (by decide) ?_
      rw [if_neg c1] at eF1
      subst eF1
      exact J
  refine x_istore_n (pc := 15) (L' := [(1, .int F1), (0, .ref o)]) dX5_addsWay_15 rfl rfl ?_
  refine x_aload_n (pc := 16) dX5_addsWay_16 rfl ?_
  refine x_getf (pc := 17) (v := .ref rd) dX5_addsWay_17 xf_X5_13 (hAt_n n_o_rd k_o) rfl ?_
  refine x_iconst (pc := 20) (v := (0 : Int32)) dX5_addsWay_20 (by decide) ?_
  refine x_dup2 (pc := 21) dX5_addsWay_21 rfl rfl ?_
  refine x_iald (pc := 22) dX5_addsWay_22 hAt_same (vp_in_nI (n := 0) (by decide) (by decide)) (j := 0) (nI_clamp (n := 0) (by decide)) ?_
  refine x_iload_n (pc := 23) dX5_addsWay_23 rfl ?_
  obtain ⟨F2, eF2⟩ : ∃ F, (if F1 = 0 then (0 : Int32) else (1 : Int32)) = F := ⟨_, rfl⟩
  try rw [eF2] at er
  have bF2 : xB F2 := by rw [← eF2]; exact (xB_ite xB0 xB1)
  refine x_mrg (pc' := 32) (L' := [(1, .int F1), (0, .ref o)]) (st' := [.int F2, .int (tr 0), .int (0 : Int32), .ref rd]) (h' := (hSet h rd (arI 103 tr))) (fun J => ?_) ?_
  · refine x_if_eq (pc := 24) (tgt := 31) dX5_addsWay_24 (by decide) (fun (c2 : F1 = 0) => ?_) (fun (c2 : ¬ (F1 = 0)) => ?_)
    · refine x_iconst (pc := 31) (v := (0 : Int32)) dX5_addsWay_31 (by decide) ?_
      rw [if_pos c2] at eF2
      subst eF2
      exact J
    · refine x_iconst (pc := 27) (v := (1 : Int32)) dX5_addsWay_27 (by decide) ?_
      refine x_goto (pc := 28) (tgt := 32) dX5_addsWay_28 (by decide) ?_
      rw [if_neg c2] at eF2
      subst eF2
      exact J
  refine x_iadd (pc := 32) dX5_addsWay_32 ?_
  refine x_iast (pc := 33) (e' := arI 103 (upd tr 0 ((tr 0) + F2))) dX5_addsWay_33 hAt_same (vp_in_nI (n := 0) (by decide) (by decide)) (j := 0) (nI_clamp (n := 0) (by decide)) rfl ?_
  refine Wp.eqh (h' := (hSet h rd (arI 103 (upd tr 0 ((tr 0) + F2))))) (hSet_set) ?_
  refine x_iload_n (pc := 34) dX5_addsWay_34 rfl ?_
  subst er
  exact x_iret (pc := 35) dX5_addsWay_35 rfl (xb_nar bF1) rfl rfl ⟨rfl, rfl⟩
theorem B_X5_addsWay (m tr : Nat → Int32) : xB (f_X5_addsWay m tr).1 := by
  unfold f_X5_addsWay
  exact (xB_fst (xB_ite xB0 xB1))

def f_X5_addsHop (m tr : Nat → Int32) (limit kind : Int32) : Int32 × (Nat → Int32) := (if ((tr 0) - (1 : Int32)) < 0 then ((0 : Int32), tr) else (if (tr ((f_X5_at ((tr 0) - (1 : Int32)) (11 : Int32)).toNatClampNeg)) = (6 : Int32) then ((0 : Int32), tr) else ((1 : Int32), (upd (upd (upd tr ((f_X5_at ((tr 0) - (1 : Int32)) ((12 : Int32) + (tr ((f_X5_at ((tr 0) - (1 : Int32)) (11 : Int32)).toNatClampNeg)))).toNatClampNeg) limit) ((f_X5_at ((tr 0) - (1 : Int32)) ((18 : Int32) + (tr ((f_X5_at ((tr 0) - (1 : Int32)) (11 : Int32)).toNatClampNeg)))).toNatClampNeg) kind) ((f_X5_at ((tr 0) - (1 : Int32)) (11 : Int32)).toNatClampNeg) (((upd (upd tr ((f_X5_at ((tr 0) - (1 : Int32)) ((12 : Int32) + (tr ((f_X5_at ((tr 0) - (1 : Int32)) (11 : Int32)).toNatClampNeg)))).toNatClampNeg) limit) ((f_X5_at ((tr 0) - (1 : Int32)) ((18 : Int32) + (tr ((f_X5_at ((tr 0) - (1 : Int32)) (11 : Int32)).toNatClampNeg)))).toNatClampNeg) kind) ((f_X5_at ((tr 0) - (1 : Int32)) (11 : Int32)).toNatClampNeg)) + (1 : Int32))))))
def p_X5_addsHop (m tr : Nat → Int32) (limit kind : Int32) : Prop := ((((tr 0) - (1 : Int32)) < 0 → True) ∧ (¬ (((tr 0) - (1 : Int32)) < 0) → (vp_in (f_X5_at ((tr 0) - (1 : Int32)) (11 : Int32)) 103 ∧ (((tr ((f_X5_at ((tr 0) - (1 : Int32)) (11 : Int32)).toNatClampNeg)) = (6 : Int32) → True) ∧ (¬ ((tr ((f_X5_at ((tr 0) - (1 : Int32)) (11 : Int32)).toNatClampNeg)) = (6 : Int32)) → (vp_in (f_X5_at ((tr 0) - (1 : Int32)) (11 : Int32)) 103 ∧ (vp_in (f_X5_at ((tr 0) - (1 : Int32)) ((12 : Int32) + (tr ((f_X5_at ((tr 0) - (1 : Int32)) (11 : Int32)).toNatClampNeg)))) 103 ∧ (vp_in (f_X5_at ((tr 0) - (1 : Int32)) ((18 : Int32) + (tr ((f_X5_at ((tr 0) - (1 : Int32)) (11 : Int32)).toNatClampNeg)))) 103 ∧ (vp_in (f_X5_at ((tr 0) - (1 : Int32)) (11 : Int32)) 103 ∧ (vp_in (f_X5_at ((tr 0) - (1 : Int32)) (11 : Int32)) 103 ∧ True))))))))))
set_option maxRecDepth 100000 in
set_option maxHeartbeats 4000000 in
theorem C_X5_addsHop (G : xG) (h : xH) (o nw rd sd pa xt : Nat) (m tr : Nat → Int32) (limit kind : Int32) (k_o : hAt h o = some (moC nw rd sd pa xt m)) (k_rd : hAt h rd = some (arI 103 tr)) (hp : p_X5_addsHop m tr limit kind) : Cd G 1 yX5_addsHop cX5_addsHop 5 (some .boolean) [.ref o, .int limit, .int kind] h (some (.int (f_X5_addsHop m tr limit kind).1)) (hSet h rd (arI 103 (f_X5_addsHop m tr limit kind).2)) := by
  have n_o_rd : o ≠ rd := hne_k k_o k_rd rfl
  refine Ct.of (by decide) (by rfl) ?_
  refine Wp.eqs (L' := [(0, .ref o), (1, .int limit), (2, .int kind)]) (st' := []) rfl rfl ?_
  refine Wp.eqh (h' := (hSet h rd (arI 103 tr))) (by rw [hSet_self k_rd]) ?_
  obtain ⟨R, er⟩ : ∃ R, f_X5_addsHop m tr limit kind = R := ⟨_, rfl⟩
  rw [er]
  unfold f_X5_addsHop at er
  unfold p_X5_addsHop at hp
  refine x_aload_n (pc := 0) dX5_addsHop_0 rfl ?_
  refine x_getf (pc := 1) (v := .ref rd) dX5_addsHop_1 xf_X5_13 (hAt_n n_o_rd k_o) rfl ?_
  refine x_iconst (pc := 4) (v := (0 : Int32)) dX5_addsHop_4 (by decide) ?_
  refine x_iald (pc := 5) dX5_addsHop_5 hAt_same (vp_in_nI (n := 0) (by decide) (by decide)) (j := 0) (nI_clamp (n := 0) (by decide)) ?_
  refine x_iconst (pc := 6) (v := (1 : Int32)) dX5_addsHop_6 (by decide) ?_
  refine x_isub (pc := 7) dX5_addsHop_7 ?_
  refine x_istore_n (pc := 8) (L' := [(3, .int ((tr 0) - (1 : Int32))), (0, .ref o), (1, .int limit), (2, .int kind)]) dX5_addsHop_8 rfl rfl ?_
  refine x_iload_n (pc := 9) dX5_addsHop_9 rfl ?_
  refine x_if_lt (pc := 10) (tgt := 29) dX5_addsHop_10 (by decide) (fun (c1 : ((tr 0) - (1 : Int32)) < 0) => ?_) (fun (c1 : ¬ (((tr 0) - (1 : Int32)) < 0)) => ?_)
  · rw [if_pos c1] at er
    replace hp := hp.1 c1
    refine x_iconst (pc := 29) (v := (0 : Int32)) dX5_addsHop_29 (by decide) ?_
    subst er
    exact x_iret (pc := 30) dX5_addsHop_30 rfl rfl rfl rfl ⟨rfl, rfl⟩
  · rw [if_neg c1] at er
    replace hp := hp.2 c1
    refine x_aload_n (pc := 13) dX5_addsHop_13 rfl ?_
    refine x_getf (pc := 14) (v := .ref rd) dX5_addsHop_14 xf_X5_13 (hAt_n n_o_rd k_o) rfl ?_
    refine x_iload_n (pc := 17) dX5_addsHop_17 rfl ?_
    refine x_bipush (pc := 18) (v := (11 : Int32)) dX5_addsHop_18 (by decide) ?_
    refine x_cS2i (pc := 20) dX5_addsHop_20 xl_X5_36 xs_X5_at (C_X5_at G _ ((tr 0) - (1 : Int32)) (11 : Int32)) rfl rfl rfl ?_
    obtain ⟨F1, eF1⟩ : ∃ F, f_X5_at ((tr 0) - (1 : Int32)) (11 : Int32) = F := ⟨_, rfl⟩
    rw [eF1]
    try rw [eF1] at er
    try rw [eF1] at hp
    obtain ⟨q23, hp⟩ := hp
    refine x_iald (pc := 23) dX5_addsHop_23 hAt_same q23 (j := (F1.toNatClampNeg)) rfl ?_
    refine x_bipush (pc := 24) (v := (6 : Int32)) dX5_addsHop_24 (by decide) ?_
    refine x_icmp_ne (pc := 26) (tgt := 31) dX5_addsHop_26 (by decide) (fun (c2 : ¬ ((tr (F1.toNatClampNeg)) = (6 : Int32))) => ?_) (fun (c2 : (tr (F1.toNatClampNeg)) = (6 : Int32)) => ?_)
    · rw [if_neg c2] at er
      replace hp := hp.2 c2
      refine x_aload_n (pc := 31) dX5_addsHop_31 rfl ?_
      refine x_getf (pc := 32) (v := .ref rd) dX5_addsHop_32 xf_X5_13 (hAt_n n_o_rd k_o) rfl ?_
      refine x_iload_n (pc := 35) dX5_addsHop_35 rfl ?_
      refine x_bipush (pc := 36) (v := (11 : Int32)) dX5_addsHop_36 (by decide) ?_
      refine x_cS2i (pc := 38) dX5_addsHop_38 xl_X5_36 xs_X5_at (C_X5_at G _ ((tr 0) - (1 : Int32)) (11 : Int32)) rfl rfl rfl ?_
      rw [eF1]
      obtain ⟨q41, hp⟩ := hp
      refine x_iald (pc := 41) dX5_addsHop_41 hAt_same q41 (j := (F1.toNatClampNeg)) rfl ?_
      refine x_istore (pc := 42) (L' := [(4, .int (tr (F1.toNatClampNeg))), (3, .int ((tr 0) - (1 : Int32))), (0, .ref o), (1, .int limit), (2, .int kind)]) dX5_addsHop_42 rfl rfl ?_
      refine x_aload_n (pc := 44) dX5_addsHop_44 rfl ?_
      refine x_getf (pc := 45) (v := .ref rd) dX5_addsHop_45 xf_X5_13 (hAt_n n_o_rd k_o) rfl ?_
      refine x_iload_n (pc := 48) dX5_addsHop_48 rfl ?_
      refine x_bipush (pc := 49) (v := (12 : Int32)) dX5_addsHop_49 (by decide) ?_
      refine x_iload (pc := 51) dX5_addsHop_51 rfl ?_
      refine x_iadd (pc := 53) dX5_addsHop_53 ?_
      refine x_cS2i (pc := 54) dX5_addsHop_54 xl_X5_36 xs_X5_at (C_X5_at G _ ((tr 0) - (1 : Int32)) ((12 : Int32) + (tr (F1.toNatClampNeg)))) rfl rfl rfl ?_
      obtain ⟨F2, eF2⟩ : ∃ F, f_X5_at ((tr 0) - (1 : Int32)) ((12 : Int32) + (tr (F1.toNatClampNeg))) = F := ⟨_, rfl⟩
      rw [eF2]
      try rw [eF2] at er
      try rw [eF2] at hp
      refine x_iload_n (pc := 57) dX5_addsHop_57 rfl ?_
      obtain ⟨q58, hp⟩ := hp
      refine x_iast (pc := 58) (e' := arI 103 (upd tr (F2.toNatClampNeg) limit)) dX5_addsHop_58 hAt_same q58 (j := (F2.toNatClampNeg)) rfl rfl ?_
      refine Wp.eqh (h' := (hSet h rd (arI 103 (upd tr (F2.toNatClampNeg) limit)))) (hSet_set) ?_
      refine x_aload_n (pc := 59) dX5_addsHop_59 rfl ?_
      refine x_getf (pc := 60) (v := .ref rd) dX5_addsHop_60 xf_X5_13 (hAt_n n_o_rd k_o) rfl ?_
      refine x_iload_n (pc := 63) dX5_addsHop_63 rfl ?_
      refine x_bipush (pc := 64) (v := (18 : Int32)) dX5_addsHop_64 (by decide) ?_
      refine x_iload (pc := 66) dX5_addsHop_66 rfl ?_
      refine x_iadd (pc := 68) dX5_addsHop_68 ?_
      refine x_cS2i (pc := 69) dX5_addsHop_69 xl_X5_36 xs_X5_at (C_X5_at G _ ((tr 0) - (1 : Int32)) ((18 : Int32) + (tr (F1.toNatClampNeg)))) rfl rfl rfl ?_
      obtain ⟨F3, eF3⟩ : ∃ F, f_X5_at ((tr 0) - (1 : Int32)) ((18 : Int32) + (tr (F1.toNatClampNeg))) = F := ⟨_, rfl⟩
      rw [eF3]
      try rw [eF3] at er
      try rw [eF3] at hp
      refine x_iload_n (pc := 72) dX5_addsHop_72 rfl ?_
      obtain ⟨q73, hp⟩ := hp
      refine x_iast (pc := 73) (e' := arI 103 (upd (upd tr (F2.toNatClampNeg) limit) (F3.toNatClampNeg) kind)) dX5_addsHop_73 hAt_same q73 (j := (F3.toNatClampNeg)) rfl rfl ?_
      refine Wp.eqh (h' := (hSet h rd (arI 103 (upd (upd tr (F2.toNatClampNeg) limit) (F3.toNatClampNeg) kind)))) (hSet_set) ?_
      refine x_aload_n (pc := 74) dX5_addsHop_74 rfl ?_
      refine x_getf (pc := 75) (v := .ref rd) dX5_addsHop_75 xf_X5_13 (hAt_n n_o_rd k_o) rfl ?_
      refine x_iload_n (pc := 78) dX5_addsHop_78 rfl ?_
      refine x_bipush (pc := 79) (v := (11 : Int32)) dX5_addsHop_79 (by decide) ?_
      refine x_cS2i (pc := 81) dX5_addsHop_81 xl_X5_36 xs_X5_at (C_X5_at G _ ((tr 0) - (1 : Int32)) (11 : Int32)) rfl rfl rfl ?_
      rw [eF1]
      refine x_dup2 (pc := 84) dX5_addsHop_84 rfl rfl ?_
      obtain ⟨q85, hp⟩ := hp
      refine x_iald (pc := 85) dX5_addsHop_85 hAt_same q85 (j := (F1.toNatClampNeg)) rfl ?_
      refine x_iconst (pc := 86) (v := (1 : Int32)) dX5_addsHop_86 (by decide) ?_
      refine x_iadd (pc := 87) dX5_addsHop_87 ?_
      obtain ⟨q88, hp⟩ := hp
      refine x_iast (pc := 88) (e' := arI 103 (upd (upd (upd tr (F2.toNatClampNeg) limit) (F3.toNatClampNeg) kind) (F1.toNatClampNeg) (((upd (upd tr (F2.toNatClampNeg) limit) (F3.toNatClampNeg) kind) (F1.toNatClampNeg)) + (1 : Int32)))) dX5_addsHop_88 hAt_same q88 (j := (F1.toNatClampNeg)) rfl rfl ?_
      refine Wp.eqh (h' := (hSet h rd (arI 103 (upd (upd (upd tr (F2.toNatClampNeg) limit) (F3.toNatClampNeg) kind) (F1.toNatClampNeg) (((upd (upd tr (F2.toNatClampNeg) limit) (F3.toNatClampNeg) kind) (F1.toNatClampNeg)) + (1 : Int32)))))) (hSet_set) ?_
      refine x_iconst (pc := 89) (v := (1 : Int32)) dX5_addsHop_89 (by decide) ?_
      subst er
      exact x_iret (pc := 90) dX5_addsHop_90 rfl rfl rfl rfl ⟨rfl, rfl⟩
    · rw [if_pos c2] at er
      replace hp := hp.1 c2
      refine x_iconst (pc := 29) (v := (0 : Int32)) dX5_addsHop_29 (by decide) ?_
      subst er
      exact x_iret (pc := 30) dX5_addsHop_30 rfl rfl rfl rfl ⟨rfl, rfl⟩
theorem B_X5_addsHop (m tr : Nat → Int32) (limit kind : Int32) : xB (f_X5_addsHop m tr limit kind).1 := by
  unfold f_X5_addsHop
  exact (xB_ite1 (xB_fst xB0) (xB_ite1 (xB_fst xB0) (xB_fst xB1)))

def l_X5_takes_2 : Nat → (Nat → Int32) → (Nat → Int32) → (Nat → Int32) → Int32 → (Nat → Int32) → Int32 × (Nat → Int32)
  | 0, _, _, _, _, _ => (0, (fun _ => 0))
  | n + 1, m, tn, tr, v1, x_rd => (if (x_rd 0) ≤ v1 then (v1, x_rd) else (l_X5_takes_2 n m tn tr (v1 + (1 : Int32)) (upd (upd (upd x_rd ((f_X5_at v1 (0 : Int32)).toNatClampNeg) (x_rd 2)) ((f_X5_at v1 (1 : Int32)).toNatClampNeg) ((upd x_rd ((f_X5_at v1 (0 : Int32)).toNatClampNeg) (x_rd 2)) 3)) ((f_X5_at v1 (2 : Int32)).toNatClampNeg) ((if ((upd (upd x_rd ((f_X5_at v1 (0 : Int32)).toNatClampNeg) (x_rd 2)) ((f_X5_at v1 (1 : Int32)).toNatClampNeg) ((upd x_rd ((f_X5_at v1 (0 : Int32)).toNatClampNeg) (x_rd 2)) 3)) 2) = ((upd (upd x_rd ((f_X5_at v1 (0 : Int32)).toNatClampNeg) (x_rd 2)) ((f_X5_at v1 (1 : Int32)).toNatClampNeg) ((upd x_rd ((f_X5_at v1 (0 : Int32)).toNatClampNeg) (x_rd 2)) 3)) 3) then (1 : Int32) else (0 : Int32))))))
def q_X5_takes_2 : Nat → (Nat → Int32) → (Nat → Int32) → (Nat → Int32) → Int32 → (Nat → Int32) → Prop
  | 0, _, _, _, _, _ => False
  | n + 1, m, tn, tr, v1, x_rd => (((x_rd 0) ≤ v1 → True) ∧ (¬ ((x_rd 0) ≤ v1) → (vp_in (f_X5_at v1 (0 : Int32)) 103 ∧ (vp_in (f_X5_at v1 (1 : Int32)) 103 ∧ (vp_in (f_X5_at v1 (2 : Int32)) 103 ∧ (q_X5_takes_2 n m tn tr (v1 + (1 : Int32)) (upd (upd (upd x_rd ((f_X5_at v1 (0 : Int32)).toNatClampNeg) (x_rd 2)) ((f_X5_at v1 (1 : Int32)).toNatClampNeg) ((upd x_rd ((f_X5_at v1 (0 : Int32)).toNatClampNeg) (x_rd 2)) 3)) ((f_X5_at v1 (2 : Int32)).toNatClampNeg) ((if ((upd (upd x_rd ((f_X5_at v1 (0 : Int32)).toNatClampNeg) (x_rd 2)) ((f_X5_at v1 (1 : Int32)).toNatClampNeg) ((upd x_rd ((f_X5_at v1 (0 : Int32)).toNatClampNeg) (x_rd 2)) 3)) 2) = ((upd (upd x_rd ((f_X5_at v1 (0 : Int32)).toNatClampNeg) (x_rd 2)) ((f_X5_at v1 (1 : Int32)).toNatClampNeg) ((upd x_rd ((f_X5_at v1 (0 : Int32)).toNatClampNeg) (x_rd 2)) 3)) 3) then (1 : Int32) else (0 : Int32))))))))))
set_option maxRecDepth 100000 in
set_option maxHeartbeats 4000000 in
theorem L_X5_takes_2 (G : xG) (h : xH) (o nw rd sd pa xt : Nat) (m tn tr : Nat → Int32) (k_o : hAt h o = some (moC nw rd sd pa xt m)) (k_nw : hAt h nw = some (arI 103 tn)) (k_rd : hAt h rd = some (arI 103 tr)) (n_nw_rd : nw ≠ rd) {Z : xZ} : ∀ (n : Nat) (v1 : Int32) (x_rd : (Nat → Int32)), q_X5_takes_2 n m tn tr v1 x_rd → Wp G yX5_takes.cls cX5_takes 2 yX5_takes.name none (xR 1 0 0) Z 0 0 80 [(1, .int (l_X5_takes_2 n m tn tr v1 x_rd).1), (0, .ref o)] [] (hSet (hSet (hSet h o (moC nw rd sd pa xt m)) nw (arI 103 tn)) rd (arI 103 (l_X5_takes_2 n m tn tr v1 x_rd).2)) → Wp G yX5_takes.cls cX5_takes 2 yX5_takes.name none (xR 1 0 0) Z 0 0 2 [(1, .int v1), (0, .ref o)] [] (hSet (hSet (hSet h o (moC nw rd sd pa xt m)) nw (arI 103 tn)) rd (arI 103 x_rd)) := by
  have n_o_nw : o ≠ nw := hne_k k_o k_nw rfl
  have n_o_rd : o ≠ rd := hne_k k_o k_rd rfl
  have n_rd_nw : rd ≠ nw := Ne.symm n_nw_rd
  intro n
  induction n with
  | zero => intro v1 x_rd hp; exact absurd hp id
  | succ n ih =>
    intro v1 x_rd hp kk
    obtain ⟨R, er⟩ : ∃ R, l_X5_takes_2 (n + 1) m tn tr v1 x_rd = R := ⟨_, rfl⟩
    rw [er] at kk
    rw [l_X5_takes_2] at er
    rw [q_X5_takes_2] at hp
    refine x_iload_n (pc := 2) dX5_takes_2 rfl ?_
    refine x_aload_n (pc := 3) dX5_takes_3 rfl ?_
    refine x_getf (pc := 4) (v := .ref rd) dX5_takes_4 xf_X5_13 (hAt_n n_o_rd (hAt_n n_o_nw hAt_same)) rfl ?_
    refine x_iconst (pc := 7) (v := (0 : Int32)) dX5_takes_7 (by decide) ?_
    refine x_iald (pc := 8) dX5_takes_8 hAt_same (vp_in_nI (n := 0) (by decide) (by decide)) (j := 0) (nI_clamp (n := 0) (by decide)) ?_
    refine x_icmp_ge (pc := 9) (tgt := 80) dX5_takes_9 (by decide) (fun (c1 : (x_rd 0) ≤ v1) => ?_) (fun (c1 : ¬ ((x_rd 0) ≤ v1)) => ?_)
    · rw [if_pos c1] at er
      replace hp := hp.1 c1
      subst er
      exact kk
    · rw [if_neg c1] at er
      replace hp := hp.2 c1
      refine x_aload_n (pc := 12) dX5_takes_12 rfl ?_
      refine x_getf (pc := 13) (v := .ref rd) dX5_takes_13 xf_X5_13 (hAt_n n_o_rd (hAt_n n_o_nw hAt_same)) rfl ?_
      refine x_iload_n (pc := 16) dX5_takes_16 rfl ?_
      refine x_iconst (pc := 17) (v := (0 : Int32)) dX5_takes_17 (by decide) ?_
      refine x_cS2i (pc := 18) dX5_takes_18 xl_X5_36 xs_X5_at (C_X5_at G _ v1 (0 : Int32)) rfl rfl rfl ?_
      obtain ⟨F5, eF5⟩ : ∃ F, f_X5_at v1 (0 : Int32) = F := ⟨_, rfl⟩
      rw [eF5]
      try rw [eF5] at er
      try rw [eF5] at hp
      refine x_aload_n (pc := 21) dX5_takes_21 rfl ?_
      refine x_getf (pc := 22) (v := .ref rd) dX5_takes_22 xf_X5_13 (hAt_n n_o_rd (hAt_n n_o_nw hAt_same)) rfl ?_
      refine x_iconst (pc := 25) (v := (2 : Int32)) dX5_takes_25 (by decide) ?_
      refine x_iald (pc := 26) dX5_takes_26 hAt_same (vp_in_nI (n := 2) (by decide) (by decide)) (j := 2) (nI_clamp (n := 2) (by decide)) ?_
      obtain ⟨q27, hp⟩ := hp
      refine x_iast (pc := 27) (e' := arI 103 (upd x_rd (F5.toNatClampNeg) (x_rd 2))) dX5_takes_27 hAt_same q27 (j := (F5.toNatClampNeg)) rfl rfl ?_
      refine Wp.eqh (h' := (hSet (hSet (hSet h o (moC nw rd sd pa xt m)) nw (arI 103 tn)) rd (arI 103 (upd x_rd (F5.toNatClampNeg) (x_rd 2))))) (hSet_set) ?_
      refine x_aload_n (pc := 28) dX5_takes_28 rfl ?_
      refine x_getf (pc := 29) (v := .ref rd) dX5_takes_29 xf_X5_13 (hAt_n n_o_rd (hAt_n n_o_nw hAt_same)) rfl ?_
      refine x_iload_n (pc := 32) dX5_takes_32 rfl ?_
      refine x_iconst (pc := 33) (v := (1 : Int32)) dX5_takes_33 (by decide) ?_
      refine x_cS2i (pc := 34) dX5_takes_34 xl_X5_36 xs_X5_at (C_X5_at G _ v1 (1 : Int32)) rfl rfl rfl ?_
      obtain ⟨F6, eF6⟩ : ∃ F, f_X5_at v1 (1 : Int32) = F := ⟨_, rfl⟩
      rw [eF6]
      try rw [eF6] at er
      try rw [eF6] at hp
      refine x_aload_n (pc := 37) dX5_takes_37 rfl ?_
      refine x_getf (pc := 38) (v := .ref rd) dX5_takes_38 xf_X5_13 (hAt_n n_o_rd (hAt_n n_o_nw hAt_same)) rfl ?_
      refine x_iconst (pc := 41) (v := (3 : Int32)) dX5_takes_41 (by decide) ?_
      refine x_iald (pc := 42) dX5_takes_42 hAt_same (vp_in_nI (n := 3) (by decide) (by decide)) (j := 3) (nI_clamp (n := 3) (by decide)) ?_
      obtain ⟨q43, hp⟩ := hp
      refine x_iast (pc := 43) (e' := arI 103 (upd (upd x_rd (F5.toNatClampNeg) (x_rd 2)) (F6.toNatClampNeg) ((upd x_rd (F5.toNatClampNeg) (x_rd 2)) 3))) dX5_takes_43 hAt_same q43 (j := (F6.toNatClampNeg)) rfl rfl ?_
      refine Wp.eqh (h' := (hSet (hSet (hSet h o (moC nw rd sd pa xt m)) nw (arI 103 tn)) rd (arI 103 (upd (upd x_rd (F5.toNatClampNeg) (x_rd 2)) (F6.toNatClampNeg) ((upd x_rd (F5.toNatClampNeg) (x_rd 2)) 3))))) (hSet_set) ?_
      refine x_aload_n (pc := 44) dX5_takes_44 rfl ?_
      refine x_getf (pc := 45) (v := .ref rd) dX5_takes_45 xf_X5_13 (hAt_n n_o_rd (hAt_n n_o_nw hAt_same)) rfl ?_
      refine x_iload_n (pc := 48) dX5_takes_48 rfl ?_
      refine x_iconst (pc := 49) (v := (2 : Int32)) dX5_takes_49 (by decide) ?_
      refine x_cS2i (pc := 50) dX5_takes_50 xl_X5_36 xs_X5_at (C_X5_at G _ v1 (2 : Int32)) rfl rfl rfl ?_
      obtain ⟨F7, eF7⟩ : ∃ F, f_X5_at v1 (2 : Int32) = F := ⟨_, rfl⟩
      rw [eF7]
      try rw [eF7] at er
      try rw [eF7] at hp
      refine x_aload_n (pc := 53) dX5_takes_53 rfl ?_
      refine x_getf (pc := 54) (v := .ref rd) dX5_takes_54 xf_X5_13 (hAt_n n_o_rd (hAt_n n_o_nw hAt_same)) rfl ?_
      refine x_iconst (pc := 57) (v := (2 : Int32)) dX5_takes_57 (by decide) ?_
      refine x_iald (pc := 58) dX5_takes_58 hAt_same (vp_in_nI (n := 2) (by decide) (by decide)) (j := 2) (nI_clamp (n := 2) (by decide)) ?_
      refine x_aload_n (pc := 59) dX5_takes_59 rfl ?_
      refine x_getf (pc := 60) (v := .ref rd) dX5_takes_60 xf_X5_13 (hAt_n n_o_rd (hAt_n n_o_nw hAt_same)) rfl ?_
      refine x_iconst (pc := 63) (v := (3 : Int32)) dX5_takes_63 (by decide) ?_
      refine x_iald (pc := 64) dX5_takes_64 hAt_same (vp_in_nI (n := 3) (by decide) (by decide)) (j := 3) (nI_clamp (n := 3) (by decide)) ?_
      obtain ⟨F8, eF8⟩ : ∃ F, (if ((upd (upd x_rd (F5.toNatClampNeg) (x_rd 2)) (F6.toNatClampNeg) ((upd x_rd (F5.toNatClampNeg) (x_rd 2)) 3)) 2) = ((upd (upd x_rd (F5.toNatClampNeg) (x_rd 2)) (F6.toNatClampNeg) ((upd x_rd (F5.toNatClampNeg) (x_rd 2)) 3)) 3) then (1 : Int32) else (0 : Int32)) = F := ⟨_, rfl⟩
      try rw [eF8] at er
      try rw [eF8] at hp
      have bF8 : xB F8 := by rw [← eF8]; exact (xB_ite xB1 xB0)
      refine x_mrg (pc' := 73) (L' := [(1, .int v1), (0, .ref o)]) (st' := [.int F8, .int F7, .ref rd]) (h' := (hSet (hSet (hSet h o (moC nw rd sd pa xt m)) nw (arI 103 tn)) rd (arI 103 (upd (upd x_rd (F5.toNatClampNeg) (x_rd 2)) (F6.toNatClampNeg) ((upd x_rd (F5.toNatClampNeg) (x_rd 2)) 3))))) (fun J => ?_) ?_
      · refine x_icmp_ne (pc := 65) (tgt := 72) dX5_takes_65 (by decide) (fun (c2 : ¬ (((upd (upd x_rd (F5.toNatClampNeg) (x_rd 2)) (F6.toNatClampNeg) ((upd x_rd (F5.toNatClampNeg) (x_rd 2)) 3)) 2) = ((upd (upd x_rd (F5.toNatClampNeg) (x_rd 2)) (F6.toNatClampNeg) ((upd x_rd (F5.toNatClampNeg) (x_rd 2)) 3)) 3))) => ?_) (fun (c2 : ((upd (upd x_rd (F5.toNatClampNeg) (x_rd 2)) (F6.toNatClampNeg) ((upd x_rd (F5.toNatClampNeg) (x_rd 2)) 3)) 2) = ((upd (upd x_rd (F5.toNatClampNeg) (x_rd 2)) (F6.toNatClampNeg) ((upd x_rd (F5.toNatClampNeg) (x_rd 2)) 3)) 3)) => ?_)
        · refine x_iconst (pc := 72) (v := (0 : Int32)) dX5_takes_72 (by decide) ?_
          rw [if_neg c2] at eF8
          subst eF8
          exact J
        · refine x_iconst (pc := 68) (v := (1 : Int32)) dX5_takes_68 (by decide) ?_
          refine x_goto (pc := 69) (tgt := 73) dX5_takes_69 (by decide) ?_
          rw [if_pos c2] at eF8
          subst eF8
          exact J
      obtain ⟨q73, hp⟩ := hp
      refine x_iast (pc := 73) (e' := arI 103 (upd (upd (upd x_rd (F5.toNatClampNeg) (x_rd 2)) (F6.toNatClampNeg) ((upd x_rd (F5.toNatClampNeg) (x_rd 2)) 3)) (F7.toNatClampNeg) F8)) dX5_takes_73 hAt_same q73 (j := (F7.toNatClampNeg)) rfl rfl ?_
      refine Wp.eqh (h' := (hSet (hSet (hSet h o (moC nw rd sd pa xt m)) nw (arI 103 tn)) rd (arI 103 (upd (upd (upd x_rd (F5.toNatClampNeg) (x_rd 2)) (F6.toNatClampNeg) ((upd x_rd (F5.toNatClampNeg) (x_rd 2)) 3)) (F7.toNatClampNeg) F8)))) (hSet_set) ?_
      refine x_iinc (pc := 74) (v := (v1 + (1 : Int32))) (L' := [(1, .int (v1 + (1 : Int32))), (0, .ref o)]) dX5_takes_74 rfl rfl rfl rfl ?_
      refine x_goto (pc := 77) (tgt := 2) dX5_takes_77 (by decide) ?_
      subst er
      exact ih (v1 + (1 : Int32)) (upd (upd (upd x_rd (F5.toNatClampNeg) (x_rd 2)) (F6.toNatClampNeg) ((upd x_rd (F5.toNatClampNeg) (x_rd 2)) 3)) (F7.toNatClampNeg) F8) hp kk
def f_X5_takes (m tn tr : Nat → Int32) : (Nat → Int32) × (Nat → Int32) × (Nat → Int32) := ((upd m 0 (0 : Int32)), (f_X5_copiesA (l_X5_takes_2 xK m tn tr (0 : Int32) tr).2 tn (0 : Int32) (0 : Int32)), (l_X5_takes_2 xK m tn tr (0 : Int32) tr).2)
def p_X5_takes (m tn tr : Nat → Int32) : Prop := ((q_X5_takes_2 xK m tn tr (0 : Int32) tr) ∧ (p_X5_copiesA (l_X5_takes_2 xK m tn tr (0 : Int32) tr).2 tn (0 : Int32) (0 : Int32) ∧ True))
set_option maxRecDepth 100000 in
set_option maxHeartbeats 4000000 in
theorem C_X5_takes (G : xG) (h : xH) (o nw rd sd pa xt : Nat) (m tn tr : Nat → Int32) (k_o : hAt h o = some (moC nw rd sd pa xt m)) (k_nw : hAt h nw = some (arI 103 tn)) (k_rd : hAt h rd = some (arI 103 tr)) (n_nw_rd : nw ≠ rd) (hp : p_X5_takes m tn tr) : Cd G 1 yX5_takes cX5_takes 2 none [.ref o] h none (hSet (hSet (hSet h o (moC nw rd sd pa xt (f_X5_takes m tn tr).1)) nw (arI 103 (f_X5_takes m tn tr).2.1)) rd (arI 103 (f_X5_takes m tn tr).2.2)) := by
  have n_o_nw : o ≠ nw := hne_k k_o k_nw rfl
  have n_o_rd : o ≠ rd := hne_k k_o k_rd rfl
  have n_rd_nw : rd ≠ nw := Ne.symm n_nw_rd
  refine Ct.of (by decide) (by rfl) ?_
  refine Wp.eqs (L' := [(0, .ref o)]) (st' := []) rfl rfl ?_
  refine Wp.eqh (h' := (hSet (hSet (hSet h o (moC nw rd sd pa xt m)) nw (arI 103 tn)) rd (arI 103 tr))) (by rw [hSet_self k_o, hSet_self k_nw, hSet_self k_rd]) ?_
  obtain ⟨R, er⟩ : ∃ R, f_X5_takes m tn tr = R := ⟨_, rfl⟩
  rw [er]
  unfold f_X5_takes at er
  unfold p_X5_takes at hp
  refine x_iconst (pc := 0) (v := (0 : Int32)) dX5_takes_0 (by decide) ?_
  refine x_istore_n (pc := 1) (L' := [(1, .int (0 : Int32)), (0, .ref o)]) dX5_takes_1 rfl rfl ?_
  obtain ⟨ql2, hp⟩ := hp
  refine L_X5_takes_2 G h o nw rd sd pa xt m tn tr k_o k_nw k_rd n_nw_rd xK (0 : Int32) tr ql2 ?_
  obtain ⟨F9, eF9⟩ : ∃ F, l_X5_takes_2 xK m tn tr (0 : Int32) tr = F := ⟨_, rfl⟩
  rw [eF9]
  try rw [eF9] at er
  try rw [eF9] at hp
  refine x_aload_n (pc := 80) dX5_takes_80 rfl ?_
  refine x_getf (pc := 81) (v := .ref rd) dX5_takes_81 xf_X5_13 (hAt_n n_o_rd (hAt_n n_o_nw hAt_same)) rfl ?_
  refine x_iconst (pc := 84) (v := (0 : Int32)) dX5_takes_84 (by decide) ?_
  refine x_aload_n (pc := 85) dX5_takes_85 rfl ?_
  refine x_getf (pc := 86) (v := .ref nw) dX5_takes_86 xf_X5_7 (hAt_n n_o_rd (hAt_n n_o_nw hAt_same)) rfl ?_
  refine x_iconst (pc := 89) (v := (0 : Int32)) dX5_takes_89 (by decide) ?_
  obtain ⟨q90, hp⟩ := hp
  refine x_cS4v (pc := 90) dX5_takes_90 xl_X5_43 xs_X5_copies (C_X5_copiesA G _ rd nw F9.2 tn (0 : Int32) (0 : Int32) hAt_same (hAt_n n_nw_rd hAt_same) n_rd_nw q90) rfl rfl rfl ?_
  obtain ⟨F10, eF10⟩ : ∃ F, f_X5_copiesA F9.2 tn (0 : Int32) (0 : Int32) = F := ⟨_, rfl⟩
  rw [eF10]
  try rw [eF10] at er
  try rw [eF10] at hp
  refine Wp.eqh (h' := (hSet (hSet (hSet h o (moC nw rd sd pa xt m)) nw (arI 103 F10)) rd (arI 103 F9.2))) (hSet_sw1 n_nw_rd) ?_
  refine x_aload_n (pc := 93) dX5_takes_93 rfl ?_
  refine x_iconst (pc := 94) (v := (0 : Int32)) dX5_takes_94 (by decide) ?_
  refine x_putf (pc := 95) (e' := moC nw rd sd pa xt (upd m 0 (0 : Int32))) dX5_takes_95 xf_X5_47 (hAt_n n_o_rd (hAt_n n_o_nw hAt_same)) rfl rfl rfl rfl ?_
  refine Wp.eqh (h' := (hSet (hSet (hSet h o (moC nw rd sd pa xt (upd m 0 (0 : Int32)))) nw (arI 103 F10)) rd (arI 103 F9.2))) (hSet_sw2 n_o_nw n_o_rd) ?_
  subst er
  exact x_vret (pc := 98) dX5_takes_98 rfl rfl rfl ⟨rfl, rfl⟩
