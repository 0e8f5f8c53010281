def l_X5_copiesA_3 : Nat → (Nat → Int32) → (Nat → Int32) → Int32 → Int32 → Int32 → (Nat → Int32) → Int32 × (Nat → Int32)
  | 0, _, _, _, _, _, _ => (0, (fun _ => 0))
  | n + 1, ff, gf, i, j, v4, x_ga => (if (103 : Int32) ≤ v4 then (v4, x_ga) else (l_X5_copiesA_3 n ff gf i j (v4 + (1 : Int32)) (upd x_ga ((j + v4).toNatClampNeg) (ff ((i + v4).toNatClampNeg)))))
def q_X5_copiesA_3 : Nat → (Nat → Int32) → (Nat → Int32) → Int32 → Int32 → Int32 → (Nat → Int32) → Prop
  | 0, _, _, _, _, _, _ => False
  | n + 1, ff, gf, i, j, v4, x_ga => (((103 : Int32) ≤ v4 → True) ∧ (¬ ((103 : Int32) ≤ v4) → (vp_in (i + v4) 103 ∧ (vp_in (j + v4) 103 ∧ (q_X5_copiesA_3 n ff gf i j (v4 + (1 : Int32)) (upd x_ga ((j + v4).toNatClampNeg) (ff ((i + v4).toNatClampNeg))))))))
set_option maxRecDepth 100000 in
set_option maxHeartbeats 4000000 in
theorem L_X5_copiesA_3 (G : xG) (h : xH) (fa ga : Nat) (ff gf : Nat → Int32) (i j : Int32) (k_fa : hAt h fa = some (arI 103 ff)) (k_ga : hAt h ga = some (arI 103 gf)) (n_fa_ga : fa ≠ ga) {Z : xZ} : ∀ (n : Nat) (v4 : Int32) (x_ga : (Nat → Int32)), q_X5_copiesA_3 n ff gf i j v4 x_ga → Wp G yX5_copies.cls cX5_copies 5 yX5_copies.name none (xR 0 0 0) Z 0 0 28 [(4, .int (l_X5_copiesA_3 n ff gf i j v4 x_ga).1), (0, .ref fa), (1, .int i), (2, .ref ga), (3, .int j)] [] (hSet h ga (arI 103 (l_X5_copiesA_3 n ff gf i j v4 x_ga).2)) → Wp G yX5_copies.cls cX5_copies 5 yX5_copies.name none (xR 0 0 0) Z 0 0 3 [(4, .int v4), (0, .ref fa), (1, .int i), (2, .ref ga), (3, .int j)] [] (hSet h ga (arI 103 x_ga)) := by
  intro n
  induction n with
  | zero => intro v4 x_ga hp; exact absurd hp id
  | succ n ih =>
    intro v4 x_ga hp kk
    obtain ⟨R, er⟩ : ∃ R, l_X5_copiesA_3 (n + 1) ff gf i j v4 x_ga = R := ⟨_, rfl⟩
    rw [er] at kk
    rw [l_X5_copiesA_3] at er
    rw [q_X5_copiesA_3] at hp
    refine x_iload (pc := 3) dX5_copies_3 rfl ?_
    refine x_bipush (pc := 5) (v := (103 : Int32)) dX5_copies_5 (by decide) ?_
    refine x_icmp_ge (pc := 7) (tgt := 28) dX5_copies_7 (by decide) (fun (c1 : (103 : Int32) ≤ v4) => ?_) (fun (c1 : ¬ ((103 : Int32) ≤ v4)) => ?_)
    · rw [if_pos c1] at er
      replace hp := hp.1 c1
      subst er
      exact kk
    · rw [if_neg c1] at er
      replace hp := hp.2 c1
      refine x_aload_n (pc := 10) dX5_copies_10 rfl ?_
      refine x_iload_n (pc := 11) dX5_copies_11 rfl ?_
      refine x_iload (pc := 12) dX5_copies_12 rfl ?_
      refine x_iadd (pc := 14) dX5_copies_14 ?_
      refine x_aload_n (pc := 15) dX5_copies_15 rfl ?_
      refine x_iload_n (pc := 16) dX5_copies_16 rfl ?_
      refine x_iload (pc := 17) dX5_copies_17 rfl ?_
      refine x_iadd (pc := 19) dX5_copies_19 ?_
      obtain ⟨q20, hp⟩ := hp
      refine x_iald (pc := 20) dX5_copies_20 (hAt_n n_fa_ga k_fa) q20 (j := ((i + v4).toNatClampNeg)) rfl ?_
      obtain ⟨q21, hp⟩ := hp
      refine x_iast (pc := 21) (e' := arI 103 (upd x_ga ((j + v4).toNatClampNeg) (ff ((i + v4).toNatClampNeg)))) dX5_copies_21 hAt_same q21 (j := ((j + v4).toNatClampNeg)) rfl rfl ?_
      refine Wp.eqh (h' := (hSet h ga (arI 103 (upd x_ga ((j + v4).toNatClampNeg) (ff ((i + v4).toNatClampNeg)))))) (hSet_set) ?_
      refine x_iinc (pc := 22) (v := (v4 + (1 : Int32))) (L' := [(4, .int (v4 + (1 : Int32))), (0, .ref fa), (1, .int i), (2, .ref ga), (3, .int j)]) dX5_copies_22 rfl rfl rfl rfl ?_
      refine x_goto (pc := 25) (tgt := 3) dX5_copies_25 (by decide) ?_
      subst er
      exact ih (v4 + (1 : Int32)) (upd x_ga ((j + v4).toNatClampNeg) (ff ((i + v4).toNatClampNeg))) hp kk
def f_X5_copiesA (ff gf : Nat → Int32) (i j : Int32) : (Nat → Int32) := (l_X5_copiesA_3 xK ff gf i j (0 : Int32) gf).2
def p_X5_copiesA (ff gf : Nat → Int32) (i j : Int32) : Prop := ((q_X5_copiesA_3 xK ff gf i j (0 : Int32) gf) ∧ True)
set_option maxRecDepth 100000 in
set_option maxHeartbeats 4000000 in
theorem C_X5_copiesA (G : xG) (h : xH) (fa ga : Nat) (ff gf : Nat → Int32) (i j : Int32) (k_fa : hAt h fa = some (arI 103 ff)) (k_ga : hAt h ga = some (arI 103 gf)) (n_fa_ga : fa ≠ ga) (hp : p_X5_copiesA ff gf i j) : Cd G 0 yX5_copies cX5_copies 5 none [.ref fa, .int i, .ref ga, .int j] h none (hSet h ga (arI 103 (f_X5_copiesA ff gf i j))) := by
  refine Ct.of (by decide) (by rfl) ?_
  refine Wp.eqs (L' := [(0, .ref fa), (1, .int i), (2, .ref ga), (3, .int j)]) (st' := []) rfl rfl ?_
  refine Wp.eqh (h' := (hSet h ga (arI 103 gf))) (by rw [hSet_self k_ga]) ?_
  obtain ⟨R, er⟩ : ∃ R, f_X5_copiesA ff gf i j = R := ⟨_, rfl⟩
  rw [er]
  unfold f_X5_copiesA at er
  unfold p_X5_copiesA at hp
  refine x_iconst (pc := 0) (v := (0 : Int32)) dX5_copies_0 (by decide) ?_
  refine x_istore (pc := 1) (L' := [(4, .int (0 : Int32)), (0, .ref fa), (1, .int i), (2, .ref ga), (3, .int j)]) dX5_copies_1 rfl rfl ?_
  obtain ⟨ql3, hp⟩ := hp
  refine L_X5_copiesA_3 G h fa ga ff gf i j k_fa k_ga n_fa_ga xK (0 : Int32) gf ql3 ?_
  obtain ⟨F1, eF1⟩ : ∃ F, l_X5_copiesA_3 xK ff gf i j (0 : Int32) gf = F := ⟨_, rfl⟩
  rw [eF1]
  try rw [eF1] at er
  try rw [eF1] at hp
  subst er
  exact x_vret (pc := 28) dX5_copies_28 rfl rfl rfl ⟨rfl, rfl⟩

def l_X5_copiesB_3 : Nat → (Nat → Int32) → (Nat → Int32) → Int32 → Int32 → Int32 → (Nat → Int32) → Int32 × (Nat → Int32)
  | 0, _, _, _, _, _, _ => (0, (fun _ => 0))
  | n + 1, ff, gf, i, j, v4, x_ga => (if (103 : Int32) ≤ v4 then (v4, x_ga) else (l_X5_copiesB_3 n ff gf i j (v4 + (1 : Int32)) (upd x_ga ((j + v4).toNatClampNeg) (ff ((i + v4).toNatClampNeg)))))
def q_X5_copiesB_3 : Nat → (Nat → Int32) → (Nat → Int32) → Int32 → Int32 → Int32 → (Nat → Int32) → Prop
  | 0, _, _, _, _, _, _ => False
  | n + 1, ff, gf, i, j, v4, x_ga => (((103 : Int32) ≤ v4 → True) ∧ (¬ ((103 : Int32) ≤ v4) → (vp_in (i + v4) 103 ∧ (vp_in (j + v4) 412 ∧ (q_X5_copiesB_3 n ff gf i j (v4 + (1 : Int32)) (upd x_ga ((j + v4).toNatClampNeg) (ff ((i + v4).toNatClampNeg))))))))
set_option maxRecDepth 100000 in
set_option maxHeartbeats 4000000 in
theorem L_X5_copiesB_3 (G : xG) (h : xH) (fa ga : Nat) (ff gf : Nat → Int32) (i j : Int32) (k_fa : hAt h fa = some (arI 103 ff)) (k_ga : hAt h ga = some (arI 412 gf)) (n_fa_ga : fa ≠ ga) {Z : xZ} : ∀ (n : Nat) (v4 : Int32) (x_ga : (Nat → Int32)), q_X5_copiesB_3 n ff gf i j v4 x_ga → Wp G yX5_copies.cls cX5_copies 5 yX5_copies.name none (xR 0 0 0) Z 0 0 28 [(4, .int (l_X5_copiesB_3 n ff gf i j v4 x_ga).1), (0, .ref fa), (1, .int i), (2, .ref ga), (3, .int j)] [] (hSet h ga (arI 412 (l_X5_copiesB_3 n ff gf i j v4 x_ga).2)) → Wp G yX5_copies.cls cX5_copies 5 yX5_copies.name none (xR 0 0 0) Z 0 0 3 [(4, .int v4), (0, .ref fa), (1, .int i), (2, .ref ga), (3, .int j)] [] (hSet h ga (arI 412 x_ga)) := by
  intro n
  induction n with
  | zero => intro v4 x_ga hp; exact absurd hp id
  | succ n ih =>
    intro v4 x_ga hp kk
    obtain ⟨R, er⟩ : ∃ R, l_X5_copiesB_3 (n + 1) ff gf i j v4 x_ga = R := ⟨_, rfl⟩
    rw [er] at kk
    rw [l_X5_copiesB_3] at er
    rw [q_X5_copiesB_3] at hp
    refine x_iload (pc := 3) dX5_copies_3 rfl ?_
    refine x_bipush (pc := 5) (v := (103 : Int32)) dX5_copies_5 (by decide) ?_
    refine x_icmp_ge (pc := 7) (tgt := 28) dX5_copies_7 (by decide) (fun (c1 : (103 : Int32) ≤ v4) => ?_) (fun (c1 : ¬ ((103 : Int32) ≤ v4)) => ?_)
    · rw [if_pos c1] at er
      replace hp := hp.1 c1
      subst er
      exact kk
    · rw [if_neg c1] at er
      replace hp := hp.2 c1
      refine x_aload_n (pc := 10) dX5_copies_10 rfl ?_
      refine x_iload_n (pc := 11) dX5_copies_11 rfl ?_
      refine x_iload (pc := 12) dX5_copies_12 rfl ?_
      refine x_iadd (pc := 14) dX5_copies_14 ?_
      refine x_aload_n (pc := 15) dX5_copies_15 rfl ?_
      refine x_iload_n (pc := 16) dX5_copies_16 rfl ?_
      refine x_iload (pc := 17) dX5_copies_17 rfl ?_
      refine x_iadd (pc := 19) dX5_copies_19 ?_
      obtain ⟨q20, hp⟩ := hp
      refine x_iald (pc := 20) dX5_copies_20 (hAt_n n_fa_ga k_fa) q20 (j := ((i + v4).toNatClampNeg)) rfl ?_
      obtain ⟨q21, hp⟩ := hp
      refine x_iast (pc := 21) (e' := arI 412 (upd x_ga ((j + v4).toNatClampNeg) (ff ((i + v4).toNatClampNeg)))) dX5_copies_21 hAt_same q21 (j := ((j + v4).toNatClampNeg)) rfl rfl ?_
      refine Wp.eqh (h' := (hSet h ga (arI 412 (upd x_ga ((j + v4).toNatClampNeg) (ff ((i + v4).toNatClampNeg)))))) (hSet_set) ?_
      refine x_iinc (pc := 22) (v := (v4 + (1 : Int32))) (L' := [(4, .int (v4 + (1 : Int32))), (0, .ref fa), (1, .int i), (2, .ref ga), (3, .int j)]) dX5_copies_22 rfl rfl rfl rfl ?_
      refine x_goto (pc := 25) (tgt := 3) dX5_copies_25 (by decide) ?_
      subst er
      exact ih (v4 + (1 : Int32)) (upd x_ga ((j + v4).toNatClampNeg) (ff ((i + v4).toNatClampNeg))) hp kk
def f_X5_copiesB (ff gf : Nat → Int32) (i j : Int32) : (Nat → Int32) := (l_X5_copiesB_3 xK ff gf i j (0 : Int32) gf).2
def p_X5_copiesB (ff gf : Nat → Int32) (i j : Int32) : Prop := ((q_X5_copiesB_3 xK ff gf i j (0 : Int32) gf) ∧ True)
set_option maxRecDepth 100000 in
set_option maxHeartbeats 4000000 in
theorem C_X5_copiesB (G : xG) (h : xH) (fa ga : Nat) (ff gf : Nat → Int32) (i j : Int32) (k_fa : hAt h fa = some (arI 103 ff)) (k_ga : hAt h ga = some (arI 412 gf)) (n_fa_ga : fa ≠ ga) (hp : p_X5_copiesB ff gf i j) : Cd G 0 yX5_copies cX5_copies 5 none [.ref fa, .int i, .ref ga, .int j] h none (hSet h ga (arI 412 (f_X5_copiesB ff gf i j))) := by
  refine Ct.of (by decide) (by rfl) ?_
  refine Wp.eqs (L' := [(0, .ref fa), (1, .int i), (2, .ref ga), (3, .int j)]) (st' := []) rfl rfl ?_
  refine Wp.eqh (h' := (hSet h ga (arI 412 gf))) (by rw [hSet_self k_ga]) ?_
  obtain ⟨R, er⟩ : ∃ R, f_X5_copiesB ff gf i j = R := ⟨_, rfl⟩
  rw [er]
  unfold f_X5_copiesB at er
  unfold p_X5_copiesB at hp
  refine x_iconst (pc := 0) (v := (0 : Int32)) dX5_copies_0 (by decide) ?_
  refine x_istore (pc := 1) (L' := [(4, .int (0 : Int32)), (0, .ref fa), (1, .int i), (2, .ref ga), (3, .int j)]) dX5_copies_1 rfl rfl ?_
  obtain ⟨ql3, hp⟩ := hp
  refine L_X5_copiesB_3 G h fa ga ff gf i j k_fa k_ga n_fa_ga xK (0 : Int32) gf ql3 ?_
  obtain ⟨F1, eF1⟩ : ∃ F, l_X5_copiesB_3 xK ff gf i j (0 : Int32) gf = F := ⟨_, rfl⟩
  rw [eF1]
  try rw [eF1] at er
  try rw [eF1] at hp
  subst er
  exact x_vret (pc := 28) dX5_copies_28 rfl rfl rfl ⟨rfl, rfl⟩

def l_X5_copiesC_3 : Nat → (Nat → Int32) → (Nat → Int32) → Int32 → Int32 → Int32 → (Nat → Int32) → Int32 × (Nat → Int32)
  | 0, _, _, _, _, _, _ => (0, (fun _ => 0))
  | n + 1, ff, gf, i, j, v4, x_ga => (if (103 : Int32) ≤ v4 then (v4, x_ga) else (l_X5_copiesC_3 n ff gf i j (v4 + (1 : Int32)) (upd x_ga ((j + v4).toNatClampNeg) (ff ((i + v4).toNatClampNeg)))))
def q_X5_copiesC_3 : Nat → (Nat → Int32) → (Nat → Int32) → Int32 → Int32 → Int32 → (Nat → Int32) → Prop
  | 0, _, _, _, _, _, _ => False
  | n + 1, ff, gf, i, j, v4, x_ga => (((103 : Int32) ≤ v4 → True) ∧ (¬ ((103 : Int32) ≤ v4) → (vp_in (i + v4) 412 ∧ (vp_in (j + v4) 103 ∧ (q_X5_copiesC_3 n ff gf i j (v4 + (1 : Int32)) (upd x_ga ((j + v4).toNatClampNeg) (ff ((i + v4).toNatClampNeg))))))))
set_option maxRecDepth 100000 in
set_option maxHeartbeats 4000000 in
theorem L_X5_copiesC_3 (G : xG) (h : xH) (fa ga : Nat) (ff gf : Nat → Int32) (i j : Int32) (k_fa : hAt h fa = some (arI 412 ff)) (k_ga : hAt h ga = some (arI 103 gf)) (n_fa_ga : fa ≠ ga) {Z : xZ} : ∀ (n : Nat) (v4 : Int32) (x_ga : (Nat → Int32)), q_X5_copiesC_3 n ff gf i j v4 x_ga → Wp G yX5_copies.cls cX5_copies 5 yX5_copies.name none (xR 0 0 0) Z 0 0 28 [(4, .int (l_X5_copiesC_3 n ff gf i j v4 x_ga).1), (0, .ref fa), (1, .int i), (2, .ref ga), (3, .int j)] [] (hSet h ga (arI 103 (l_X5_copiesC_3 n ff gf i j v4 x_ga).2)) → Wp G yX5_copies.cls cX5_copies 5 yX5_copies.name none (xR 0 0 0) Z 0 0 3 [(4, .int v4), (0, .ref fa), (1, .int i), (2, .ref ga), (3, .int j)] [] (hSet h ga (arI 103 x_ga)) := by
  intro n
  induction n with
  | zero => intro v4 x_ga hp; exact absurd hp id
  | succ n ih =>
    intro v4 x_ga hp kk
    obtain ⟨R, er⟩ : ∃ R, l_X5_copiesC_3 (n + 1) ff gf i j v4 x_ga = R := ⟨_, rfl⟩
    rw [er] at kk
    rw [l_X5_copiesC_3] at er
    rw [q_X5_copiesC_3] at hp
    refine x_iload (pc := 3) dX5_copies_3 rfl ?_
    refine x_bipush (pc := 5) (v := (103 : Int32)) dX5_copies_5 (by decide) ?_
    refine x_icmp_ge (pc := 7) (tgt := 28) dX5_copies_7 (by decide) (fun (c1 : (103 : Int32) ≤ v4) => ?_) (fun (c1 : ¬ ((103 : Int32) ≤ v4)) => ?_)
    · rw [if_pos c1] at er
      replace hp := hp.1 c1
      subst er
      exact kk
    · rw [if_neg c1] at er
      replace hp := hp.2 c1
      refine x_aload_n (pc := 10) dX5_copies_10 rfl ?_
      refine x_iload_n (pc := 11) dX5_copies_11 rfl ?_
      refine x_iload (pc := 12) dX5_copies_12 rfl ?_
      refine x_iadd (pc := 14) dX5_copies_14 ?_
      refine x_aload_n (pc := 15) dX5_copies_15 rfl ?_
      refine x_iload_n (pc := 16) dX5_copies_16 rfl ?_
      refine x_iload (pc := 17) dX5_copies_17 rfl ?_
      refine x_iadd (pc := 19) dX5_copies_19 ?_
      obtain ⟨q20, hp⟩ := hp
      refine x_iald (pc := 20) dX5_copies_20 (hAt_n n_fa_ga k_fa) q20 (j := ((i + v4).toNatClampNeg)) rfl ?_
      obtain ⟨q21, hp⟩ := hp
      refine x_iast (pc := 21) (e' := arI 103 (upd x_ga ((j + v4).toNatClampNeg) (ff ((i + v4).toNatClampNeg)))) dX5_copies_21 hAt_same q21 (j := ((j + v4).toNatClampNeg)) rfl rfl ?_
      refine Wp.eqh (h' := (hSet h ga (arI 103 (upd x_ga ((j + v4).toNatClampNeg) (ff ((i + v4).toNatClampNeg)))))) (hSet_set) ?_
      refine x_iinc (pc := 22) (v := (v4 + (1 : Int32))) (L' := [(4, .int (v4 + (1 : Int32))), (0, .ref fa), (1, .int i), (2, .ref ga), (3, .int j)]) dX5_copies_22 rfl rfl rfl rfl ?_
      refine x_goto (pc := 25) (tgt := 3) dX5_copies_25 (by decide) ?_
      subst er
      exact ih (v4 + (1 : Int32)) (upd x_ga ((j + v4).toNatClampNeg) (ff ((i + v4).toNatClampNeg))) hp kk
def f_X5_copiesC (ff gf : Nat → Int32) (i j : Int32) : (Nat → Int32) := (l_X5_copiesC_3 xK ff gf i j (0 : Int32) gf).2
def p_X5_copiesC (ff gf : Nat → Int32) (i j : Int32) : Prop := ((q_X5_copiesC_3 xK ff gf i j (0 : Int32) gf) ∧ True)
set_option maxRecDepth 100000 in
set_option maxHeartbeats 4000000 in
theorem C_X5_copiesC (G : xG) (h : xH) (fa ga : Nat) (ff gf : Nat → Int32) (i j : Int32) (k_fa : hAt h fa = some (arI 412 ff)) (k_ga : hAt h ga = some (arI 103 gf)) (n_fa_ga : fa ≠ ga) (hp : p_X5_copiesC ff gf i j) : Cd G 0 yX5_copies cX5_copies 5 none [.ref fa, .int i, .ref ga, .int j] h none (hSet h ga (arI 103 (f_X5_copiesC ff gf i j))) := by
  refine Ct.of (by decide) (by rfl) ?_
  refine Wp.eqs (L' := [(0, .ref fa), (1, .int i), (2, .ref ga), (3, .int j)]) (st' := []) rfl rfl ?_
  refine Wp.eqh (h' := (hSet h ga (arI 103 gf))) (by rw [hSet_self k_ga]) ?_
  obtain ⟨R, er⟩ : ∃ R, f_X5_copiesC ff gf i j = R := ⟨_, rfl⟩
  rw [er]
  unfold f_X5_copiesC at er
  unfold p_X5_copiesC at hp
  refine x_iconst (pc := 0) (v := (0 : Int32)) dX5_copies_0 (by decide) ?_
  refine x_istore (pc := 1) (L' := [(4, .int (0 : Int32)), (0, .ref fa), (1, .int i), (2, .ref ga), (3, .int j)]) dX5_copies_1 rfl rfl ?_
  obtain ⟨ql3, hp⟩ := hp
  refine L_X5_copiesC_3 G h fa ga ff gf i j k_fa k_ga n_fa_ga xK (0 : Int32) gf ql3 ?_
  obtain ⟨F1, eF1⟩ : ∃ F, l_X5_copiesC_3 xK ff gf i j (0 : Int32) gf = F := ⟨_, rfl⟩
  rw [eF1]
  try rw [eF1] at er
  try rw [eF1] at hp
  subst er
  exact x_vret (pc := 28) dX5_copies_28 rfl rfl rfl ⟨rfl, rfl⟩
