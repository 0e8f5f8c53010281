def f_X1_clear (r : Nat → Int32) : (Nat → Int32) := (upd (upd (upd (upd (upd r 0 (60 : Int32)) 1 (900 : Int32)) 2 (20 : Int32)) 3 (1 : Int32)) 4 (0 : Int32))
set_option maxRecDepth 100000 in
set_option maxHeartbeats 4000000 in
theorem C_X1_clear (G : xG) (h : xH) (rr : Nat) (r : Nat → Int32) (k_rr : hAt h rr = some (ruC r)) : Cd G 0 yX1_clear cX1_clear 1 none [.ref rr] h none (hSet h rr (ruC (f_X1_clear r))) := by
  refine Ct.of (by decide) (by rfl) ?_
  refine Wp.eqs (L' := [(0, .ref rr)]) (st' := []) rfl rfl ?_
  refine Wp.eqh (h' := (hSet h rr (ruC r))) (by rw [hSet_self k_rr]) ?_
  obtain ⟨R, er⟩ : ∃ R, f_X1_clear r = R := ⟨_, rfl⟩
  rw [er]
  unfold f_X1_clear at er
  refine x_aload_n (pc := 0) dX1_clear_0 rfl ?_
  refine x_bipush (pc := 1) (v := (60 : Int32)) dX1_clear_1 (by decide) ?_
  refine x_putf (pc := 3) (e' := ruC (upd r 0 (60 : Int32))) dX1_clear_3 xf_X1_9 hAt_same rfl rfl rfl rfl ?_
  refine Wp.eqh (h' := (hSet h rr (ruC (upd r 0 (60 : Int32))))) (hSet_set) ?_
  refine x_aload_n (pc := 6) dX1_clear_6 rfl ?_
  refine x_sipush (pc := 7) (v := (900 : Int32)) dX1_clear_7 (by decide) ?_
  refine x_putf (pc := 10) (e' := ruC (upd (upd r 0 (60 : Int32)) 1 (900 : Int32))) dX1_clear_10 xf_X1_15 hAt_same rfl rfl rfl rfl ?_
  refine Wp.eqh (h' := (hSet h rr (ruC (upd (upd r 0 (60 : Int32)) 1 (900 : Int32))))) (hSet_set) ?_
  refine x_aload_n (pc := 13) dX1_clear_13 rfl ?_
  refine x_bipush (pc := 14) (v := (20 : Int32)) dX1_clear_14 (by decide) ?_
  refine x_putf (pc := 16) (e' := ruC (upd (upd (upd r 0 (60 : Int32)) 1 (900 : Int32)) 2 (20 : Int32))) dX1_clear_16 xf_X1_18 hAt_same rfl rfl rfl rfl ?_
  refine Wp.eqh (h' := (hSet h rr (ruC (upd (upd (upd r 0 (60 : Int32)) 1 (900 : Int32)) 2 (20 : Int32))))) (hSet_set) ?_
  refine x_aload_n (pc := 19) dX1_clear_19 rfl ?_
  refine x_iconst (pc := 20) (v := (1 : Int32)) dX1_clear_20 (by decide) ?_
  refine x_putf (pc := 21) (e' := ruC (upd (upd (upd (upd r 0 (60 : Int32)) 1 (900 : Int32)) 2 (20 : Int32)) 3 (1 : Int32))) dX1_clear_21 xf_X1_21 hAt_same rfl rfl rfl rfl ?_
  refine Wp.eqh (h' := (hSet h rr (ruC (upd (upd (upd (upd r 0 (60 : Int32)) 1 (900 : Int32)) 2 (20 : Int32)) 3 (1 : Int32))))) (hSet_set) ?_
  refine x_aload_n (pc := 24) dX1_clear_24 rfl ?_
  refine x_iconst (pc := 25) (v := (0 : Int32)) dX1_clear_25 (by decide) ?_
  refine x_putf (pc := 26) (e' := ruC (upd (upd (upd (upd (upd r 0 (60 : Int32)) 1 (900 : Int32)) 2 (20 : Int32)) 3 (1 : Int32)) 4 (0 : Int32))) dX1_clear_26 xf_X1_24 hAt_same rfl rfl rfl rfl ?_
  refine Wp.eqh (h' := (hSet h rr (ruC (upd (upd (upd (upd (upd r 0 (60 : Int32)) 1 (900 : Int32)) 2 (20 : Int32)) 3 (1 : Int32)) 4 (0 : Int32))))) (hSet_set) ?_
  subst er
  exact x_vret (pc := 29) dX1_clear_29 rfl rfl rfl ⟨rfl, rfl⟩

def f_X1_copy (r ro_ : Nat → Int32) : (Nat → Int32) := (upd (upd (upd (upd (upd r 0 (ro_ 0)) 1 (ro_ 1)) 2 (ro_ 2)) 3 (ro_ 3)) 4 (ro_ 4))
set_option maxRecDepth 100000 in
set_option maxHeartbeats 4000000 in
theorem C_X1_copy (G : xG) (h : xH) (rr ro : Nat) (r ro_ : Nat → Int32) (k_rr : hAt h rr = some (ruC r)) (k_ro : hAt h ro = some (ruC ro_)) (n_rr_ro : rr ≠ ro) : Cd G 0 yX1_copy cX1_copy 2 none [.ref rr, .ref ro] h none (hSet h rr (ruC (f_X1_copy r ro_))) := by
  have n_ro_rr : ro ≠ rr := Ne.symm n_rr_ro
  refine Ct.of (by decide) (by rfl) ?_
  refine Wp.eqs (L' := [(0, .ref rr), (1, .ref ro)]) (st' := []) rfl rfl ?_
  refine Wp.eqh (h' := (hSet h rr (ruC r))) (by rw [hSet_self k_rr]) ?_
  obtain ⟨R, er⟩ : ∃ R, f_X1_copy r ro_ = R := ⟨_, rfl⟩
  rw [er]
  unfold f_X1_copy at er
  refine x_aload_n (pc := 0) dX1_copy_0 rfl ?_
  refine x_aload_n (pc := 1) dX1_copy_1 rfl ?_
  refine x_getf (pc := 2) (v := .int (ro_ 0)) dX1_copy_2 xf_X1_9 (hAt_n n_ro_rr k_ro) rfl ?_
  refine x_putf (pc := 5) (e' := ruC (upd r 0 (ro_ 0))) dX1_copy_5 xf_X1_9 hAt_same rfl rfl rfl rfl ?_
  refine Wp.eqh (h' := (hSet h rr (ruC (upd r 0 (ro_ 0))))) (hSet_set) ?_
  refine x_aload_n (pc := 8) dX1_copy_8 rfl ?_
  refine x_aload_n (pc := 9) dX1_copy_9 rfl ?_
  refine x_getf (pc := 10) (v := .int (ro_ 1)) dX1_copy_10 xf_X1_15 (hAt_n n_ro_rr k_ro) rfl ?_
  refine x_putf (pc := 13) (e' := ruC (upd (upd r 0 (ro_ 0)) 1 (ro_ 1))) dX1_copy_13 xf_X1_15 hAt_same rfl rfl rfl rfl ?_
  refine Wp.eqh (h' := (hSet h rr (ruC (upd (upd r 0 (ro_ 0)) 1 (ro_ 1))))) (hSet_set) ?_
  refine x_aload_n (pc := 16) dX1_copy_16 rfl ?_
  refine x_aload_n (pc := 17) dX1_copy_17 rfl ?_
  refine x_getf (pc := 18) (v := .int (ro_ 2)) dX1_copy_18 xf_X1_18 (hAt_n n_ro_rr k_ro) rfl ?_
  refine x_putf (pc := 21) (e' := ruC (upd (upd (upd r 0 (ro_ 0)) 1 (ro_ 1)) 2 (ro_ 2))) dX1_copy_21 xf_X1_18 hAt_same rfl rfl rfl rfl ?_
  refine Wp.eqh (h' := (hSet h rr (ruC (upd (upd (upd r 0 (ro_ 0)) 1 (ro_ 1)) 2 (ro_ 2))))) (hSet_set) ?_
  refine x_aload_n (pc := 24) dX1_copy_24 rfl ?_
  refine x_aload_n (pc := 25) dX1_copy_25 rfl ?_
  refine x_getf (pc := 26) (v := .int (ro_ 3)) dX1_copy_26 xf_X1_21 (hAt_n n_ro_rr k_ro) rfl ?_
  refine x_putf (pc := 29) (e' := ruC (upd (upd (upd (upd r 0 (ro_ 0)) 1 (ro_ 1)) 2 (ro_ 2)) 3 (ro_ 3))) dX1_copy_29 xf_X1_21 hAt_same rfl rfl rfl rfl ?_
  refine Wp.eqh (h' := (hSet h rr (ruC (upd (upd (upd (upd r 0 (ro_ 0)) 1 (ro_ 1)) 2 (ro_ 2)) 3 (ro_ 3))))) (hSet_set) ?_
  refine x_aload_n (pc := 32) dX1_copy_32 rfl ?_
  refine x_aload_n (pc := 33) dX1_copy_33 rfl ?_
  refine x_getf (pc := 34) (v := .int (ro_ 4)) dX1_copy_34 xf_X1_24 (hAt_n n_ro_rr k_ro) rfl ?_
  refine x_putf (pc := 37) (e' := ruC (upd (upd (upd (upd (upd r 0 (ro_ 0)) 1 (ro_ 1)) 2 (ro_ 2)) 3 (ro_ 3)) 4 (ro_ 4))) dX1_copy_37 xf_X1_24 hAt_same rfl rfl rfl rfl ?_
  refine Wp.eqh (h' := (hSet h rr (ruC (upd (upd (upd (upd (upd r 0 (ro_ 0)) 1 (ro_ 1)) 2 (ro_ 2)) 3 (ro_ 3)) 4 (ro_ 4))))) (hSet_set) ?_
  subst er
  exact x_vret (pc := 40) dX1_copy_40 rfl rfl rfl ⟨rfl, rfl⟩

def f_X1_trusts (r : Nat → Int32) (told size : Int32) : Int32 := (if (r 3) = (0 : Int32) then (1 : Int32) else (if (r 3) = (1 : Int32) then ((if told < (r 0) then (0 : Int32) else (if size ≤ told then (0 : Int32) else (1 : Int32)))) else (0 : Int32)))
set_option maxRecDepth 100000 in
set_option maxHeartbeats 4000000 in
theorem C_X1_trusts (G : xG) (h : xH) (rr : Nat) (r : Nat → Int32) (told size : Int32) (k_rr : hAt h rr = some (ruC r)) : Cd G 0 yX1_trusts cX1_trusts 3 (some .boolean) [.ref rr, .int told, .int size] h (some (.int (f_X1_trusts r told size))) h := by
  refine Ct.of (by decide) (by rfl) ?_
  refine Wp.eqs (L' := [(0, .ref rr), (1, .int told), (2, .int size)]) (st' := []) rfl rfl ?_
  obtain ⟨R, er⟩ : ∃ R, f_X1_trusts r told size = R := ⟨_, rfl⟩
  rw [er]
  unfold f_X1_trusts at er
  refine x_aload_n (pc := 0) dX1_trusts_0 rfl ?_
  refine x_getf (pc := 1) (v := .int (r 3)) dX1_trusts_1 xf_X1_21 k_rr rfl ?_
  by_cases c1 : (r 3) = (0 : Int32)
  · rw [if_pos c1] at er
    refine x_lookup (pc := 4) (off := 28) (tgt := 32) dX1_trusts_4 (by decide) (by rw [c1]; decide) (by decide) ?_
    refine x_iconst (pc := 32) (v := (1 : Int32)) dX1_trusts_32 (by decide) ?_
    subst er
    exact x_iret (pc := 33) dX1_trusts_33 rfl rfl rfl rfl ⟨rfl, rfl⟩
  rw [if_neg c1] at er
  by_cases c2 : (r 3) = (1 : Int32)
  · rw [if_pos c2] at er
    refine x_lookup (pc := 4) (off := 30) (tgt := 34) dX1_trusts_4 (by decide) (by rw [c2]; decide) (by decide) ?_
    refine x_iload_n (pc := 34) dX1_trusts_34 rfl ?_
    refine x_aload_n (pc := 35) dX1_trusts_35 rfl ?_
    refine x_getf (pc := 36) (v := .int (r 0)) dX1_trusts_36 xf_X1_9 k_rr rfl ?_
    obtain ⟨F1, eF1⟩ : ∃ F, (if told < (r 0) then (0 : Int32) else (if size ≤ told then (0 : Int32) else (1 : Int32))) = F := ⟨_, rfl⟩
    try rw [eF1] at er
    have bF1 : xB F1 := by rw [← eF1]; exact (xB_ite xB0 (xB_ite xB0 xB1))
    refine x_mrg (pc' := 52) (L' := [(0, .ref rr), (1, .int told), (2, .int size)]) (st' := [.int F1]) (h' := h) (fun J => ?_) ?_
    · refine x_icmp_lt (pc := 39) (tgt := 51) dX1_trusts_39 (by decide) (fun (c3 : told < (r 0)) => ?_) (fun (c3 : ¬ (told < (r 0))) => ?_)
      · refine x_iconst (pc := 51) (v := (0 : Int32)) dX1_trusts_51 (by decide) ?_
        rw [if_pos c3] at eF1
        subst eF1
        exact J
      · refine x_iload_n (pc := 42) dX1_trusts_42 rfl ?_
        refine x_iload_n (pc := 43) dX1_trusts_43 rfl ?_
        refine x_icmp_ge (pc := 44) (tgt := 51) dX1_trusts_44 (by decide) (fun (c4 : size ≤ told) => ?_) (fun (c4 : ¬ (size ≤ told)) => ?_)
        · refine x_iconst (pc := 51) (v := (0 : Int32)) dX1_trusts_51 (by decide) ?_
          rw [if_neg c3, if_pos c4] at eF1
          subst eF1
          exact J
        · refine x_iconst (pc := 47) (v := (1 : Int32)) dX1_trusts_47 (by decide) ?_
          refine x_goto (pc := 48) (tgt := 52) dX1_trusts_48 (by decide) ?_
          rw [if_neg c3, if_neg c4] at eF1
          subst eF1
          exact J
    subst er
    exact x_iret (pc := 52) dX1_trusts_52 rfl (xb_nar bF1) rfl rfl ⟨rfl, rfl⟩
  rw [if_neg c2] at er
  refine x_lookup (pc := 4) (off := 49) (tgt := 53) dX1_trusts_4 (by decide) (by have zc1 := xneL c1 (z := 0) rfl; have zc2 := xneL c2 (z := 1) rfl; simp [Op.lookupswitch.offset]; omega) (by decide) ?_
  refine x_iconst (pc := 53) (v := (0 : Int32)) dX1_trusts_53 (by decide) ?_
  subst er
  exact x_iret (pc := 54) dX1_trusts_54 rfl rfl rfl rfl ⟨rfl, rfl⟩
theorem B_X1_trusts (r : Nat → Int32) (told size : Int32) : xB (f_X1_trusts r told size) := by
  unfold f_X1_trusts
  exact (xB_ite xB1 (xB_ite (xB_ite xB0 (xB_ite xB0 xB1)) xB0))

def f_X3_isNarrowed (w : Nat → Int32) : Int32 := ((if (w 0) = (w 1) then (1 : Int32) else (0 : Int32)))
set_option maxRecDepth 100000 in
set_option maxHeartbeats 4000000 in
theorem C_X3_isNarrowed (G : xG) (h : xH) (a la ka : Nat) (w : Nat → Int32) (k_a : hAt h a = some (waC la ka w)) : Cd G 0 yX3_isNarrowed cX3_isNarrowed 1 (some .boolean) [.ref a] h (some (.int (f_X3_isNarrowed w))) h := by
  refine Ct.of (by decide) (by rfl) ?_
  refine Wp.eqs (L' := [(0, .ref a)]) (st' := []) rfl rfl ?_
  obtain ⟨R, er⟩ : ∃ R, f_X3_isNarrowed w = R := ⟨_, rfl⟩
  rw [er]
  unfold f_X3_isNarrowed at er
  refine x_aload_n (pc := 0) dX3_isNarrowed_0 rfl ?_
  refine x_getf (pc := 1) (v := .int (w 0)) dX3_isNarrowed_1 xf_X3_33 k_a rfl ?_
  refine x_aload_n (pc := 4) dX3_isNarrowed_4 rfl ?_
  refine x_getf (pc := 5) (v := .int (w 1)) dX3_isNarrowed_5 xf_X3_39 k_a rfl ?_
  obtain ⟨F1, eF1⟩ : ∃ F, (if (w 0) = (w 1) then (1 : Int32) else (0 : Int32)) = F := ⟨_, rfl⟩
  try rw [eF1] at er
  have bF1 : xB F1 := by rw [← eF1]; exact (xB_ite xB1 xB0)
  refine x_mrg (pc' := 16) (L' := [(0, .ref a)]) (st' := [.int F1]) (h' := h) (fun J => ?_) ?_
  · refine x_icmp_ne (pc := 8) (tgt := 15) dX3_isNarrowed_8 (by decide) (fun (c1 : ¬ ((w 0) = (w 1))) => ?_) (fun (c1 : (w 0) = (w 1)) => ?_)
    · refine x_iconst (pc := 15) (v := (0 : Int32)) dX3_isNarrowed_15 (by decide) ?_
      rw [if_neg c1] at eF1
      subst eF1
      exact J
    · refine x_iconst (pc := 11) (v := (1 : Int32)) dX3_isNarrowed_11 (by decide) ?_
      refine x_goto (pc := 12) (tgt := 16) dX3_isNarrowed_12 (by decide) ?_
      rw [if_pos c1] at eF1
      subst eF1
      exact J
  subst er
  exact x_iret (pc := 16) dX3_isNarrowed_16 rfl (xb_nar bF1) rfl rfl ⟨rfl, rfl⟩
theorem B_X3_isNarrowed (w : Nat → Int32) : xB (f_X3_isNarrowed w) := by
  unfold f_X3_isNarrowed
  exact (xB_ite xB1 xB0)

def f_X3_probeSize (w : Nat → Int32) : Int32 := ((w 0) + ((((w 1) - (w 0)) + (1 : Int32)) / (2 : Int32)))
set_option maxRecDepth 100000 in
set_option maxHeartbeats 4000000 in
theorem C_X3_probeSize (G : xG) (h : xH) (a la ka : Nat) (w : Nat → Int32) (k_a : hAt h a = some (waC la ka w)) : Cd G 0 yX3_probeSize cX3_probeSize 1 (some .int) [.ref a] h (some (.int (f_X3_probeSize w))) h := by
  refine Ct.of (by decide) (by rfl) ?_
  refine Wp.eqs (L' := [(0, .ref a)]) (st' := []) rfl rfl ?_
  obtain ⟨R, er⟩ : ∃ R, f_X3_probeSize w = R := ⟨_, rfl⟩
  rw [er]
  unfold f_X3_probeSize at er
  refine x_aload_n (pc := 0) dX3_probeSize_0 rfl ?_
  refine x_getf (pc := 1) (v := .int (w 0)) dX3_probeSize_1 xf_X3_33 k_a rfl ?_
  refine x_aload_n (pc := 4) dX3_probeSize_4 rfl ?_
  refine x_getf (pc := 5) (v := .int (w 1)) dX3_probeSize_5 xf_X3_39 k_a rfl ?_
  refine x_aload_n (pc := 8) dX3_probeSize_8 rfl ?_
  refine x_getf (pc := 9) (v := .int (w 0)) dX3_probeSize_9 xf_X3_33 k_a rfl ?_
  refine x_isub (pc := 12) dX3_probeSize_12 ?_
  refine x_iconst (pc := 13) (v := (1 : Int32)) dX3_probeSize_13 (by decide) ?_
  refine x_iadd (pc := 14) dX3_probeSize_14 ?_
  refine x_iconst (pc := 15) (v := (2 : Int32)) dX3_probeSize_15 (by decide) ?_
  refine x_idiv (pc := 16) dX3_probeSize_16 (by decide) ?_
  refine x_iadd (pc := 17) dX3_probeSize_17 ?_
  subst er
  exact x_iret (pc := 18) dX3_probeSize_18 rfl rfl rfl rfl ⟨rfl, rfl⟩

def f_X3_clear (w : Nat → Int32) (np : Int32) : (Nat → Int32) := (upd (upd (upd w 24 np) 11 (0 : Int32)) 10 (0 : Int32))
set_option maxRecDepth 100000 in
set_option maxHeartbeats 4000000 in
theorem C_X3_clear (G : xG) (h : xH) (a la ka : Nat) (w : Nat → Int32) (np : Int32) (k_a : hAt h a = some (waC la ka w)) : Cd G 0 yX3_clear cX3_clear 2 none [.ref a, .int np] h none (hSet h a (waC la ka (f_X3_clear w np))) := by
  refine Ct.of (by decide) (by rfl) ?_
  refine Wp.eqs (L' := [(0, .ref a), (1, .int np)]) (st' := []) rfl rfl ?_
  refine Wp.eqh (h' := (hSet h a (waC la ka w))) (by rw [hSet_self k_a]) ?_
  obtain ⟨R, er⟩ : ∃ R, f_X3_clear w np = R := ⟨_, rfl⟩
  rw [er]
  unfold f_X3_clear at er
  refine x_aload_n (pc := 0) dX3_clear_0 rfl ?_
  refine x_iload_n (pc := 1) dX3_clear_1 rfl ?_
  refine x_putf (pc := 2) (e' := waC la ka (upd w 24 np)) dX3_clear_2 xf_X3_18 hAt_same rfl rfl rfl rfl ?_
  refine Wp.eqh (h' := (hSet h a (waC la ka (upd w 24 np)))) (hSet_set) ?_
  refine x_aload_n (pc := 5) dX3_clear_5 rfl ?_
  refine x_iconst (pc := 6) (v := (0 : Int32)) dX3_clear_6 (by decide) ?_
  refine x_putf (pc := 7) (e' := waC la ka (upd (upd w 24 np) 11 (0 : Int32))) dX3_clear_7 xf_X3_22 hAt_same rfl rfl rfl rfl ?_
  refine Wp.eqh (h' := (hSet h a (waC la ka (upd (upd w 24 np) 11 (0 : Int32))))) (hSet_set) ?_
  refine x_aload_n (pc := 10) dX3_clear_10 rfl ?_
  refine x_iconst (pc := 11) (v := (0 : Int32)) dX3_clear_11 (by decide) ?_
  refine x_putf (pc := 12) (e' := waC la ka (upd (upd (upd w 24 np) 11 (0 : Int32)) 10 (0 : Int32))) dX3_clear_12 xf_X3_25 hAt_same rfl rfl rfl rfl ?_
  refine Wp.eqh (h' := (hSet h a (waC la ka (upd (upd (upd w 24 np) 11 (0 : Int32)) 10 (0 : Int32))))) (hSet_set) ?_
  subst er
  exact x_vret (pc := 15) dX3_clear_15 rfl rfl rfl ⟨rfl, rfl⟩

def f_X3_addHop (w lf kf : Nat → Int32) (nl nk : Int32) : Int32 × (Nat → Int32) × (Nat → Int32) × (Nat → Int32) := (if (w 11) < (6 : Int32) then ((1 : Int32), (upd w 11 ((w 11) + (1 : Int32))), (upd lf ((w 11).toNatClampNeg) nl), (upd kf ((w 11).toNatClampNeg) nk)) else ((0 : Int32), w, lf, kf))
def p_X3_addHop (w lf kf : Nat → Int32) (nl nk : Int32) : Prop := (((w 11) < (6 : Int32) → (vp_in (w 11) 6 ∧ (vp_in (w 11) 6 ∧ True))) ∧ (¬ ((w 11) < (6 : Int32)) → True))
set_option maxRecDepth 100000 in
set_option maxHeartbeats 4000000 in
theorem C_X3_addHop (G : xG) (h : xH) (a la ka : Nat) (w lf kf : Nat → Int32) (nl nk : Int32) (k_a : hAt h a = some (waC la ka w)) (k_la : hAt h la = some (arI 6 lf)) (k_ka : hAt h ka = some (arI 6 kf)) (n_la_ka : la ≠ ka) (hp : p_X3_addHop w lf kf nl nk) : Cd G 0 yX3_addHop cX3_addHop 3 (some .boolean) [.ref a, .int nl, .int nk] h (some (.int (f_X3_addHop w lf kf nl nk).1)) (hSet (hSet (hSet h a (waC la ka (f_X3_addHop w lf kf nl nk).2.1)) la (arI 6 (f_X3_addHop w lf kf nl nk).2.2.1)) ka (arI 6 (f_X3_addHop w lf kf nl nk).2.2.2)) := by
  have n_a_ka : a ≠ ka := hne_k k_a k_ka rfl
  have n_a_la : a ≠ la := hne_k k_a k_la rfl
  refine Ct.of (by decide) (by rfl) ?_
  refine Wp.eqs (L' := [(0, .ref a), (1, .int nl), (2, .int nk)]) (st' := []) rfl rfl ?_
  refine Wp.eqh (h' := (hSet (hSet (hSet h a (waC la ka w)) la (arI 6 lf)) ka (arI 6 kf))) (by rw [hSet_self k_a, hSet_self k_la, hSet_self k_ka]) ?_
  obtain ⟨R, er⟩ : ∃ R, f_X3_addHop w lf kf nl nk = R := ⟨_, rfl⟩
  rw [er]
  unfold f_X3_addHop at er
  unfold p_X3_addHop at hp
  refine x_aload_n (pc := 0) dX3_addHop_0 rfl ?_
  refine x_getf (pc := 1) (v := .int (w 11)) dX3_addHop_1 xf_X3_22 (hAt_n n_a_ka (hAt_n n_a_la hAt_same)) rfl ?_
  refine x_bipush (pc := 4) (v := (6 : Int32)) dX3_addHop_4 (by decide) ?_
  refine x_icmp_lt (pc := 6) (tgt := 11) dX3_addHop_6 (by decide) (fun (c1 : (w 11) < (6 : Int32)) => ?_) (fun (c1 : ¬ ((w 11) < (6 : Int32))) => ?_)
  · rw [if_pos c1] at er
    replace hp := hp.1 c1
    refine x_aload_n (pc := 11) dX3_addHop_11 rfl ?_
    refine x_getf (pc := 12) (v := .ref la) dX3_addHop_12 xf_X3_9 (hAt_n n_a_ka (hAt_n n_a_la hAt_same)) rfl ?_
    refine x_aload_n (pc := 15) dX3_addHop_15 rfl ?_
    refine x_getf (pc := 16) (v := .int (w 11)) dX3_addHop_16 xf_X3_22 (hAt_n n_a_ka (hAt_n n_a_la hAt_same)) rfl ?_
    refine x_iload_n (pc := 19) dX3_addHop_19 rfl ?_
    obtain ⟨q20, hp⟩ := hp
    refine x_iast (pc := 20) (e' := arI 6 (upd lf ((w 11).toNatClampNeg) nl)) dX3_addHop_20 (hAt_n n_la_ka hAt_same) q20 (j := ((w 11).toNatClampNeg)) rfl rfl ?_
    refine Wp.eqh (h' := (hSet (hSet (hSet h a (waC la ka w)) la (arI 6 (upd lf ((w 11).toNatClampNeg) nl))) ka (arI 6 kf))) (hSet_sw1 n_la_ka) ?_
    refine x_aload_n (pc := 21) dX3_addHop_21 rfl ?_
    refine x_getf (pc := 22) (v := .ref ka) dX3_addHop_22 xf_X3_15 (hAt_n n_a_ka (hAt_n n_a_la hAt_same)) rfl ?_
    refine x_aload_n (pc := 25) dX3_addHop_25 rfl ?_
    refine x_getf (pc := 26) (v := .int (w 11)) dX3_addHop_26 xf_X3_22 (hAt_n n_a_ka (hAt_n n_a_la hAt_same)) rfl ?_
    refine x_iload_n (pc := 29) dX3_addHop_29 rfl ?_
    obtain ⟨q30, hp⟩ := hp
    refine x_iast (pc := 30) (e' := arI 6 (upd kf ((w 11).toNatClampNeg) nk)) dX3_addHop_30 hAt_same q30 (j := ((w 11).toNatClampNeg)) rfl rfl ?_
    refine Wp.eqh (h' := (hSet (hSet (hSet h a (waC la ka w)) la (arI 6 (upd lf ((w 11).toNatClampNeg) nl))) ka (arI 6 (upd kf ((w 11).toNatClampNeg) nk)))) (hSet_set) ?_
    refine x_aload_n (pc := 31) dX3_addHop_31 rfl ?_
    refine x_dup (pc := 32) dX3_addHop_32 rfl ?_
    refine x_getf (pc := 33) (v := .int (w 11)) dX3_addHop_33 xf_X3_22 (hAt_n n_a_ka (hAt_n n_a_la hAt_same)) rfl ?_
    refine x_iconst (pc := 36) (v := (1 : Int32)) dX3_addHop_36 (by decide) ?_
    refine x_iadd (pc := 37) dX3_addHop_37 ?_
    refine x_putf (pc := 38) (e' := waC la ka (upd w 11 ((w 11) + (1 : Int32)))) dX3_addHop_38 xf_X3_22 (hAt_n n_a_ka (hAt_n n_a_la hAt_same)) rfl rfl rfl rfl ?_
    refine Wp.eqh (h' := (hSet (hSet (hSet h a (waC la ka (upd w 11 ((w 11) + (1 : Int32))))) la (arI 6 (upd lf ((w 11).toNatClampNeg) nl))) ka (arI 6 (upd kf ((w 11).toNatClampNeg) nk)))) (hSet_sw2 n_a_la n_a_ka) ?_
    refine x_iconst (pc := 41) (v := (1 : Int32)) dX3_addHop_41 (by decide) ?_
    subst er
    exact x_iret (pc := 42) dX3_addHop_42 rfl rfl rfl rfl ⟨rfl, rfl⟩
  · rw [if_neg c1] at er
    replace hp := hp.2 c1
    refine x_iconst (pc := 9) (v := (0 : Int32)) dX3_addHop_9 (by decide) ?_
    subst er
    exact x_iret (pc := 10) dX3_addHop_10 rfl rfl rfl rfl ⟨rfl, rfl⟩
theorem B_X3_addHop (w lf kf : Nat → Int32) (nl nk : Int32) : xB (f_X3_addHop w lf kf nl nk).1 := by
  unfold f_X3_addHop
  exact (xB_ite1 (xB_fst xB1) (xB_fst xB0))

def f_X3_begin (w r : Nat → Int32) : (Nat → Int32) := (upd (upd (upd (upd (upd (upd (upd (upd (upd (upd w 0 (r 0)) 1 (r 1)) 2 ((if (f_X3_isNarrowed (upd (upd w 0 (r 0)) 1 (r 1))) = 0 then (0 : Int32) else (1 : Int32)))) 3 (0 : Int32)) 4 (0 : Int32)) 5 (0 : Int32)) 6 (0 : Int32)) 7 (0 : Int32)) 8 (0 : Int32)) 9 (0 : Int32))
set_option maxRecDepth 100000 in
set_option maxHeartbeats 4000000 in
theorem C_X3_begin (G : xG) (h : xH) (a rr la ka : Nat) (w r : Nat → Int32) (k_a : hAt h a = some (waC la ka w)) (k_rr : hAt h rr = some (ruC r)) : Cd G 1 yX3_begin cX3_begin 2 none [.ref a, .ref rr] h none (hSet h a (waC la ka (f_X3_begin w r))) := by
  have n_rr_a : rr ≠ a := hne_k k_rr k_a rfl
  refine Ct.of (by decide) (by rfl) ?_
  refine Wp.eqs (L' := [(0, .ref a), (1, .ref rr)]) (st' := []) rfl rfl ?_
  refine Wp.eqh (h' := (hSet h a (waC la ka w))) (by rw [hSet_self k_a]) ?_
  obtain ⟨R, er⟩ : ∃ R, f_X3_begin w r = R := ⟨_, rfl⟩
  rw [er]
  unfold f_X3_begin at er
  refine x_aload_n (pc := 0) dX3_begin_0 rfl ?_
  refine x_aload_n (pc := 1) dX3_begin_1 rfl ?_
  refine x_getf (pc := 2) (v := .int (r 0)) dX3_begin_2 xf_X3_28 (hAt_n n_rr_a k_rr) rfl ?_
  refine x_putf (pc := 5) (e' := waC la ka (upd w 0 (r 0))) dX3_begin_5 xf_X3_33 hAt_same rfl rfl rfl rfl ?_
  refine Wp.eqh (h' := (hSet h a (waC la ka (upd w 0 (r 0))))) (hSet_set) ?_
  refine x_aload_n (pc := 8) dX3_begin_8 rfl ?_
  refine x_aload_n (pc := 9) dX3_begin_9 rfl ?_
  refine x_getf (pc := 10) (v := .int (r 1)) dX3_begin_10 xf_X3_36 (hAt_n n_rr_a k_rr) rfl ?_
  refine x_putf (pc := 13) (e' := waC la ka (upd (upd w 0 (r 0)) 1 (r 1))) dX3_begin_13 xf_X3_39 hAt_same rfl rfl rfl rfl ?_
  refine Wp.eqh (h' := (hSet h a (waC la ka (upd (upd w 0 (r 0)) 1 (r 1))))) (hSet_set) ?_
  refine x_aload_n (pc := 16) dX3_begin_16 rfl ?_
  refine x_aload_n (pc := 17) dX3_begin_17 rfl ?_
  refine x_cV0i (pc := 18) dX3_begin_18 xl_X3_42 xv_X3_isNarrowed hAt_same rfl (C_X3_isNarrowed G _ a la ka (upd (upd w 0 (r 0)) 1 (r 1)) hAt_same) rfl rfl rfl ?_
  obtain ⟨F1, eF1⟩ : ∃ F, f_X3_isNarrowed (upd (upd w 0 (r 0)) 1 (r 1)) = F := ⟨_, rfl⟩
  rw [eF1]
  try rw [eF1] at er
  have bF1 : xB F1 := by rw [← eF1]; exact (B_X3_isNarrowed _)
  obtain ⟨F2, eF2⟩ : ∃ F, (if F1 = 0 then (0 : Int32) else (1 : Int32)) = F := ⟨_, rfl⟩
  try rw [eF2] at er
  have bF2 : xB F2 := by rw [← eF2]; exact (xB_ite xB0 xB1)
  refine x_mrg (pc' := 29) (L' := [(0, .ref a), (1, .ref rr)]) (st' := [.int F2, .ref a]) (h' := (hSet h a (waC la ka (upd (upd w 0 (r 0)) 1 (r 1))))) (fun J => ?_) ?_
  · refine x_if_eq (pc := 21) (tgt := 28) dX3_begin_21 (by decide) (fun (c1 : F1 = 0) => ?_) (fun (c1 : ¬ (F1 = 0)) => ?_)
    · refine x_iconst (pc := 28) (v := (0 : Int32)) dX3_begin_28 (by decide) ?_
      rw [if_pos c1] at eF2
      subst eF2
      exact J
    · refine x_iconst (pc := 24) (v := (1 : Int32)) dX3_begin_24 (by decide) ?_
      refine x_goto (pc := 25) (tgt := 29) dX3_begin_25 (by decide) ?_
      rw [if_neg c1] at eF2
      subst eF2
      exact J
  refine x_putf (pc := 29) (e' := waC la ka (upd (upd (upd w 0 (r 0)) 1 (r 1)) 2 F2)) dX3_begin_29 xf_X3_46 hAt_same rfl rfl rfl rfl ?_
  refine Wp.eqh (h' := (hSet h a (waC la ka (upd (upd (upd w 0 (r 0)) 1 (r 1)) 2 F2)))) (hSet_set) ?_
  refine x_aload_n (pc := 32) dX3_begin_32 rfl ?_
  refine x_iconst (pc := 33) (v := (0 : Int32)) dX3_begin_33 (by decide) ?_
  refine x_putf (pc := 34) (e' := waC la ka (upd (upd (upd (upd w 0 (r 0)) 1 (r 1)) 2 F2) 3 (0 : Int32))) dX3_begin_34 xf_X3_49 hAt_same rfl rfl rfl rfl ?_
  refine Wp.eqh (h' := (hSet h a (waC la ka (upd (upd (upd (upd w 0 (r 0)) 1 (r 1)) 2 F2) 3 (0 : Int32))))) (hSet_set) ?_
  refine x_aload_n (pc := 37) dX3_begin_37 rfl ?_
  refine x_iconst (pc := 38) (v := (0 : Int32)) dX3_begin_38 (by decide) ?_
  refine x_putf (pc := 39) (e' := waC la ka (upd (upd (upd (upd (upd w 0 (r 0)) 1 (r 1)) 2 F2) 3 (0 : Int32)) 4 (0 : Int32))) dX3_begin_39 xf_X3_52 hAt_same rfl rfl rfl rfl ?_
  refine Wp.eqh (h' := (hSet h a (waC la ka (upd (upd (upd (upd (upd w 0 (r 0)) 1 (r 1)) 2 F2) 3 (0 : Int32)) 4 (0 : Int32))))) (hSet_set) ?_
  refine x_aload_n (pc := 42) dX3_begin_42 rfl ?_
  refine x_iconst (pc := 43) (v := (0 : Int32)) dX3_begin_43 (by decide) ?_
  refine x_putf (pc := 44) (e' := waC la ka (upd (upd (upd (upd (upd (upd w 0 (r 0)) 1 (r 1)) 2 F2) 3 (0 : Int32)) 4 (0 : Int32)) 5 (0 : Int32))) dX3_begin_44 xf_X3_55 hAt_same rfl rfl rfl rfl ?_
  refine Wp.eqh (h' := (hSet h a (waC la ka (upd (upd (upd (upd (upd (upd w 0 (r 0)) 1 (r 1)) 2 F2) 3 (0 : Int32)) 4 (0 : Int32)) 5 (0 : Int32))))) (hSet_set) ?_
  refine x_aload_n (pc := 47) dX3_begin_47 rfl ?_
  refine x_iconst (pc := 48) (v := (0 : Int32)) dX3_begin_48 (by decide) ?_
  refine x_putf (pc := 49) (e' := waC la ka (upd (upd (upd (upd (upd (upd (upd w 0 (r 0)) 1 (r 1)) 2 F2) 3 (0 : Int32)) 4 (0 : Int32)) 5 (0 : Int32)) 6 (0 : Int32))) dX3_begin_49 xf_X3_58 hAt_same rfl rfl rfl rfl ?_
  refine Wp.eqh (h' := (hSet h a (waC la ka (upd (upd (upd (upd (upd (upd (upd w 0 (r 0)) 1 (r 1)) 2 F2) 3 (0 : Int32)) 4 (0 : Int32)) 5 (0 : Int32)) 6 (0 : Int32))))) (hSet_set) ?_
  refine x_aload_n (pc := 52) dX3_begin_52 rfl ?_
  refine x_iconst (pc := 53) (v := (0 : Int32)) dX3_begin_53 (by decide) ?_
  refine x_putf (pc := 54) (e' := waC la ka (upd (upd (upd (upd (upd (upd (upd (upd w 0 (r 0)) 1 (r 1)) 2 F2) 3 (0 : Int32)) 4 (0 : Int32)) 5 (0 : Int32)) 6 (0 : Int32)) 7 (0 : Int32))) dX3_begin_54 xf_X3_61 hAt_same rfl rfl rfl rfl ?_
  refine Wp.eqh (h' := (hSet h a (waC la ka (upd (upd (upd (upd (upd (upd (upd (upd w 0 (r 0)) 1 (r 1)) 2 F2) 3 (0 : Int32)) 4 (0 : Int32)) 5 (0 : Int32)) 6 (0 : Int32)) 7 (0 : Int32))))) (hSet_set) ?_
  refine x_aload_n (pc := 57) dX3_begin_57 rfl ?_
  refine x_iconst (pc := 58) (v := (0 : Int32)) dX3_begin_58 (by decide) ?_
  refine x_putf (pc := 59) (e' := waC la ka (upd (upd (upd (upd (upd (upd (upd (upd (upd w 0 (r 0)) 1 (r 1)) 2 F2) 3 (0 : Int32)) 4 (0 : Int32)) 5 (0 : Int32)) 6 (0 : Int32)) 7 (0 : Int32)) 8 (0 : Int32))) dX3_begin_59 xf_X3_64 hAt_same rfl rfl rfl rfl ?_
  refine Wp.eqh (h' := (hSet h a (waC la ka (upd (upd (upd (upd (upd (upd (upd (upd (upd w 0 (r 0)) 1 (r 1)) 2 F2) 3 (0 : Int32)) 4 (0 : Int32)) 5 (0 : Int32)) 6 (0 : Int32)) 7 (0 : Int32)) 8 (0 : Int32))))) (hSet_set) ?_
  refine x_aload_n (pc := 62) dX3_begin_62 rfl ?_
  refine x_iconst (pc := 63) (v := (0 : Int32)) dX3_begin_63 (by decide) ?_
  refine x_putf (pc := 64) (e' := waC la ka (upd (upd (upd (upd (upd (upd (upd (upd (upd (upd w 0 (r 0)) 1 (r 1)) 2 F2) 3 (0 : Int32)) 4 (0 : Int32)) 5 (0 : Int32)) 6 (0 : Int32)) 7 (0 : Int32)) 8 (0 : Int32)) 9 (0 : Int32))) dX3_begin_64 xf_X3_67 hAt_same rfl rfl rfl rfl ?_
  refine Wp.eqh (h' := (hSet h a (waC la ka (upd (upd (upd (upd (upd (upd (upd (upd (upd (upd w 0 (r 0)) 1 (r 1)) 2 F2) 3 (0 : Int32)) 4 (0 : Int32)) 5 (0 : Int32)) 6 (0 : Int32)) 7 (0 : Int32)) 8 (0 : Int32)) 9 (0 : Int32))))) (hSet_set) ?_
  subst er
  exact x_vret (pc := 67) dX3_begin_67 rfl rfl rfl ⟨rfl, rfl⟩

def f_X3_copy (w lf kf w2 lf2 kf2 : Nat → Int32) : (Nat → Int32) × (Nat → Int32) × (Nat → Int32) := ((upd (upd (upd (upd (upd (upd (upd (upd (upd (upd (upd (upd (upd w 24 (w2 24)) 11 (w2 11)) 10 (w2 10)) 0 (w2 0)) 1 (w2 1)) 2 (w2 2)) 3 (w2 3)) 4 (w2 4)) 5 (w2 5)) 6 (w2 6)) 7 (w2 7)) 8 (w2 8)) 9 (w2 9)), (va_cpy lf2 lf 0 0 6), (va_cpy kf2 kf 0 0 6))
set_option maxRecDepth 100000 in
set_option maxHeartbeats 4000000 in
theorem C_X3_copy (G : xG) (h : xH) (a b la ka lb kb : Nat) (w lf kf w2 lf2 kf2 : Nat → Int32) (k_a : hAt h a = some (waC la ka w)) (k_la : hAt h la = some (arI 6 lf)) (k_ka : hAt h ka = some (arI 6 kf)) (k_b : hAt h b = some (waC lb kb w2)) (k_lb : hAt h lb = some (arI 6 lf2)) (k_kb : hAt h kb = some (arI 6 kf2)) (n_a_b : a ≠ b) (n_la_ka : la ≠ ka) (n_la_lb : la ≠ lb) (n_la_kb : la ≠ kb) (n_ka_lb : ka ≠ lb) (n_ka_kb : ka ≠ kb) : Cd G 1 yX3_copy cX3_copy 2 none [.ref a, .ref b] h none (hSet (hSet (hSet h a (waC la ka (f_X3_copy w lf kf w2 lf2 kf2).1)) la (arI 6 (f_X3_copy w lf kf w2 lf2 kf2).2.1)) ka (arI 6 (f_X3_copy w lf kf w2 lf2 kf2).2.2)) := by
  have n_a_ka : a ≠ ka := hne_k k_a k_ka rfl
  have n_a_la : a ≠ la := hne_k k_a k_la rfl
  have n_b_a : b ≠ a := Ne.symm n_a_b
  have n_b_ka : b ≠ ka := hne_k k_b k_ka rfl
  have n_b_la : b ≠ la := hne_k k_b k_la rfl
  have n_kb_a : kb ≠ a := hne_k k_kb k_a rfl
  have n_kb_ka : kb ≠ ka := Ne.symm n_ka_kb
  have n_kb_la : kb ≠ la := Ne.symm n_la_kb
  have n_lb_a : lb ≠ a := hne_k k_lb k_a rfl
  have n_lb_ka : lb ≠ ka := Ne.symm n_ka_lb
  have n_lb_la : lb ≠ la := Ne.symm n_la_lb
  refine Ct.of (by decide) (by rfl) ?_
  refine Wp.eqs (L' := [(0, .ref a), (1, .ref b)]) (st' := []) rfl rfl ?_
  refine Wp.eqh (h' := (hSet (hSet (hSet h a (waC la ka w)) la (arI 6 lf)) ka (arI 6 kf))) (by rw [hSet_self k_a, hSet_self k_la, hSet_self k_ka]) ?_
  obtain ⟨R, er⟩ : ∃ R, f_X3_copy w lf kf w2 lf2 kf2 = R := ⟨_, rfl⟩
  rw [er]
  unfold f_X3_copy at er
  refine x_aload_n (pc := 0) dX3_copy_0 rfl ?_
  refine x_aload_n (pc := 1) dX3_copy_1 rfl ?_
  refine x_getf (pc := 2) (v := .int (w2 24)) dX3_copy_2 xf_X3_18 (hAt_n n_b_ka (hAt_n n_b_la (hAt_n n_b_a k_b))) rfl ?_
  refine x_putf (pc := 5) (e' := waC la ka (upd w 24 (w2 24))) dX3_copy_5 xf_X3_18 (hAt_n n_a_ka (hAt_n n_a_la hAt_same)) rfl rfl rfl rfl ?_
  refine Wp.eqh (h' := (hSet (hSet (hSet h a (waC la ka (upd w 24 (w2 24)))) la (arI 6 lf)) ka (arI 6 kf))) (hSet_sw2 n_a_la n_a_ka) ?_
  refine x_aload_n (pc := 8) dX3_copy_8 rfl ?_
  refine x_aload_n (pc := 9) dX3_copy_9 rfl ?_
  refine x_getf (pc := 10) (v := .int (w2 11)) dX3_copy_10 xf_X3_22 (hAt_n n_b_ka (hAt_n n_b_la (hAt_n n_b_a k_b))) rfl ?_
  refine x_putf (pc := 13) (e' := waC la ka (upd (upd w 24 (w2 24)) 11 (w2 11))) dX3_copy_13 xf_X3_22 (hAt_n n_a_ka (hAt_n n_a_la hAt_same)) rfl rfl rfl rfl ?_
  refine Wp.eqh (h' := (hSet (hSet (hSet h a (waC la ka (upd (upd w 24 (w2 24)) 11 (w2 11)))) la (arI 6 lf)) ka (arI 6 kf))) (hSet_sw2 n_a_la n_a_ka) ?_
  refine x_aload_n (pc := 16) dX3_copy_16 rfl ?_
  refine x_getf (pc := 17) (v := .ref lb) dX3_copy_17 xf_X3_9 (hAt_n n_b_ka (hAt_n n_b_la (hAt_n n_b_a k_b))) rfl ?_
  refine x_iconst (pc := 20) (v := (0 : Int32)) dX3_copy_20 (by decide) ?_
  refine x_aload_n (pc := 21) dX3_copy_21 rfl ?_
  refine x_getf (pc := 22) (v := .ref la) dX3_copy_22 xf_X3_9 (hAt_n n_a_ka (hAt_n n_a_la hAt_same)) rfl ?_
  refine x_iconst (pc := 25) (v := (0 : Int32)) dX3_copy_25 (by decide) ?_
  refine x_bipush (pc := 26) (v := (6 : Int32)) dX3_copy_26 (by decide) ?_
  refine x_copy (pc := 28) (n := 6) (e' := arI 6 (va_cpy lf2 lf 0 0 6)) dX3_copy_28 xl_X3_70 (hAt_n n_lb_ka (hAt_n n_lb_la (hAt_n n_lb_a k_lb))) (hAt_n n_la_ka hAt_same) rfl rfl rfl rfl rfl rfl rfl rfl ?_
  refine Wp.eqh (h' := (hSet (hSet (hSet h a (waC la ka (upd (upd w 24 (w2 24)) 11 (w2 11)))) la (arI 6 (va_cpy lf2 lf 0 0 6))) ka (arI 6 kf))) (hSet_sw1 n_la_ka) ?_
  refine x_aload_n (pc := 31) dX3_copy_31 rfl ?_
  refine x_getf (pc := 32) (v := .ref kb) dX3_copy_32 xf_X3_15 (hAt_n n_b_ka (hAt_n n_b_la (hAt_n n_b_a k_b))) rfl ?_
  refine x_iconst (pc := 35) (v := (0 : Int32)) dX3_copy_35 (by decide) ?_
  refine x_aload_n (pc := 36) dX3_copy_36 rfl ?_
  refine x_getf (pc := 37) (v := .ref ka) dX3_copy_37 xf_X3_15 (hAt_n n_a_ka (hAt_n n_a_la hAt_same)) rfl ?_
  refine x_iconst (pc := 40) (v := (0 : Int32)) dX3_copy_40 (by decide) ?_
  refine x_bipush (pc := 41) (v := (6 : Int32)) dX3_copy_41 (by decide) ?_
  refine x_copy (pc := 43) (n := 6) (e' := arI 6 (va_cpy kf2 kf 0 0 6)) dX3_copy_43 xl_X3_70 (hAt_n n_kb_ka (hAt_n n_kb_la (hAt_n n_kb_a k_kb))) hAt_same rfl rfl rfl rfl rfl rfl rfl rfl ?_
  refine Wp.eqh (h' := (hSet (hSet (hSet h a (waC la ka (upd (upd w 24 (w2 24)) 11 (w2 11)))) la (arI 6 (va_cpy lf2 lf 0 0 6))) ka (arI 6 (va_cpy kf2 kf 0 0 6)))) (hSet_set) ?_
  refine x_aload_n (pc := 46) dX3_copy_46 rfl ?_
  refine x_aload_n (pc := 47) dX3_copy_47 rfl ?_
  refine x_getf (pc := 48) (v := .int (w2 10)) dX3_copy_48 xf_X3_25 (hAt_n n_b_ka (hAt_n n_b_la (hAt_n n_b_a k_b))) rfl ?_
  refine x_putf (pc := 51) (e' := waC la ka (upd (upd (upd w 24 (w2 24)) 11 (w2 11)) 10 (w2 10))) dX3_copy_51 xf_X3_25 (hAt_n n_a_ka (hAt_n n_a_la hAt_same)) rfl rfl rfl rfl ?_
  refine Wp.eqh (h' := (hSet (hSet (hSet h a (waC la ka (upd (upd (upd w 24 (w2 24)) 11 (w2 11)) 10 (w2 10)))) la (arI 6 (va_cpy lf2 lf 0 0 6))) ka (arI 6 (va_cpy kf2 kf 0 0 6)))) (hSet_sw2 n_a_la n_a_ka) ?_
  refine x_aload_n (pc := 54) dX3_copy_54 rfl ?_
  refine x_aload_n (pc := 55) dX3_copy_55 rfl ?_
  refine x_getf (pc := 56) (v := .int (w2 0)) dX3_copy_56 xf_X3_33 (hAt_n n_b_ka (hAt_n n_b_la (hAt_n n_b_a k_b))) rfl ?_
  refine x_putf (pc := 59) (e' := waC la ka (upd (upd (upd (upd w 24 (w2 24)) 11 (w2 11)) 10 (w2 10)) 0 (w2 0))) dX3_copy_59 xf_X3_33 (hAt_n n_a_ka (hAt_n n_a_la hAt_same)) rfl rfl rfl rfl ?_
  refine Wp.eqh (h' := (hSet (hSet (hSet h a (waC la ka (upd (upd (upd (upd w 24 (w2 24)) 11 (w2 11)) 10 (w2 10)) 0 (w2 0)))) la (arI 6 (va_cpy lf2 lf 0 0 6))) ka (arI 6 (va_cpy kf2 kf 0 0 6)))) (hSet_sw2 n_a_la n_a_ka) ?_
  refine x_aload_n (pc := 62) dX3_copy_62 rfl ?_
  refine x_aload_n (pc := 63) dX3_copy_63 rfl ?_
  refine x_getf (pc := 64) (v := .int (w2 1)) dX3_copy_64 xf_X3_39 (hAt_n n_b_ka (hAt_n n_b_la (hAt_n n_b_a k_b))) rfl ?_
  refine x_putf (pc := 67) (e' := waC la ka (upd (upd (upd (upd (upd w 24 (w2 24)) 11 (w2 11)) 10 (w2 10)) 0 (w2 0)) 1 (w2 1))) dX3_copy_67 xf_X3_39 (hAt_n n_a_ka (hAt_n n_a_la hAt_same)) rfl rfl rfl rfl ?_
  refine Wp.eqh (h' := (hSet (hSet (hSet h a (waC la ka (upd (upd (upd (upd (upd w 24 (w2 24)) 11 (w2 11)) 10 (w2 10)) 0 (w2 0)) 1 (w2 1)))) la (arI 6 (va_cpy lf2 lf 0 0 6))) ka (arI 6 (va_cpy kf2 kf 0 0 6)))) (hSet_sw2 n_a_la n_a_ka) ?_
  refine x_aload_n (pc := 70) dX3_copy_70 rfl ?_
  refine x_aload_n (pc := 71) dX3_copy_71 rfl ?_
  refine x_getf (pc := 72) (v := .int (w2 2)) dX3_copy_72 xf_X3_46 (hAt_n n_b_ka (hAt_n n_b_la (hAt_n n_b_a k_b))) rfl ?_
  refine x_putf (pc := 75) (e' := waC la ka (upd (upd (upd (upd (upd (upd w 24 (w2 24)) 11 (w2 11)) 10 (w2 10)) 0 (w2 0)) 1 (w2 1)) 2 (w2 2))) dX3_copy_75 xf_X3_46 (hAt_n n_a_ka (hAt_n n_a_la hAt_same)) rfl rfl rfl rfl ?_
  refine Wp.eqh (h' := (hSet (hSet (hSet h a (waC la ka (upd (upd (upd (upd (upd (upd w 24 (w2 24)) 11 (w2 11)) 10 (w2 10)) 0 (w2 0)) 1 (w2 1)) 2 (w2 2)))) la (arI 6 (va_cpy lf2 lf 0 0 6))) ka (arI 6 (va_cpy kf2 kf 0 0 6)))) (hSet_sw2 n_a_la n_a_ka) ?_
  refine x_aload_n (pc := 78) dX3_copy_78 rfl ?_
  refine x_aload_n (pc := 79) dX3_copy_79 rfl ?_
  refine x_getf (pc := 80) (v := .int (w2 3)) dX3_copy_80 xf_X3_49 (hAt_n n_b_ka (hAt_n n_b_la (hAt_n n_b_a k_b))) rfl ?_
  refine x_putf (pc := 83) (e' := waC la ka (upd (upd (upd (upd (upd (upd (upd w 24 (w2 24)) 11 (w2 11)) 10 (w2 10)) 0 (w2 0)) 1 (w2 1)) 2 (w2 2)) 3 (w2 3))) dX3_copy_83 xf_X3_49 (hAt_n n_a_ka (hAt_n n_a_la hAt_same)) rfl rfl rfl rfl ?_
  refine Wp.eqh (h' := (hSet (hSet (hSet h a (waC la ka (upd (upd (upd (upd (upd (upd (upd w 24 (w2 24)) 11 (w2 11)) 10 (w2 10)) 0 (w2 0)) 1 (w2 1)) 2 (w2 2)) 3 (w2 3)))) la (arI 6 (va_cpy lf2 lf 0 0 6))) ka (arI 6 (va_cpy kf2 kf 0 0 6)))) (hSet_sw2 n_a_la n_a_ka) ?_
  refine x_aload_n (pc := 86) dX3_copy_86 rfl ?_
  refine x_aload_n (pc := 87) dX3_copy_87 rfl ?_
  refine x_getf (pc := 88) (v := .int (w2 4)) dX3_copy_88 xf_X3_52 (hAt_n n_b_ka (hAt_n n_b_la (hAt_n n_b_a k_b))) rfl ?_
  refine x_putf (pc := 91) (e' := waC la ka (upd (upd (upd (upd (upd (upd (upd (upd w 24 (w2 24)) 11 (w2 11)) 10 (w2 10)) 0 (w2 0)) 1 (w2 1)) 2 (w2 2)) 3 (w2 3)) 4 (w2 4))) dX3_copy_91 xf_X3_52 (hAt_n n_a_ka (hAt_n n_a_la hAt_same)) rfl rfl rfl rfl ?_
  refine Wp.eqh (h' := (hSet (hSet (hSet h a (waC la ka (upd (upd (upd (upd (upd (upd (upd (upd w 24 (w2 24)) 11 (w2 11)) 10 (w2 10)) 0 (w2 0)) 1 (w2 1)) 2 (w2 2)) 3 (w2 3)) 4 (w2 4)))) la (arI 6 (va_cpy lf2 lf 0 0 6))) ka (arI 6 (va_cpy kf2 kf 0 0 6)))) (hSet_sw2 n_a_la n_a_ka) ?_
  refine x_aload_n (pc := 94) dX3_copy_94 rfl ?_
  refine x_aload_n (pc := 95) dX3_copy_95 rfl ?_
  refine x_getf (pc := 96) (v := .int (w2 5)) dX3_copy_96 xf_X3_55 (hAt_n n_b_ka (hAt_n n_b_la (hAt_n n_b_a k_b))) rfl ?_
  refine x_putf (pc := 99) (e' := waC la ka (upd (upd (upd (upd (upd (upd (upd (upd (upd w 24 (w2 24)) 11 (w2 11)) 10 (w2 10)) 0 (w2 0)) 1 (w2 1)) 2 (w2 2)) 3 (w2 3)) 4 (w2 4)) 5 (w2 5))) dX3_copy_99 xf_X3_55 (hAt_n n_a_ka (hAt_n n_a_la hAt_same)) rfl rfl rfl rfl ?_
  refine Wp.eqh (h' := (hSet (hSet (hSet h a (waC la ka (upd (upd (upd (upd (upd (upd (upd (upd (upd w 24 (w2 24)) 11 (w2 11)) 10 (w2 10)) 0 (w2 0)) 1 (w2 1)) 2 (w2 2)) 3 (w2 3)) 4 (w2 4)) 5 (w2 5)))) la (arI 6 (va_cpy lf2 lf 0 0 6))) ka (arI 6 (va_cpy kf2 kf 0 0 6)))) (hSet_sw2 n_a_la n_a_ka) ?_
  refine x_aload_n (pc := 102) dX3_copy_102 rfl ?_
  refine x_aload_n (pc := 103) dX3_copy_103 rfl ?_
  refine x_getf (pc := 104) (v := .int (w2 6)) dX3_copy_104 xf_X3_58 (hAt_n n_b_ka (hAt_n n_b_la (hAt_n n_b_a k_b))) rfl ?_
  refine x_putf (pc := 107) (e' := waC la ka (upd (upd (upd (upd (upd (upd (upd (upd (upd (upd w 24 (w2 24)) 11 (w2 11)) 10 (w2 10)) 0 (w2 0)) 1 (w2 1)) 2 (w2 2)) 3 (w2 3)) 4 (w2 4)) 5 (w2 5)) 6 (w2 6))) dX3_copy_107 xf_X3_58 (hAt_n n_a_ka (hAt_n n_a_la hAt_same)) rfl rfl rfl rfl ?_
  refine Wp.eqh (h' := (hSet (hSet (hSet h a (waC la ka (upd (upd (upd (upd (upd (upd (upd (upd (upd (upd w 24 (w2 24)) 11 (w2 11)) 10 (w2 10)) 0 (w2 0)) 1 (w2 1)) 2 (w2 2)) 3 (w2 3)) 4 (w2 4)) 5 (w2 5)) 6 (w2 6)))) la (arI 6 (va_cpy lf2 lf 0 0 6))) ka (arI 6 (va_cpy kf2 kf 0 0 6)))) (hSet_sw2 n_a_la n_a_ka) ?_
  refine x_aload_n (pc := 110) dX3_copy_110 rfl ?_
  refine x_aload_n (pc := 111) dX3_copy_111 rfl ?_
  refine x_getf (pc := 112) (v := .int (w2 7)) dX3_copy_112 xf_X3_61 (hAt_n n_b_ka (hAt_n n_b_la (hAt_n n_b_a k_b))) rfl ?_
  refine x_putf (pc := 115) (e' := waC la ka (upd (upd (upd (upd (upd (upd (upd (upd (upd (upd (upd w 24 (w2 24)) 11 (w2 11)) 10 (w2 10)) 0 (w2 0)) 1 (w2 1)) 2 (w2 2)) 3 (w2 3)) 4 (w2 4)) 5 (w2 5)) 6 (w2 6)) 7 (w2 7))) dX3_copy_115 xf_X3_61 (hAt_n n_a_ka (hAt_n n_a_la hAt_same)) rfl rfl rfl rfl ?_
  refine Wp.eqh (h' := (hSet (hSet (hSet h a (waC la ka (upd (upd (upd (upd (upd (upd (upd (upd (upd (upd (upd w 24 (w2 24)) 11 (w2 11)) 10 (w2 10)) 0 (w2 0)) 1 (w2 1)) 2 (w2 2)) 3 (w2 3)) 4 (w2 4)) 5 (w2 5)) 6 (w2 6)) 7 (w2 7)))) la (arI 6 (va_cpy lf2 lf 0 0 6))) ka (arI 6 (va_cpy kf2 kf 0 0 6)))) (hSet_sw2 n_a_la n_a_ka) ?_
  refine x_aload_n (pc := 118) dX3_copy_118 rfl ?_
  refine x_aload_n (pc := 119) dX3_copy_119 rfl ?_
  refine x_getf (pc := 120) (v := .int (w2 8)) dX3_copy_120 xf_X3_64 (hAt_n n_b_ka (hAt_n n_b_la (hAt_n n_b_a k_b))) rfl ?_
  refine x_putf (pc := 123) (e' := waC la ka (upd (upd (upd (upd (upd (upd (upd (upd (upd (upd (upd (upd w 24 (w2 24)) 11 (w2 11)) 10 (w2 10)) 0 (w2 0)) 1 (w2 1)) 2 (w2 2)) 3 (w2 3)) 4 (w2 4)) 5 (w2 5)) 6 (w2 6)) 7 (w2 7)) 8 (w2 8))) dX3_copy_123 xf_X3_64 (hAt_n n_a_ka (hAt_n n_a_la hAt_same)) rfl rfl rfl rfl ?_
  refine Wp.eqh (h' := (hSet (hSet (hSet h a (waC la ka (upd (upd (upd (upd (upd (upd (upd (upd (upd (upd (upd (upd w 24 (w2 24)) 11 (w2 11)) 10 (w2 10)) 0 (w2 0)) 1 (w2 1)) 2 (w2 2)) 3 (w2 3)) 4 (w2 4)) 5 (w2 5)) 6 (w2 6)) 7 (w2 7)) 8 (w2 8)))) la (arI 6 (va_cpy lf2 lf 0 0 6))) ka (arI 6 (va_cpy kf2 kf 0 0 6)))) (hSet_sw2 n_a_la n_a_ka) ?_
  refine x_aload_n (pc := 126) dX3_copy_126 rfl ?_
  refine x_aload_n (pc := 127) dX3_copy_127 rfl ?_
  refine x_getf (pc := 128) (v := .int (w2 9)) dX3_copy_128 xf_X3_67 (hAt_n n_b_ka (hAt_n n_b_la (hAt_n n_b_a k_b))) rfl ?_
  refine x_putf (pc := 131) (e' := waC la ka (upd (upd (upd (upd (upd (upd (upd (upd (upd (upd (upd (upd (upd w 24 (w2 24)) 11 (w2 11)) 10 (w2 10)) 0 (w2 0)) 1 (w2 1)) 2 (w2 2)) 3 (w2 3)) 4 (w2 4)) 5 (w2 5)) 6 (w2 6)) 7 (w2 7)) 8 (w2 8)) 9 (w2 9))) dX3_copy_131 xf_X3_67 (hAt_n n_a_ka (hAt_n n_a_la hAt_same)) rfl rfl rfl rfl ?_
  refine Wp.eqh (h' := (hSet (hSet (hSet h a (waC la ka (upd (upd (upd (upd (upd (upd (upd (upd (upd (upd (upd (upd (upd w 24 (w2 24)) 11 (w2 11)) 10 (w2 10)) 0 (w2 0)) 1 (w2 1)) 2 (w2 2)) 3 (w2 3)) 4 (w2 4)) 5 (w2 5)) 6 (w2 6)) 7 (w2 7)) 8 (w2 8)) 9 (w2 9)))) la (arI 6 (va_cpy lf2 lf 0 0 6))) ka (arI 6 (va_cpy kf2 kf 0 0 6)))) (hSet_sw2 n_a_la n_a_ka) ?_
  subst er
  exact x_vret (pc := 134) dX3_copy_134 rfl rfl rfl ⟨rfl, rfl⟩

def l_X3_passes_6 : Nat → (Nat → Int32) → (Nat → Int32) → Int32 → Int32 → Int32 × Int32
  | 0, _, _, _, _ => (0, 0)
  | n + 1, w, lf, v2, v1 => (if (w 11) ≤ v2 then (v2, v1) else (l_X3_passes_6 n w lf (v2 + (1 : Int32)) (if (lf (v2.toNatClampNeg)) < v1 then (lf (v2.toNatClampNeg)) else v1)))
def q_X3_passes_6 : Nat → (Nat → Int32) → (Nat → Int32) → Int32 → Int32 → Prop
  | 0, _, _, _, _ => False
  | n + 1, w, lf, v2, v1 => (((w 11) ≤ v2 → True) ∧ (¬ ((w 11) ≤ v2) → (vp_in v2 6 ∧ (q_X3_passes_6 n w lf (v2 + (1 : Int32)) (if (lf (v2.toNatClampNeg)) < v1 then (lf (v2.toNatClampNeg)) else v1)))))
set_option maxRecDepth 100000 in
set_option maxHeartbeats 4000000 in
theorem L_X3_passes_6 (G : xG) (h : xH) (a la ka : Nat) (w lf : Nat → Int32) (k_a : hAt h a = some (waC la ka w)) (k_la : hAt h la = some (arI 6 lf)) {Z : xZ} : ∀ (n : Nat) (v2 : Int32) (v1 : Int32), q_X3_passes_6 n w lf v2 v1 → Wp G yX3_passes.cls cX3_passes 3 yX3_passes.name (some .int) (xR 1 0 0) Z 0 0 31 [(2, .int (l_X3_passes_6 n w lf v2 v1).1), (1, .int (l_X3_passes_6 n w lf v2 v1).2), (0, .ref a)] [] h → Wp G yX3_passes.cls cX3_passes 3 yX3_passes.name (some .int) (xR 1 0 0) Z 0 0 6 [(2, .int v2), (1, .int v1), (0, .ref a)] [] h := by
  intro n
  induction n with
  | zero => intro v2 v1 hp; exact absurd hp id
  | succ n ih =>
    intro v2 v1 hp kk
    obtain ⟨R, er⟩ : ∃ R, l_X3_passes_6 (n + 1) w lf v2 v1 = R := ⟨_, rfl⟩
    rw [er] at kk
    rw [l_X3_passes_6] at er
    rw [q_X3_passes_6] at hp
    refine x_iload_n (pc := 6) dX3_passes_6 rfl ?_
    refine x_aload_n (pc := 7) dX3_passes_7 rfl ?_
    refine x_getf (pc := 8) (v := .int (w 11)) dX3_passes_8 xf_X3_22 k_a rfl ?_
    refine x_icmp_ge (pc := 11) (tgt := 31) dX3_passes_11 (by decide) (fun (c1 : (w 11) ≤ v2) => ?_) (fun (c1 : ¬ ((w 11) ≤ v2)) => ?_)
    · rw [if_pos c1] at er
      replace hp := hp.1 c1
      subst er
      exact kk
    · rw [if_neg c1] at er
      replace hp := hp.2 c1
      refine x_iload_n (pc := 14) dX3_passes_14 rfl ?_
      refine x_aload_n (pc := 15) dX3_passes_15 rfl ?_
      refine x_getf (pc := 16) (v := .ref la) dX3_passes_16 xf_X3_9 k_a rfl ?_
      refine x_iload_n (pc := 19) dX3_passes_19 rfl ?_
      obtain ⟨q20, hp⟩ := hp
      refine x_iald (pc := 20) dX3_passes_20 k_la q20 (j := (v2.toNatClampNeg)) rfl ?_
      refine x_min (pc := 21) dX3_passes_21 xl_X3_80 rfl rfl rfl rfl rfl ?_
      refine x_istore_n (pc := 24) (L' := [(1, .int (if (lf (v2.toNatClampNeg)) < v1 then (lf (v2.toNatClampNeg)) else v1)), (2, .int v2), (0, .ref a)]) dX3_passes_24 rfl rfl ?_
      refine x_iinc (pc := 25) (v := (v2 + (1 : Int32))) (L' := [(2, .int (v2 + (1 : Int32))), (1, .int (if (lf (v2.toNatClampNeg)) < v1 then (lf (v2.toNatClampNeg)) else v1)), (0, .ref a)]) dX3_passes_25 rfl rfl rfl rfl ?_
      refine x_goto (pc := 28) (tgt := 6) dX3_passes_28 (by decide) ?_
      subst er
      exact ih (v2 + (1 : Int32)) (if (lf (v2.toNatClampNeg)) < v1 then (lf (v2.toNatClampNeg)) else v1) hp kk
def f_X3_passes (w lf : Nat → Int32) : Int32 := (l_X3_passes_6 xK w lf (0 : Int32) (999 : Int32)).2
def p_X3_passes (w lf : Nat → Int32) : Prop := ((q_X3_passes_6 xK w lf (0 : Int32) (999 : Int32)) ∧ True)
set_option maxRecDepth 100000 in
set_option maxHeartbeats 4000000 in
theorem C_X3_passes (G : xG) (h : xH) (a la ka : Nat) (w lf : Nat → Int32) (k_a : hAt h a = some (waC la ka w)) (k_la : hAt h la = some (arI 6 lf)) (hp : p_X3_passes w lf) : Cd G 1 yX3_passes cX3_passes 3 (some .int) [.ref a] h (some (.int (f_X3_passes w lf))) h := by
  refine Ct.of (by decide) (by rfl) ?_
  refine Wp.eqs (L' := [(0, .ref a)]) (st' := []) rfl rfl ?_
  obtain ⟨R, er⟩ : ∃ R, f_X3_passes w lf = R := ⟨_, rfl⟩
  rw [er]
  unfold f_X3_passes at er
  unfold p_X3_passes at hp
  refine x_sipush (pc := 0) (v := (999 : Int32)) dX3_passes_0 (by decide) ?_
  refine x_istore_n (pc := 3) (L' := [(1, .int (999 : Int32)), (0, .ref a)]) dX3_passes_3 rfl rfl ?_
  refine x_iconst (pc := 4) (v := (0 : Int32)) dX3_passes_4 (by decide) ?_
  refine x_istore_n (pc := 5) (L' := [(2, .int (0 : Int32)), (1, .int (999 : Int32)), (0, .ref a)]) dX3_passes_5 rfl rfl ?_
  obtain ⟨ql6, hp⟩ := hp
  refine L_X3_passes_6 G h a la ka w lf k_a k_la  xK (0 : Int32) (999 : Int32) ql6 ?_
  obtain ⟨F1, eF1⟩ : ∃ F, l_X3_passes_6 xK w lf (0 : Int32) (999 : Int32) = F := ⟨_, rfl⟩
  rw [eF1]
  try rw [eF1] at er
  try rw [eF1] at hp
  refine x_iload_n (pc := 31) dX3_passes_31 rfl ?_
  subst er
  exact x_iret (pc := 32) dX3_passes_32 rfl rfl rfl rfl ⟨rfl, rfl⟩

def f_X3_tell (w lf : Nat → Int32) (what : Int32) : Int32 := (if what = (0 : Int32) then (w 0) else (if what = (1 : Int32) then (w 1) else (if what = (2 : Int32) then (w 2) else (if what = (3 : Int32) then (w 3) else (if what = (4 : Int32) then (w 4) else (if what = (5 : Int32) then (w 5) else (if what = (6 : Int32) then (w 6) else (if what = (7 : Int32) then (w 7) else (if what = (8 : Int32) then (w 8) else (if what = (9 : Int32) then (w 9) else (if what = (10 : Int32) then (f_X3_passes w lf) else (if what = (11 : Int32) then (w 11) else (if what = (12 : Int32) then (w 10) else (-1 : Int32))))))))))))))
def p_X3_tell (w lf : Nat → Int32) (what : Int32) : Prop := ((what = (0 : Int32) → True) ∧ (¬ (what = (0 : Int32)) → ((what = (1 : Int32) → True) ∧ (¬ (what = (1 : Int32)) → ((what = (2 : Int32) → True) ∧ (¬ (what = (2 : Int32)) → ((what = (3 : Int32) → True) ∧ (¬ (what = (3 : Int32)) → ((what = (4 : Int32) → True) ∧ (¬ (what = (4 : Int32)) → ((what = (5 : Int32) → True) ∧ (¬ (what = (5 : Int32)) → ((what = (6 : Int32) → True) ∧ (¬ (what = (6 : Int32)) → ((what = (7 : Int32) → True) ∧ (¬ (what = (7 : Int32)) → ((what = (8 : Int32) → True) ∧ (¬ (what = (8 : Int32)) → ((what = (9 : Int32) → True) ∧ (¬ (what = (9 : Int32)) → ((what = (10 : Int32) → (p_X3_passes w lf ∧ True)) ∧ (¬ (what = (10 : Int32)) → ((what = (11 : Int32) → True) ∧ (¬ (what = (11 : Int32)) → ((what = (12 : Int32) → True) ∧ (¬ (what = (12 : Int32)) → True))))))))))))))))))))))))))
set_option maxRecDepth 100000 in
set_option maxHeartbeats 4000000 in
theorem C_X3_tell (G : xG) (h : xH) (a la ka : Nat) (w lf : Nat → Int32) (what : Int32) (k_a : hAt h a = some (waC la ka w)) (k_la : hAt h la = some (arI 6 lf)) (hp : p_X3_tell w lf what) : Cd G 2 yX3_tell cX3_tell 2 (some .int) [.ref a, .int what] h (some (.int (f_X3_tell w lf what))) h := by
  refine Ct.of (by decide) (by rfl) ?_
  refine Wp.eqs (L' := [(0, .ref a), (1, .int what)]) (st' := []) rfl rfl ?_
  obtain ⟨R, er⟩ : ∃ R, f_X3_tell w lf what = R := ⟨_, rfl⟩
  rw [er]
  unfold f_X3_tell at er
  unfold p_X3_tell at hp
  refine x_iload_n (pc := 0) dX3_tell_0 rfl ?_
  by_cases c1 : what = (0 : Int32)
  · rw [if_pos c1] at er
    replace hp := hp.1 c1
    refine x_tabIn (pc := 1) (off := 67) (tgt := 68) dX3_tell_1 (by rw [c1]; decide) (by rw [c1]; decide) (by rw [c1]; rfl) (by decide) ?_
    refine x_aload_n (pc := 68) dX3_tell_68 rfl ?_
    refine x_getf (pc := 69) (v := .int (w 0)) dX3_tell_69 xf_X3_33 k_a rfl ?_
    subst er
    exact x_iret (pc := 72) dX3_tell_72 rfl rfl rfl rfl ⟨rfl, rfl⟩
  rw [if_neg c1] at er
  replace hp := hp.2 c1
  by_cases c2 : what = (1 : Int32)
  · rw [if_pos c2] at er
    replace hp := hp.1 c2
    refine x_tabIn (pc := 1) (off := 72) (tgt := 73) dX3_tell_1 (by rw [c2]; decide) (by rw [c2]; decide) (by rw [c2]; rfl) (by decide) ?_
    refine x_aload_n (pc := 73) dX3_tell_73 rfl ?_
    refine x_getf (pc := 74) (v := .int (w 1)) dX3_tell_74 xf_X3_39 k_a rfl ?_
    subst er
    exact x_iret (pc := 77) dX3_tell_77 rfl rfl rfl rfl ⟨rfl, rfl⟩
  rw [if_neg c2] at er
  replace hp := hp.2 c2
  by_cases c3 : what = (2 : Int32)
  · rw [if_pos c3] at er
    replace hp := hp.1 c3
    refine x_tabIn (pc := 1) (off := 77) (tgt := 78) dX3_tell_1 (by rw [c3]; decide) (by rw [c3]; decide) (by rw [c3]; rfl) (by decide) ?_
    refine x_aload_n (pc := 78) dX3_tell_78 rfl ?_
    refine x_getf (pc := 79) (v := .int (w 2)) dX3_tell_79 xf_X3_46 k_a rfl ?_
    subst er
    exact x_iret (pc := 82) dX3_tell_82 rfl rfl rfl rfl ⟨rfl, rfl⟩
  rw [if_neg c3] at er
  replace hp := hp.2 c3
  by_cases c4 : what = (3 : Int32)
  · rw [if_pos c4] at er
    replace hp := hp.1 c4
    refine x_tabIn (pc := 1) (off := 82) (tgt := 83) dX3_tell_1 (by rw [c4]; decide) (by rw [c4]; decide) (by rw [c4]; rfl) (by decide) ?_
    refine x_aload_n (pc := 83) dX3_tell_83 rfl ?_
    refine x_getf (pc := 84) (v := .int (w 3)) dX3_tell_84 xf_X3_49 k_a rfl ?_
    subst er
    exact x_iret (pc := 87) dX3_tell_87 rfl rfl rfl rfl ⟨rfl, rfl⟩
  rw [if_neg c4] at er
  replace hp := hp.2 c4
  by_cases c5 : what = (4 : Int32)
  · rw [if_pos c5] at er
    replace hp := hp.1 c5
    refine x_tabIn (pc := 1) (off := 87) (tgt := 88) dX3_tell_1 (by rw [c5]; decide) (by rw [c5]; decide) (by rw [c5]; rfl) (by decide) ?_
    refine x_aload_n (pc := 88) dX3_tell_88 rfl ?_
    refine x_getf (pc := 89) (v := .int (w 4)) dX3_tell_89 xf_X3_52 k_a rfl ?_
    subst er
    exact x_iret (pc := 92) dX3_tell_92 rfl rfl rfl rfl ⟨rfl, rfl⟩
  rw [if_neg c5] at er
  replace hp := hp.2 c5
  by_cases c6 : what = (5 : Int32)
  · rw [if_pos c6] at er
    replace hp := hp.1 c6
    refine x_tabIn (pc := 1) (off := 92) (tgt := 93) dX3_tell_1 (by rw [c6]; decide) (by rw [c6]; decide) (by rw [c6]; rfl) (by decide) ?_
    refine x_aload_n (pc := 93) dX3_tell_93 rfl ?_
    refine x_getf (pc := 94) (v := .int (w 5)) dX3_tell_94 xf_X3_55 k_a rfl ?_
    subst er
    exact x_iret (pc := 97) dX3_tell_97 rfl rfl rfl rfl ⟨rfl, rfl⟩
  rw [if_neg c6] at er
  replace hp := hp.2 c6
  by_cases c7 : what = (6 : Int32)
  · rw [if_pos c7] at er
    replace hp := hp.1 c7
    refine x_tabIn (pc := 1) (off := 97) (tgt := 98) dX3_tell_1 (by rw [c7]; decide) (by rw [c7]; decide) (by rw [c7]; rfl) (by decide) ?_
    refine x_aload_n (pc := 98) dX3_tell_98 rfl ?_
    refine x_getf (pc := 99) (v := .int (w 6)) dX3_tell_99 xf_X3_58 k_a rfl ?_
    subst er
    exact x_iret (pc := 102) dX3_tell_102 rfl rfl rfl rfl ⟨rfl, rfl⟩
  rw [if_neg c7] at er
  replace hp := hp.2 c7
  by_cases c8 : what = (7 : Int32)
  · rw [if_pos c8] at er
    replace hp := hp.1 c8
    refine x_tabIn (pc := 1) (off := 102) (tgt := 103) dX3_tell_1 (by rw [c8]; decide) (by rw [c8]; decide) (by rw [c8]; rfl) (by decide) ?_
    refine x_aload_n (pc := 103) dX3_tell_103 rfl ?_
    refine x_getf (pc := 104) (v := .int (w 7)) dX3_tell_104 xf_X3_61 k_a rfl ?_
    subst er
    exact x_iret (pc := 107) dX3_tell_107 rfl rfl rfl rfl ⟨rfl, rfl⟩
  rw [if_neg c8] at er
  replace hp := hp.2 c8
  by_cases c9 : what = (8 : Int32)
  · rw [if_pos c9] at er
    replace hp := hp.1 c9
    refine x_tabIn (pc := 1) (off := 107) (tgt := 108) dX3_tell_1 (by rw [c9]; decide) (by rw [c9]; decide) (by rw [c9]; rfl) (by decide) ?_
    refine x_aload_n (pc := 108) dX3_tell_108 rfl ?_
    refine x_getf (pc := 109) (v := .int (w 8)) dX3_tell_109 xf_X3_64 k_a rfl ?_
    subst er
    exact x_iret (pc := 112) dX3_tell_112 rfl rfl rfl rfl ⟨rfl, rfl⟩
  rw [if_neg c9] at er
  replace hp := hp.2 c9
  by_cases c10 : what = (9 : Int32)
  · rw [if_pos c10] at er
    replace hp := hp.1 c10
    refine x_tabIn (pc := 1) (off := 112) (tgt := 113) dX3_tell_1 (by rw [c10]; decide) (by rw [c10]; decide) (by rw [c10]; rfl) (by decide) ?_
    refine x_aload_n (pc := 113) dX3_tell_113 rfl ?_
    refine x_getf (pc := 114) (v := .int (w 9)) dX3_tell_114 xf_X3_67 k_a rfl ?_
    subst er
    exact x_iret (pc := 117) dX3_tell_117 rfl rfl rfl rfl ⟨rfl, rfl⟩
  rw [if_neg c10] at er
  replace hp := hp.2 c10
  by_cases c11 : what = (10 : Int32)
  · rw [if_pos c11] at er
    replace hp := hp.1 c11
    refine x_tabIn (pc := 1) (off := 117) (tgt := 118) dX3_tell_1 (by rw [c11]; decide) (by rw [c11]; decide) (by rw [c11]; rfl) (by decide) ?_
    refine x_aload_n (pc := 118) dX3_tell_118 rfl ?_
    obtain ⟨q119, hp⟩ := hp
    refine x_cV0i (pc := 119) dX3_tell_119 xl_X3_76 xv_X3_passes k_a rfl (C_X3_passes G _ a la ka w lf k_a k_la q119) rfl rfl rfl ?_
    obtain ⟨F1, eF1⟩ : ∃ F, f_X3_passes w lf = F := ⟨_, rfl⟩
    rw [eF1]
    try rw [eF1] at er
    try rw [eF1] at hp
    subst er
    exact x_iret (pc := 122) dX3_tell_122 rfl rfl rfl rfl ⟨rfl, rfl⟩
  rw [if_neg c11] at er
  replace hp := hp.2 c11
  by_cases c12 : what = (11 : Int32)
  · rw [if_pos c12] at er
    replace hp := hp.1 c12
    refine x_tabIn (pc := 1) (off := 122) (tgt := 123) dX3_tell_1 (by rw [c12]; decide) (by rw [c12]; decide) (by rw [c12]; rfl) (by decide) ?_
    refine x_aload_n (pc := 123) dX3_tell_123 rfl ?_
    refine x_getf (pc := 124) (v := .int (w 11)) dX3_tell_124 xf_X3_22 k_a rfl ?_
    subst er
    exact x_iret (pc := 127) dX3_tell_127 rfl rfl rfl rfl ⟨rfl, rfl⟩
  rw [if_neg c12] at er
  replace hp := hp.2 c12
  by_cases c13 : what = (12 : Int32)
  · rw [if_pos c13] at er
    replace hp := hp.1 c13
    refine x_tabIn (pc := 1) (off := 127) (tgt := 128) dX3_tell_1 (by rw [c13]; decide) (by rw [c13]; decide) (by rw [c13]; rfl) (by decide) ?_
    refine x_aload_n (pc := 128) dX3_tell_128 rfl ?_
    refine x_getf (pc := 129) (v := .int (w 10)) dX3_tell_129 xf_X3_25 k_a rfl ?_
    subst er
    exact x_iret (pc := 132) dX3_tell_132 rfl rfl rfl rfl ⟨rfl, rfl⟩
  rw [if_neg c13] at er
  replace hp := hp.2 c13
  refine x_tabOut (pc := 1) (tgt := 133) dX3_tell_1 (by have zc1 := xneL c1 (z := 0) rfl; have zc2 := xneL c2 (z := 1) rfl; have zc3 := xneL c3 (z := 2) rfl; have zc4 := xneL c4 (z := 3) rfl; have zc5 := xneL c5 (z := 4) rfl; have zc6 := xneL c6 (z := 5) rfl; have zc7 := xneL c7 (z := 6) rfl; have zc8 := xneL c8 (z := 7) rfl; have zc9 := xneL c9 (z := 8) rfl; have zc10 := xneL c10 (z := 9) rfl; have zc11 := xneL c11 (z := 10) rfl; have zc12 := xneL c12 (z := 11) rfl; have zc13 := xneL c13 (z := 12) rfl; omega) (by decide) ?_
  refine x_iconst (pc := 133) (v := (-1 : Int32)) dX3_tell_133 (by decide) ?_
  subst er
  exact x_iret (pc := 134) dX3_tell_134 rfl rfl rfl rfl ⟨rfl, rfl⟩

def f_X3_sought (w lf r : Nat → Int32) : Int32 := (if (r 0) < (if (f_X3_passes w lf) < (r 1) then (f_X3_passes w lf) else (r 1)) then (if (f_X3_passes w lf) < (r 1) then (f_X3_passes w lf) else (r 1)) else (r 0))
def p_X3_sought (w lf r : Nat → Int32) : Prop := (p_X3_passes w lf ∧ True)
set_option maxRecDepth 100000 in
set_option maxHeartbeats 4000000 in
theorem C_X3_sought (G : xG) (h : xH) (a rr la ka : Nat) (w lf r : Nat → Int32) (k_a : hAt h a = some (waC la ka w)) (k_la : hAt h la = some (arI 6 lf)) (k_rr : hAt h rr = some (ruC r)) (hp : p_X3_sought w lf r) : Cd G 2 yX3_sought cX3_sought 2 (some .int) [.ref a, .ref rr] h (some (.int (f_X3_sought w lf r))) h := by
  refine Ct.of (by decide) (by rfl) ?_
  refine Wp.eqs (L' := [(0, .ref a), (1, .ref rr)]) (st' := []) rfl rfl ?_
  obtain ⟨R, er⟩ : ∃ R, f_X3_sought w lf r = R := ⟨_, rfl⟩
  rw [er]
  unfold f_X3_sought at er
  unfold p_X3_sought at hp
  refine x_aload_n (pc := 0) dX3_sought_0 rfl ?_
  refine x_getf (pc := 1) (v := .int (r 0)) dX3_sought_1 xf_X3_28 k_rr rfl ?_
  refine x_aload_n (pc := 4) dX3_sought_4 rfl ?_
  refine x_getf (pc := 5) (v := .int (r 1)) dX3_sought_5 xf_X3_36 k_rr rfl ?_
  refine x_aload_n (pc := 8) dX3_sought_8 rfl ?_
  obtain ⟨q9, hp⟩ := hp
  refine x_cV0i (pc := 9) dX3_sought_9 xl_X3_76 xv_X3_passes k_a rfl (C_X3_passes G _ a la ka w lf k_a k_la q9) rfl rfl rfl ?_
  obtain ⟨F1, eF1⟩ : ∃ F, f_X3_passes w lf = F := ⟨_, rfl⟩
  rw [eF1]
  try rw [eF1] at er
  try rw [eF1] at hp
  refine x_min (pc := 12) dX3_sought_12 xl_X3_80 rfl rfl rfl rfl rfl ?_
  refine x_max (pc := 15) dX3_sought_15 xl_X3_86 rfl rfl rfl rfl rfl ?_
  subst er
  exact x_iret (pc := 18) dX3_sought_18 rfl rfl rfl rfl ⟨rfl, rfl⟩

def f_X3_drawn (w r : Nat → Int32) (k : Int32) : Int32 := ((((((((7919 : Int64) * ((r 4)).toInt64) + ((6151 : Int64) * ((w 24)).toInt64)) + ((3571 : Int64) * (k).toInt64)) + (1 : Int64)) * (((((7919 : Int64) * ((r 4)).toInt64) + ((6151 : Int64) * ((w 24)).toInt64)) + ((3571 : Int64) * (k).toInt64)) + (1 : Int64))) - ((((((7919 : Int64) * ((r 4)).toInt64) + ((6151 : Int64) * ((w 24)).toInt64)) + ((3571 : Int64) * (k).toInt64)) + (1 : Int64)) * (((((7919 : Int64) * ((r 4)).toInt64) + ((6151 : Int64) * ((w 24)).toInt64)) + ((3571 : Int64) * (k).toInt64)) + (1 : Int64))) / (65521 : Int64) * (65521 : Int64))).toInt32
set_option maxRecDepth 100000 in
set_option maxHeartbeats 4000000 in
theorem C_X3_drawn (G : xG) (h : xH) (a rr la ka : Nat) (w r : Nat → Int32) (k : Int32) (k_a : hAt h a = some (waC la ka w)) (k_rr : hAt h rr = some (ruC r)) : Cd G 0 yX3_drawn cX3_drawn 5 (some .int) [.ref a, .int k, .ref rr] h (some (.int (f_X3_drawn w r k))) h := by
  refine Ct.of (by decide) (by rfl) ?_
  refine Wp.eqs (L' := [(0, .ref a), (1, .int k), (2, .ref rr)]) (st' := []) rfl rfl ?_
  obtain ⟨R, er⟩ : ∃ R, f_X3_drawn w r k = R := ⟨_, rfl⟩
  rw [er]
  unfold f_X3_drawn at er
  refine x_ldc2 (pc := 0) (v := (7919 : Int64)) dX3_drawn_0 xk_X3_89 ?_
  refine x_aload_n (pc := 3) dX3_drawn_3 rfl ?_
  refine x_getf (pc := 4) (v := .int (r 4)) dX3_drawn_4 xf_X3_91 k_rr rfl ?_
  refine x_i2l (pc := 7) dX3_drawn_7 ?_
  refine x_lmul (pc := 8) dX3_drawn_8 ?_
  refine x_ldc2 (pc := 9) (v := (6151 : Int64)) dX3_drawn_9 xk_X3_94 ?_
  refine x_aload_n (pc := 12) dX3_drawn_12 rfl ?_
  refine x_getf (pc := 13) (v := .int (w 24)) dX3_drawn_13 xf_X3_18 k_a rfl ?_
  refine x_i2l (pc := 16) dX3_drawn_16 ?_
  refine x_lmul (pc := 17) dX3_drawn_17 ?_
  refine x_ladd (pc := 18) dX3_drawn_18 ?_
  refine x_ldc2 (pc := 19) (v := (3571 : Int64)) dX3_drawn_19 xk_X3_96 ?_
  refine x_iload_n (pc := 22) dX3_drawn_22 rfl ?_
  refine x_i2l (pc := 23) dX3_drawn_23 ?_
  refine x_lmul (pc := 24) dX3_drawn_24 ?_
  refine x_ladd (pc := 25) dX3_drawn_25 ?_
  refine x_lconst (pc := 26) (v := (1 : Int64)) dX3_drawn_26 (by decide) ?_
  refine x_ladd (pc := 27) dX3_drawn_27 ?_
  refine x_lstore_n (pc := 28) (L' := [(3, .long (((((7919 : Int64) * ((r 4)).toInt64) + ((6151 : Int64) * ((w 24)).toInt64)) + ((3571 : Int64) * (k).toInt64)) + (1 : Int64))), (0, .ref a), (1, .int k), (2, .ref rr)]) dX3_drawn_28 rfl rfl ?_
  refine x_lload_n (pc := 29) dX3_drawn_29 rfl ?_
  refine x_lload_n (pc := 30) dX3_drawn_30 rfl ?_
  refine x_lmul (pc := 31) dX3_drawn_31 ?_
  refine x_ldc2 (pc := 32) (v := (65521 : Int64)) dX3_drawn_32 xk_X3_98 ?_
  refine x_lrem (pc := 35) dX3_drawn_35 (by decide) ?_
  refine x_l2i (pc := 36) dX3_drawn_36 ?_
  subst er
  exact x_iret (pc := 37) dX3_drawn_37 rfl rfl rfl rfl ⟨rfl, rfl⟩

def l_X3_dropper_2 : Nat → (Nat → Int32) → (Nat → Int32) → Int32 → Int32 → Int32
  | 0, _, _, _, _ => 0
  | n + 1, w, lf, size, v2 => (if (w 11) ≤ v2 then (-4 : Int32) else (if size ≤ (lf (v2.toNatClampNeg)) then (l_X3_dropper_2 n w lf size (v2 + (1 : Int32))) else v2))
def q_X3_dropper_2 : Nat → (Nat → Int32) → (Nat → Int32) → Int32 → Int32 → Prop
  | 0, _, _, _, _ => False
  | n + 1, w, lf, size, v2 => (((w 11) ≤ v2 → True) ∧ (¬ ((w 11) ≤ v2) → (vp_in v2 6 ∧ ((size ≤ (lf (v2.toNatClampNeg)) → (q_X3_dropper_2 n w lf size (v2 + (1 : Int32)))) ∧ (¬ (size ≤ (lf (v2.toNatClampNeg))) → True)))))
set_option maxRecDepth 100000 in
set_option maxHeartbeats 4000000 in
theorem L_X3_dropper_2 (G : xG) (h : xH) (a la ka : Nat) (w lf : Nat → Int32) (size : Int32) (k_a : hAt h a = some (waC la ka w)) (k_la : hAt h la = some (arI 6 lf)) : ∀ (n : Nat) (v2 : Int32), q_X3_dropper_2 n w lf size v2 → Wp G yX3_dropper.cls cX3_dropper 3 yX3_dropper.name (some .int) (xR 0 0 0) (xZd G (some (.int (l_X3_dropper_2 n w lf size v2))) h) 0 0 2 [(2, .int v2), (0, .ref a), (1, .int size)] [] h := by
  intro n
  induction n with
  | zero => intro v2 hp; exact absurd hp id
  | succ n ih =>
    intro v2 hp
    obtain ⟨R, er⟩ : ∃ R, l_X3_dropper_2 (n + 1) w lf size v2 = R := ⟨_, rfl⟩
    rw [er]
    rw [l_X3_dropper_2] at er
    rw [q_X3_dropper_2] at hp
    refine x_iload_n (pc := 2) dX3_dropper_2 rfl ?_
    refine x_aload_n (pc := 3) dX3_dropper_3 rfl ?_
    refine x_getf (pc := 4) (v := .int (w 11)) dX3_dropper_4 xf_X3_22 k_a rfl ?_
    refine x_icmp_ge (pc := 7) (tgt := 28) dX3_dropper_7 (by decide) (fun (c1 : (w 11) ≤ v2) => ?_) (fun (c1 : ¬ ((w 11) ≤ v2)) => ?_)
    · rw [if_pos c1] at er
      replace hp := hp.1 c1
      refine x_bipush (pc := 28) (v := (-4 : Int32)) dX3_dropper_28 (by decide) ?_
      subst er
      exact x_iret (pc := 30) dX3_dropper_30 rfl rfl rfl rfl ⟨rfl, rfl⟩
    · rw [if_neg c1] at er
      replace hp := hp.2 c1
      refine x_aload_n (pc := 10) dX3_dropper_10 rfl ?_
      refine x_getf (pc := 11) (v := .ref la) dX3_dropper_11 xf_X3_9 k_a rfl ?_
      refine x_iload_n (pc := 14) dX3_dropper_14 rfl ?_
      obtain ⟨q15, hp⟩ := hp
      refine x_iald (pc := 15) dX3_dropper_15 k_la q15 (j := (v2.toNatClampNeg)) rfl ?_
      refine x_iload_n (pc := 16) dX3_dropper_16 rfl ?_
      refine x_icmp_ge (pc := 17) (tgt := 22) dX3_dropper_17 (by decide) (fun (c2 : size ≤ (lf (v2.toNatClampNeg))) => ?_) (fun (c2 : ¬ (size ≤ (lf (v2.toNatClampNeg)))) => ?_)
      · rw [if_pos c2] at er
        replace hp := hp.1 c2
        refine x_iinc (pc := 22) (v := (v2 + (1 : Int32))) (L' := [(2, .int (v2 + (1 : Int32))), (0, .ref a), (1, .int size)]) dX3_dropper_22 rfl rfl rfl rfl ?_
        refine x_goto (pc := 25) (tgt := 2) dX3_dropper_25 (by decide) ?_
        subst er
        exact ih (v2 + (1 : Int32)) hp
      · rw [if_neg c2] at er
        replace hp := hp.2 c2
        refine x_iload_n (pc := 20) dX3_dropper_20 rfl ?_
        subst er
        exact x_iret (pc := 21) dX3_dropper_21 rfl rfl rfl rfl ⟨rfl, rfl⟩
def f_X3_dropper (w lf : Nat → Int32) (size : Int32) : Int32 := (l_X3_dropper_2 xK w lf size (0 : Int32))
def p_X3_dropper (w lf : Nat → Int32) (size : Int32) : Prop := (q_X3_dropper_2 xK w lf size (0 : Int32))
set_option maxRecDepth 100000 in
set_option maxHeartbeats 4000000 in
theorem C_X3_dropper (G : xG) (h : xH) (a la ka : Nat) (w lf : Nat → Int32) (size : Int32) (k_a : hAt h a = some (waC la ka w)) (k_la : hAt h la = some (arI 6 lf)) (hp : p_X3_dropper w lf size) : Cd G 0 yX3_dropper cX3_dropper 3 (some .int) [.ref a, .int size] h (some (.int (f_X3_dropper w lf size))) h := by
  refine Ct.of (by decide) (by rfl) ?_
  refine Wp.eqs (L' := [(0, .ref a), (1, .int size)]) (st' := []) rfl rfl ?_
  obtain ⟨R, er⟩ : ∃ R, f_X3_dropper w lf size = R := ⟨_, rfl⟩
  rw [er]
  unfold f_X3_dropper at er
  unfold p_X3_dropper at hp
  refine x_iconst (pc := 0) (v := (0 : Int32)) dX3_dropper_0 (by decide) ?_
  refine x_istore_n (pc := 1) (L' := [(2, .int (0 : Int32)), (0, .ref a), (1, .int size)]) dX3_dropper_1 rfl rfl ?_
  subst er
  exact L_X3_dropper_2 G h a la ka w lf size k_a k_la  xK (0 : Int32) hp

def f_X3_meeting (w lf kf : Nat → Int32) (size : Int32) : Int32 := (if (f_X3_dropper w lf size) = (-4 : Int32) then (0 : Int32) else (if (kf ((f_X3_dropper w lf size).toNatClampNeg)) = (0 : Int32) then ((2 : Int32) + (lf ((f_X3_dropper w lf size).toNatClampNeg))) else (if (kf ((f_X3_dropper w lf size).toNatClampNeg)) = (1 : Int32) then ((2 : Int32) + (if (0 : Int32) < ((lf ((f_X3_dropper w lf size).toNatClampNeg)) - (40 : Int32)) then ((lf ((f_X3_dropper w lf size).toNatClampNeg)) - (40 : Int32)) else (0 : Int32))) else (if (kf ((f_X3_dropper w lf size).toNatClampNeg)) = (2 : Int32) then ((2 : Int32) + (size / (2 : Int32))) else (1 : Int32)))))
def p_X3_meeting (w lf kf : Nat → Int32) (size : Int32) : Prop := (p_X3_dropper w lf size ∧ (((f_X3_dropper w lf size) = (-4 : Int32) → True) ∧ (¬ ((f_X3_dropper w lf size) = (-4 : Int32)) → (vp_in (f_X3_dropper w lf size) 6 ∧ (((kf ((f_X3_dropper w lf size).toNatClampNeg)) = (0 : Int32) → (vp_in (f_X3_dropper w lf size) 6 ∧ True)) ∧ (¬ ((kf ((f_X3_dropper w lf size).toNatClampNeg)) = (0 : Int32)) → (((kf ((f_X3_dropper w lf size).toNatClampNeg)) = (1 : Int32) → (vp_in (f_X3_dropper w lf size) 6 ∧ True)) ∧ (¬ ((kf ((f_X3_dropper w lf size).toNatClampNeg)) = (1 : Int32)) → (((kf ((f_X3_dropper w lf size).toNatClampNeg)) = (2 : Int32) → True) ∧ (¬ ((kf ((f_X3_dropper w lf size).toNatClampNeg)) = (2 : Int32)) → True))))))))))
set_option maxRecDepth 100000 in
set_option maxHeartbeats 4000000 in
theorem C_X3_meeting (G : xG) (h : xH) (a la ka : Nat) (w lf kf : Nat → Int32) (size : Int32) (k_a : hAt h a = some (waC la ka w)) (k_la : hAt h la = some (arI 6 lf)) (k_ka : hAt h ka = some (arI 6 kf)) (hp : p_X3_meeting w lf kf size) : Cd G 1 yX3_meeting cX3_meeting 3 (some .int) [.ref a, .int size] h (some (.int (f_X3_meeting w lf kf size))) h := by
  refine Ct.of (by decide) (by rfl) ?_
  refine Wp.eqs (L' := [(0, .ref a), (1, .int size)]) (st' := []) rfl rfl ?_
  obtain ⟨R, er⟩ : ∃ R, f_X3_meeting w lf kf size = R := ⟨_, rfl⟩
  rw [er]
  unfold f_X3_meeting at er
  unfold p_X3_meeting at hp
  refine x_aload_n (pc := 0) dX3_meeting_0 rfl ?_
  refine x_iload_n (pc := 1) dX3_meeting_1 rfl ?_
  obtain ⟨q2, hp⟩ := hp
  refine x_cV1i (pc := 2) dX3_meeting_2 xl_X3_100 xv_X3_dropper k_a rfl (C_X3_dropper G _ a la ka w lf size k_a k_la q2) rfl rfl rfl ?_
  obtain ⟨F1, eF1⟩ : ∃ F, f_X3_dropper w lf size = F := ⟨_, rfl⟩
  rw [eF1]
  try rw [eF1] at er
  try rw [eF1] at hp
  refine x_istore_n (pc := 5) (L' := [(2, .int F1), (0, .ref a), (1, .int size)]) dX3_meeting_5 rfl rfl ?_
  refine x_iload_n (pc := 6) dX3_meeting_6 rfl ?_
  refine x_bipush (pc := 7) (v := (-4 : Int32)) dX3_meeting_7 (by decide) ?_
  refine x_icmp_ne (pc := 9) (tgt := 14) dX3_meeting_9 (by decide) (fun (c1 : ¬ (F1 = (-4 : Int32))) => ?_) (fun (c1 : F1 = (-4 : Int32)) => ?_)
  · rw [if_neg c1] at er
    replace hp := hp.2 c1
    refine x_aload_n (pc := 14) dX3_meeting_14 rfl ?_
    refine x_getf (pc := 15) (v := .ref ka) dX3_meeting_15 xf_X3_15 k_a rfl ?_
    refine x_iload_n (pc := 18) dX3_meeting_18 rfl ?_
    obtain ⟨q19, hp⟩ := hp
    refine x_iald (pc := 19) dX3_meeting_19 k_ka q19 (j := (F1.toNatClampNeg)) rfl ?_
    by_cases c2 : (kf (F1.toNatClampNeg)) = (0 : Int32)
    · rw [if_pos c2] at er
      replace hp := hp.1 c2
      refine x_tabIn (pc := 20) (off := 28) (tgt := 48) dX3_meeting_20 (by rw [c2]; decide) (by rw [c2]; decide) (by rw [c2]; rfl) (by decide) ?_
      refine x_iconst (pc := 48) (v := (2 : Int32)) dX3_meeting_48 (by decide) ?_
      refine x_aload_n (pc := 49) dX3_meeting_49 rfl ?_
      refine x_getf (pc := 50) (v := .ref la) dX3_meeting_50 xf_X3_9 k_a rfl ?_
      refine x_iload_n (pc := 53) dX3_meeting_53 rfl ?_
      obtain ⟨q54, hp⟩ := hp
      refine x_iald (pc := 54) dX3_meeting_54 k_la q54 (j := (F1.toNatClampNeg)) rfl ?_
      refine x_iadd (pc := 55) dX3_meeting_55 ?_
      subst er
      exact x_iret (pc := 56) dX3_meeting_56 rfl rfl rfl rfl ⟨rfl, rfl⟩
    rw [if_neg c2] at er
    replace hp := hp.2 c2
    by_cases c3 : (kf (F1.toNatClampNeg)) = (1 : Int32)
    · rw [if_pos c3] at er
      replace hp := hp.1 c3
      refine x_tabIn (pc := 20) (off := 37) (tgt := 57) dX3_meeting_20 (by rw [c3]; decide) (by rw [c3]; decide) (by rw [c3]; rfl) (by decide) ?_
      refine x_iconst (pc := 57) (v := (2 : Int32)) dX3_meeting_57 (by decide) ?_
      refine x_iconst (pc := 58) (v := (0 : Int32)) dX3_meeting_58 (by decide) ?_
      refine x_aload_n (pc := 59) dX3_meeting_59 rfl ?_
      refine x_getf (pc := 60) (v := .ref la) dX3_meeting_60 xf_X3_9 k_a rfl ?_
      refine x_iload_n (pc := 63) dX3_meeting_63 rfl ?_
      obtain ⟨q64, hp⟩ := hp
      refine x_iald (pc := 64) dX3_meeting_64 k_la q64 (j := (F1.toNatClampNeg)) rfl ?_
      refine x_bipush (pc := 65) (v := (40 : Int32)) dX3_meeting_65 (by decide) ?_
      refine x_isub (pc := 67) dX3_meeting_67 ?_
      refine x_max (pc := 68) dX3_meeting_68 xl_X3_86 rfl rfl rfl rfl rfl ?_
      refine x_iadd (pc := 71) dX3_meeting_71 ?_
      subst er
      exact x_iret (pc := 72) dX3_meeting_72 rfl rfl rfl rfl ⟨rfl, rfl⟩
    rw [if_neg c3] at er
    replace hp := hp.2 c3
    by_cases c4 : (kf (F1.toNatClampNeg)) = (2 : Int32)
    · rw [if_pos c4] at er
      replace hp := hp.1 c4
      refine x_tabIn (pc := 20) (off := 53) (tgt := 73) dX3_meeting_20 (by rw [c4]; decide) (by rw [c4]; decide) (by rw [c4]; rfl) (by decide) ?_
      refine x_iconst (pc := 73) (v := (2 : Int32)) dX3_meeting_73 (by decide) ?_
      refine x_iload_n (pc := 74) dX3_meeting_74 rfl ?_
      refine x_iconst (pc := 75) (v := (2 : Int32)) dX3_meeting_75 (by decide) ?_
      refine x_idiv (pc := 76) dX3_meeting_76 (by decide) ?_
      refine x_iadd (pc := 77) dX3_meeting_77 ?_
      subst er
      exact x_iret (pc := 78) dX3_meeting_78 rfl rfl rfl rfl ⟨rfl, rfl⟩
    rw [if_neg c4] at er
    replace hp := hp.2 c4
    refine x_tabOut (pc := 20) (tgt := 79) dX3_meeting_20 (by have zc2 := xneL c2 (z := 0) rfl; have zc3 := xneL c3 (z := 1) rfl; have zc4 := xneL c4 (z := 2) rfl; omega) (by decide) ?_
    refine x_iconst (pc := 79) (v := (1 : Int32)) dX3_meeting_79 (by decide) ?_
    subst er
    exact x_iret (pc := 80) dX3_meeting_80 rfl rfl rfl rfl ⟨rfl, rfl⟩
  · rw [if_pos c1] at er
    replace hp := hp.1 c1
    refine x_iconst (pc := 12) (v := (0 : Int32)) dX3_meeting_12 (by decide) ?_
    subst er
    exact x_iret (pc := 13) dX3_meeting_13 rfl rfl rfl rfl ⟨rfl, rfl⟩

def g_X3_isLost_2 (r : (Nat → Int32)) (met : Int32) (size : Int32) : Int32 := (if met = (1 : Int32) then (1 : Int32) else (if met < (2 : Int32) then (0 : Int32) else (if (f_X1_trusts r (met - (2 : Int32)) size) = 0 then (1 : Int32) else (0 : Int32))))
theorem Bg_X3_isLost_2 (r : (Nat → Int32)) (met : Int32) (size : Int32) : xB (g_X3_isLost_2 r met size) := by
  unfold g_X3_isLost_2
  exact (xB_ite xB1 (xB_ite xB0 (xB_ite xB1 xB0)))
def f_X3_isLost (w r : Nat → Int32) (met size : Int32) : Int32 := (g_X3_isLost_2 r met size)
set_option maxRecDepth 100000 in
set_option maxHeartbeats 4000000 in
theorem C_X3_isLost (G : xG) (h : xH) (a rr la ka : Nat) (w r : Nat → Int32) (met size : Int32) (k_a : hAt h a = some (waC la ka w)) (k_rr : hAt h rr = some (ruC r)) : Cd G 1 yX3_isLost cX3_isLost 4 (some .boolean) [.ref a, .int met, .int size, .ref rr] h (some (.int (f_X3_isLost w r met size))) h := by
  refine Ct.of (by decide) (by rfl) ?_
  refine Wp.eqs (L' := [(0, .ref a), (1, .int met), (2, .int size), (3, .ref rr)]) (st' := []) rfl rfl ?_
  obtain ⟨R, er⟩ : ∃ R, f_X3_isLost w r met size = R := ⟨_, rfl⟩
  rw [er]
  unfold f_X3_isLost at er
  refine x_iload_n (pc := 0) dX3_isLost_0 rfl ?_
  refine x_iconst (pc := 1) (v := (1 : Int32)) dX3_isLost_1 (by decide) ?_
  obtain ⟨F3, eF3⟩ : ∃ F, g_X3_isLost_2 r met size = F := ⟨_, rfl⟩
  try rw [eF3] at er
  have bF3 : xB F3 := by rw [← eF3]; exact (Bg_X3_isLost_2 _ _ _)
  refine x_mrg (pc' := 26) (L' := [(0, .ref a), (1, .int met), (2, .int size), (3, .ref rr)]) (st' := [.int F3]) (h' := h) (fun J => ?_) ?_
  · unfold g_X3_isLost_2 at eF3
    refine x_icmp_eq (pc := 2) (tgt := 21) dX3_isLost_2 (by decide) (fun (c4 : met = (1 : Int32)) => ?_) (fun (c4 : ¬ (met = (1 : Int32))) => ?_)
    · rw [if_pos c4] at eF3
      refine x_iconst (pc := 21) (v := (1 : Int32)) dX3_isLost_21 (by decide) ?_
      refine x_goto (pc := 22) (tgt := 26) dX3_isLost_22 (by decide) ?_
      subst eF3
      exact J
    · rw [if_neg c4] at eF3
      refine x_iload_n (pc := 5) dX3_isLost_5 rfl ?_
      refine x_iconst (pc := 6) (v := (2 : Int32)) dX3_isLost_6 (by decide) ?_
      refine x_icmp_lt (pc := 7) (tgt := 25) dX3_isLost_7 (by decide) (fun (c5 : met < (2 : Int32)) => ?_) (fun (c5 : ¬ (met < (2 : Int32))) => ?_)
      · rw [if_pos c5] at eF3
        refine x_iconst (pc := 25) (v := (0 : Int32)) dX3_isLost_25 (by decide) ?_
        subst eF3
        exact J
      · rw [if_neg c5] at eF3
        refine x_aload_n (pc := 10) dX3_isLost_10 rfl ?_
        refine x_iload_n (pc := 11) dX3_isLost_11 rfl ?_
        refine x_iconst (pc := 12) (v := (2 : Int32)) dX3_isLost_12 (by decide) ?_
        refine x_isub (pc := 13) dX3_isLost_13 ?_
        refine x_iload_n (pc := 14) dX3_isLost_14 rfl ?_
        refine x_cV2i (pc := 15) dX3_isLost_15 xl_X3_115 xv_X1_trusts k_rr rfl (C_X1_trusts G _ rr r (met - (2 : Int32)) size k_rr) rfl rfl rfl ?_
        obtain ⟨F2, eF2⟩ : ∃ F, f_X1_trusts r (met - (2 : Int32)) size = F := ⟨_, rfl⟩
        rw [eF2]
        try rw [eF2] at eF3
        have bF2 : xB F2 := by rw [← eF2]; exact (B_X1_trusts _ _ _)
        refine x_if_ne (pc := 18) (tgt := 25) dX3_isLost_18 (by decide) (fun (c6 : ¬ (F2 = 0)) => ?_) (fun (c6 : F2 = 0) => ?_)
        · rw [if_neg c6] at eF3
          refine x_iconst (pc := 25) (v := (0 : Int32)) dX3_isLost_25 (by decide) ?_
          subst eF3
          exact J
        · rw [if_pos c6] at eF3
          refine x_iconst (pc := 21) (v := (1 : Int32)) dX3_isLost_21 (by decide) ?_
          refine x_goto (pc := 22) (tgt := 26) dX3_isLost_22 (by decide) ?_
          subst eF3
          exact J
  subst er
  exact x_iret (pc := 26) dX3_isLost_26 rfl (xb_nar bF3) rfl rfl ⟨rfl, rfl⟩
theorem B_X3_isLost (w r : Nat → Int32) (met size : Int32) : xB (f_X3_isLost w r met size) := by
  unfold f_X3_isLost
  exact (Bg_X3_isLost_2 _ _ _)

def g_X3_post_26 (w : (Nat → Int32)) (lf : (Nat → Int32)) (kf : (Nat → Int32)) (size : Int32) (v3 : Int32) : Int32 := (if v3 = 0 then (f_X3_meeting w lf kf size) else (1 : Int32))
def h_X3_post_26 (w : (Nat → Int32)) (lf : (Nat → Int32)) (kf : (Nat → Int32)) (size : Int32) (v3 : Int32) : Prop := ((v3 = 0 → (p_X3_meeting w lf kf size ∧ True)) ∧ (¬ (v3 = 0) → True))
def g_X3_post_58 (v4 : Int32) (x_a : (Nat → Int32)) (y0 : Int32) : (Nat → Int32) := (if y0 = 0 then (if v4 < (2 : Int32) then x_a else (upd x_a 9 ((x_a 9) + (1 : Int32)))) else (upd x_a 8 ((x_a 8) + (1 : Int32))))
def f_X3_post (w lf kf r : Nat → Int32) (size : Int32) : Int32 × (Nat → Int32) := ((g_X3_post_26 w lf kf size ((if (w 10) ≤ ((f_X3_drawn w r (w 7)) - (f_X3_drawn w r (w 7)) / (100 : Int32) * (100 : Int32)) then (0 : Int32) else (1 : Int32)))), (g_X3_post_58 (g_X3_post_26 w lf kf size ((if (w 10) ≤ ((f_X3_drawn w r (w 7)) - (f_X3_drawn w r (w 7)) / (100 : Int32) * (100 : Int32)) then (0 : Int32) else (1 : Int32)))) (upd w 7 ((w 7) + (1 : Int32))) (f_X3_isLost (upd w 7 ((w 7) + (1 : Int32))) r (g_X3_post_26 w lf kf size ((if (w 10) ≤ ((f_X3_drawn w r (w 7)) - (f_X3_drawn w r (w 7)) / (100 : Int32) * (100 : Int32)) then (0 : Int32) else (1 : Int32)))) size)))
def p_X3_post (w lf kf r : Nat → Int32) (size : Int32) : Prop := ((h_X3_post_26 w lf kf size ((if (w 10) ≤ ((f_X3_drawn w r (w 7)) - (f_X3_drawn w r (w 7)) / (100 : Int32) * (100 : Int32)) then (0 : Int32) else (1 : Int32)))) ∧ True)
set_option maxRecDepth 100000 in
set_option maxHeartbeats 4000000 in
theorem C_X3_post (G : xG) (h : xH) (a rr la ka : Nat) (w lf kf r : Nat → Int32) (size : Int32) (k_a : hAt h a = some (waC la ka w)) (k_la : hAt h la = some (arI 6 lf)) (k_ka : hAt h ka = some (arI 6 kf)) (k_rr : hAt h rr = some (ruC r)) (hp : p_X3_post w lf kf r size) : Cd G 2 yX3_post cX3_post 5 (some .int) [.ref a, .int size, .ref rr] h (some (.int (f_X3_post w lf kf r size).1)) (hSet h a (waC la ka (f_X3_post w lf kf r size).2)) := by
  have n_ka_a : ka ≠ a := hne_k k_ka k_a rfl
  have n_la_a : la ≠ a := hne_k k_la k_a rfl
  have n_rr_a : rr ≠ a := hne_k k_rr k_a rfl
  refine Ct.of (by decide) (by rfl) ?_
  refine Wp.eqs (L' := [(0, .ref a), (1, .int size), (2, .ref rr)]) (st' := []) rfl rfl ?_
  refine Wp.eqh (h' := (hSet h a (waC la ka w))) (by rw [hSet_self k_a]) ?_
  obtain ⟨R, er⟩ : ∃ R, f_X3_post w lf kf r size = R := ⟨_, rfl⟩
  rw [er]
  unfold f_X3_post at er
  unfold p_X3_post at hp
  refine x_aload_n (pc := 0) dX3_post_0 rfl ?_
  refine x_aload_n (pc := 1) dX3_post_1 rfl ?_
  refine x_getf (pc := 2) (v := .int (w 7)) dX3_post_2 xf_X3_61 hAt_same rfl ?_
  refine x_aload_n (pc := 5) dX3_post_5 rfl ?_
  refine x_cV2i (pc := 6) dX3_post_6 xl_X3_104 xv_X3_drawn hAt_same rfl (C_X3_drawn G _ a rr la ka w r (w 7) hAt_same (hAt_n n_rr_a k_rr)) rfl rfl rfl ?_
  obtain ⟨F1, eF1⟩ : ∃ F, f_X3_drawn w r (w 7) = F := ⟨_, rfl⟩
  rw [eF1]
  try rw [eF1] at er
  try rw [eF1] at hp
  refine x_bipush (pc := 9) (v := (100 : Int32)) dX3_post_9 (by decide) ?_
  refine x_irem (pc := 11) dX3_post_11 (by decide) ?_
  refine x_aload_n (pc := 12) dX3_post_12 rfl ?_
  refine x_getf (pc := 13) (v := .int (w 10)) dX3_post_13 xf_X3_25 hAt_same rfl ?_
  obtain ⟨F2, eF2⟩ : ∃ F, (if (w 10) ≤ (F1 - F1 / (100 : Int32) * (100 : Int32)) then (0 : Int32) else (1 : Int32)) = F := ⟨_, rfl⟩
  try rw [eF2] at er
  try rw [eF2] at hp
  have bF2 : xB F2 := by rw [← eF2]; exact (xB_ite xB0 xB1)
  refine x_mrg (pc' := 24) (L' := [(0, .ref a), (1, .int size), (2, .ref rr)]) (st' := [.int F2]) (h' := (hSet h a (waC la ka w))) (fun J => ?_) ?_
  · refine x_icmp_ge (pc := 16) (tgt := 23) dX3_post_16 (by decide) (fun (c1 : (w 10) ≤ (F1 - F1 / (100 : Int32) * (100 : Int32))) => ?_) (fun (c1 : ¬ ((w 10) ≤ (F1 - F1 / (100 : Int32) * (100 : Int32)))) => ?_)
    · refine x_iconst (pc := 23) (v := (0 : Int32)) dX3_post_23 (by decide) ?_
      rw [if_pos c1] at eF2
      subst eF2
      exact J
    · refine x_iconst (pc := 19) (v := (1 : Int32)) dX3_post_19 (by decide) ?_
      refine x_goto (pc := 20) (tgt := 24) dX3_post_20 (by decide) ?_
      rw [if_neg c1] at eF2
      subst eF2
      exact J
  refine x_istore_n (pc := 24) (L' := [(3, .int F2), (0, .ref a), (1, .int size), (2, .ref rr)]) dX3_post_24 rfl rfl ?_
  refine x_iload_n (pc := 25) dX3_post_25 rfl ?_
  obtain ⟨qr26, hp⟩ := hp
  obtain ⟨F5, eF5⟩ : ∃ F, g_X3_post_26 w lf kf size F2 = F := ⟨_, rfl⟩
  try rw [eF5] at er
  try rw [eF5] at hp
  refine x_mrg (pc' := 38) (L' := [(3, .int F2), (0, .ref a), (1, .int size), (2, .ref rr)]) (st' := [.int F5]) (h' := (hSet h a (waC la ka w))) (fun J => ?_) ?_
  · unfold g_X3_post_26 at eF5
    unfold h_X3_post_26 at qr26
    try rw [eF1] at eF5
    try rw [eF1] at qr26
    try rw [eF2] at eF5
    try rw [eF2] at qr26
    refine x_if_eq (pc := 26) (tgt := 33) dX3_post_26 (by decide) (fun (c3 : F2 = 0) => ?_) (fun (c3 : ¬ (F2 = 0)) => ?_)
    · rw [if_pos c3] at eF5
      replace qr26 := qr26.1 c3
      refine x_aload_n (pc := 33) dX3_post_33 rfl ?_
      refine x_iload_n (pc := 34) dX3_post_34 rfl ?_
      obtain ⟨q35, qr26⟩ := qr26
      refine x_cV1i (pc := 35) dX3_post_35 xl_X3_108 xv_X3_meeting hAt_same rfl (C_X3_meeting G _ a la ka w lf kf size hAt_same (hAt_n n_la_a k_la) (hAt_n n_ka_a k_ka) q35) rfl rfl rfl ?_
      obtain ⟨F4, eF4⟩ : ∃ F, f_X3_meeting w lf kf size = F := ⟨_, rfl⟩
      rw [eF4]
      try rw [eF4] at eF5
      try rw [eF4] at qr26
      subst eF5
      exact J
    · rw [if_neg c3] at eF5
      replace qr26 := qr26.2 c3
      refine x_iconst (pc := 29) (v := (1 : Int32)) dX3_post_29 (by decide) ?_
      refine x_goto (pc := 30) (tgt := 38) dX3_post_30 (by decide) ?_
      subst eF5
      exact J
  refine x_istore (pc := 38) (L' := [(4, .int F5), (3, .int F2), (0, .ref a), (1, .int size), (2, .ref rr)]) dX3_post_38 rfl rfl ?_
  refine x_aload_n (pc := 40) dX3_post_40 rfl ?_
  refine x_dup (pc := 41) dX3_post_41 rfl ?_
  refine x_getf (pc := 42) (v := .int (w 7)) dX3_post_42 xf_X3_61 hAt_same rfl ?_
  refine x_iconst (pc := 45) (v := (1 : Int32)) dX3_post_45 (by decide) ?_
  refine x_iadd (pc := 46) dX3_post_46 ?_
  refine x_putf (pc := 47) (e' := waC la ka (upd w 7 ((w 7) + (1 : Int32)))) dX3_post_47 xf_X3_61 hAt_same rfl rfl rfl rfl ?_
  refine Wp.eqh (h' := (hSet h a (waC la ka (upd w 7 ((w 7) + (1 : Int32)))))) (hSet_set) ?_
  refine x_aload_n (pc := 50) dX3_post_50 rfl ?_
  refine x_iload (pc := 51) dX3_post_51 rfl ?_
  refine x_iload_n (pc := 53) dX3_post_53 rfl ?_
  refine x_aload_n (pc := 54) dX3_post_54 rfl ?_
  refine x_cV3i (pc := 55) dX3_post_55 xl_X3_111 xv_X3_isLost hAt_same rfl (C_X3_isLost G _ a rr la ka (upd w 7 ((w 7) + (1 : Int32))) r F5 size hAt_same (hAt_n n_rr_a k_rr)) rfl rfl rfl ?_
  obtain ⟨F6, eF6⟩ : ∃ F, f_X3_isLost (upd w 7 ((w 7) + (1 : Int32))) r F5 size = F := ⟨_, rfl⟩
  rw [eF6]
  try rw [eF6] at er
  try rw [eF6] at hp
  have bF6 : xB F6 := by rw [← eF6]; exact (B_X3_isLost _ _ _ _)
  obtain ⟨F7, eF7⟩ : ∃ F, g_X3_post_58 F5 (upd w 7 ((w 7) + (1 : Int32))) F6 = F := ⟨_, rfl⟩
  try rw [eF7] at er
  try rw [eF7] at hp
  refine x_mrg (pc' := 90) (L' := [(4, .int F5), (3, .int F2), (0, .ref a), (1, .int size), (2, .ref rr)]) (st' := []) (h' := (hSet h a (waC la ka F7))) (fun J => ?_) ?_
  · unfold g_X3_post_58 at eF7
    try rw [eF1] at eF7
    try rw [eF2] at eF7
    try rw [eF6] at eF7
    refine x_if_eq (pc := 58) (tgt := 74) dX3_post_58 (by decide) (fun (c6 : F6 = 0) => ?_) (fun (c6 : ¬ (F6 = 0)) => ?_)
    · rw [if_pos c6] at eF7
      refine x_iload (pc := 74) dX3_post_74 rfl ?_
      refine x_iconst (pc := 76) (v := (2 : Int32)) dX3_post_76 (by decide) ?_
      refine x_icmp_lt (pc := 77) (tgt := 90) dX3_post_77 (by decide) (fun (c7 : F5 < (2 : Int32)) => ?_) (fun (c7 : ¬ (F5 < (2 : Int32))) => ?_)
      · rw [if_pos c7] at eF7
        subst eF7
        exact J
      · rw [if_neg c7] at eF7
        refine x_aload_n (pc := 80) dX3_post_80 rfl ?_
        refine x_dup (pc := 81) dX3_post_81 rfl ?_
        refine x_getf (pc := 82) (v := .int ((upd w 7 ((w 7) + (1 : Int32))) 9)) dX3_post_82 xf_X3_67 hAt_same rfl ?_
        refine x_iconst (pc := 85) (v := (1 : Int32)) dX3_post_85 (by decide) ?_
        refine x_iadd (pc := 86) dX3_post_86 ?_
        refine x_putf (pc := 87) (e' := waC la ka (upd (upd w 7 ((w 7) + (1 : Int32))) 9 (((upd w 7 ((w 7) + (1 : Int32))) 9) + (1 : Int32)))) dX3_post_87 xf_X3_67 hAt_same rfl rfl rfl rfl ?_
        refine Wp.eqh (h' := (hSet h a (waC la ka (upd (upd w 7 ((w 7) + (1 : Int32))) 9 (((upd w 7 ((w 7) + (1 : Int32))) 9) + (1 : Int32)))))) (hSet_set) ?_
        subst eF7
        exact J
    · rw [if_neg c6] at eF7
      refine x_aload_n (pc := 61) dX3_post_61 rfl ?_
      refine x_dup (pc := 62) dX3_post_62 rfl ?_
      refine x_getf (pc := 63) (v := .int ((upd w 7 ((w 7) + (1 : Int32))) 8)) dX3_post_63 xf_X3_64 hAt_same rfl ?_
      refine x_iconst (pc := 66) (v := (1 : Int32)) dX3_post_66 (by decide) ?_
      refine x_iadd (pc := 67) dX3_post_67 ?_
      refine x_putf (pc := 68) (e' := waC la ka (upd (upd w 7 ((w 7) + (1 : Int32))) 8 (((upd w 7 ((w 7) + (1 : Int32))) 8) + (1 : Int32)))) dX3_post_68 xf_X3_64 hAt_same rfl rfl rfl rfl ?_
      refine Wp.eqh (h' := (hSet h a (waC la ka (upd (upd w 7 ((w 7) + (1 : Int32))) 8 (((upd w 7 ((w 7) + (1 : Int32))) 8) + (1 : Int32)))))) (hSet_set) ?_
      refine x_goto (pc := 71) (tgt := 90) dX3_post_71 (by decide) ?_
      subst eF7
      exact J
  refine x_iload (pc := 90) dX3_post_90 rfl ?_
  subst er
  exact x_iret (pc := 92) dX3_post_92 rfl rfl rfl rfl ⟨rfl, rfl⟩

def g_X3_lowerHigh_5 (w : (Nat → Int32)) (told : Int32) (y0 : Int32) : (Nat → Int32) := (if y0 ≤ told then w else (upd w 1 (if told < (w 0) then (w 0) else told)))
def f_X3_lowerHigh (w : Nat → Int32) (told : Int32) : (Nat → Int32) := (g_X3_lowerHigh_5 w told (w 1))
set_option maxRecDepth 100000 in
set_option maxHeartbeats 4000000 in
theorem C_X3_lowerHigh (G : xG) (h : xH) (a la ka : Nat) (w : Nat → Int32) (told : Int32) (k_a : hAt h a = some (waC la ka w)) : Cd G 1 yX3_lowerHigh cX3_lowerHigh 2 none [.ref a, .int told] h none (hSet h a (waC la ka (f_X3_lowerHigh w told))) := by
  refine Ct.of (by decide) (by rfl) ?_
  refine Wp.eqs (L' := [(0, .ref a), (1, .int told)]) (st' := []) rfl rfl ?_
  refine Wp.eqh (h' := (hSet h a (waC la ka w))) (by rw [hSet_self k_a]) ?_
  obtain ⟨R, er⟩ : ∃ R, f_X3_lowerHigh w told = R := ⟨_, rfl⟩
  rw [er]
  unfold f_X3_lowerHigh at er
  refine x_iload_n (pc := 0) dX3_lowerHigh_0 rfl ?_
  refine x_aload_n (pc := 1) dX3_lowerHigh_1 rfl ?_
  refine x_getf (pc := 2) (v := .int (w 1)) dX3_lowerHigh_2 xf_X3_39 hAt_same rfl ?_
  obtain ⟨F1, eF1⟩ : ∃ F, g_X3_lowerHigh_5 w told (w 1) = F := ⟨_, rfl⟩
  try rw [eF1] at er
  refine x_mrg (pc' := 20) (L' := [(0, .ref a), (1, .int told)]) (st' := []) (h' := (hSet h a (waC la ka F1))) (fun J => ?_) ?_
  · unfold g_X3_lowerHigh_5 at eF1
    refine x_icmp_ge (pc := 5) (tgt := 20) dX3_lowerHigh_5 (by decide) (fun (c2 : (w 1) ≤ told) => ?_) (fun (c2 : ¬ ((w 1) ≤ told)) => ?_)
    · rw [if_pos c2] at eF1
      subst eF1
      exact J
    · rw [if_neg c2] at eF1
      refine x_aload_n (pc := 8) dX3_lowerHigh_8 rfl ?_
      refine x_iload_n (pc := 9) dX3_lowerHigh_9 rfl ?_
      refine x_aload_n (pc := 10) dX3_lowerHigh_10 rfl ?_
      refine x_getf (pc := 11) (v := .int (w 0)) dX3_lowerHigh_11 xf_X3_33 hAt_same rfl ?_
      refine x_max (pc := 14) dX3_lowerHigh_14 xl_X3_86 rfl rfl rfl rfl rfl ?_
      refine x_putf (pc := 17) (e' := waC la ka (upd w 1 (if told < (w 0) then (w 0) else told))) dX3_lowerHigh_17 xf_X3_39 hAt_same rfl rfl rfl rfl ?_
      refine Wp.eqh (h' := (hSet h a (waC la ka (upd w 1 (if told < (w 0) then (w 0) else told))))) (hSet_set) ?_
      subst eF1
      exact J
  subst er
  exact x_vret (pc := 20) dX3_lowerHigh_20 rfl rfl rfl ⟨rfl, rfl⟩

def g_X3_growOlder_18 (r : (Nat → Int32)) (x_a : (Nat → Int32)) (y0 : Int32) (y1 : Int32) : (Nat → Int32) := (if y0 < y1 then x_a else (upd (upd x_a 5 (0 : Int32)) 1 (r 1)))
def f_X3_growOlder (w r : Nat → Int32) : (Nat → Int32) := (g_X3_growOlder_18 r (upd w 5 ((w 5) + (1 : Int32))) ((upd w 5 ((w 5) + (1 : Int32))) 5) (r 2))
set_option maxRecDepth 100000 in
set_option maxHeartbeats 4000000 in
theorem C_X3_growOlder (G : xG) (h : xH) (a rr la ka : Nat) (w r : Nat → Int32) (k_a : hAt h a = some (waC la ka w)) (k_rr : hAt h rr = some (ruC r)) : Cd G 0 yX3_growOlder cX3_growOlder 2 none [.ref a, .ref rr] h none (hSet h a (waC la ka (f_X3_growOlder w r))) := by
  have n_rr_a : rr ≠ a := hne_k k_rr k_a rfl
  refine Ct.of (by decide) (by rfl) ?_
  refine Wp.eqs (L' := [(0, .ref a), (1, .ref rr)]) (st' := []) rfl rfl ?_
  refine Wp.eqh (h' := (hSet h a (waC la ka w))) (by rw [hSet_self k_a]) ?_
  obtain ⟨R, er⟩ : ∃ R, f_X3_growOlder w r = R := ⟨_, rfl⟩
  rw [er]
  unfold f_X3_growOlder at er
  refine x_aload_n (pc := 0) dX3_growOlder_0 rfl ?_
  refine x_dup (pc := 1) dX3_growOlder_1 rfl ?_
  refine x_getf (pc := 2) (v := .int (w 5)) dX3_growOlder_2 xf_X3_55 hAt_same rfl ?_
  refine x_iconst (pc := 5) (v := (1 : Int32)) dX3_growOlder_5 (by decide) ?_
  refine x_iadd (pc := 6) dX3_growOlder_6 ?_
  refine x_putf (pc := 7) (e' := waC la ka (upd w 5 ((w 5) + (1 : Int32)))) dX3_growOlder_7 xf_X3_55 hAt_same rfl rfl rfl rfl ?_
  refine Wp.eqh (h' := (hSet h a (waC la ka (upd w 5 ((w 5) + (1 : Int32)))))) (hSet_set) ?_
  refine x_aload_n (pc := 10) dX3_growOlder_10 rfl ?_
  refine x_getf (pc := 11) (v := .int ((upd w 5 ((w 5) + (1 : Int32))) 5)) dX3_growOlder_11 xf_X3_55 hAt_same rfl ?_
  refine x_aload_n (pc := 14) dX3_growOlder_14 rfl ?_
  refine x_getf (pc := 15) (v := .int (r 2)) dX3_growOlder_15 xf_X3_145 (hAt_n n_rr_a k_rr) rfl ?_
  obtain ⟨F1, eF1⟩ : ∃ F, g_X3_growOlder_18 r (upd w 5 ((w 5) + (1 : Int32))) ((upd w 5 ((w 5) + (1 : Int32))) 5) (r 2) = F := ⟨_, rfl⟩
  try rw [eF1] at er
  refine x_mrg (pc' := 34) (L' := [(0, .ref a), (1, .ref rr)]) (st' := []) (h' := (hSet h a (waC la ka F1))) (fun J => ?_) ?_
  · unfold g_X3_growOlder_18 at eF1
    refine x_icmp_lt (pc := 18) (tgt := 34) dX3_growOlder_18 (by decide) (fun (c2 : ((upd w 5 ((w 5) + (1 : Int32))) 5) < (r 2)) => ?_) (fun (c2 : ¬ (((upd w 5 ((w 5) + (1 : Int32))) 5) < (r 2))) => ?_)
    · rw [if_pos c2] at eF1
      subst eF1
      exact J
    · rw [if_neg c2] at eF1
      refine x_aload_n (pc := 21) dX3_growOlder_21 rfl ?_
      refine x_iconst (pc := 22) (v := (0 : Int32)) dX3_growOlder_22 (by decide) ?_
      refine x_putf (pc := 23) (e' := waC la ka (upd (upd w 5 ((w 5) + (1 : Int32))) 5 (0 : Int32))) dX3_growOlder_23 xf_X3_55 hAt_same rfl rfl rfl rfl ?_
      refine Wp.eqh (h' := (hSet h a (waC la ka (upd (upd w 5 ((w 5) + (1 : Int32))) 5 (0 : Int32))))) (hSet_set) ?_
      refine x_aload_n (pc := 26) dX3_growOlder_26 rfl ?_
      refine x_aload_n (pc := 27) dX3_growOlder_27 rfl ?_
      refine x_getf (pc := 28) (v := .int (r 1)) dX3_growOlder_28 xf_X3_36 (hAt_n n_rr_a k_rr) rfl ?_
      refine x_putf (pc := 31) (e' := waC la ka (upd (upd (upd w 5 ((w 5) + (1 : Int32))) 5 (0 : Int32)) 1 (r 1))) dX3_growOlder_31 xf_X3_39 hAt_same rfl rfl rfl rfl ?_
      refine Wp.eqh (h' := (hSet h a (waC la ka (upd (upd (upd w 5 ((w 5) + (1 : Int32))) 5 (0 : Int32)) 1 (r 1))))) (hSet_set) ?_
      subst eF1
      exact J
  subst er
  exact x_vret (pc := 34) dX3_growOlder_34 rfl rfl rfl ⟨rfl, rfl⟩

def g_X3_miss_32 (r : (Nat → Int32)) (x_a : (Nat → Int32)) (y0 : Int32) (y1 : Int32) : (Nat → Int32) := (if y0 ≤ y1 then x_a else (upd (upd (upd x_a 6 ((x_a 6) + (1 : Int32))) 1 (((upd x_a 6 ((x_a 6) + (1 : Int32))) 0) - (1 : Int32))) 0 (r 0)))
def f_X3_miss (w r : Nat → Int32) : (Nat → Int32) := (if (3 : Int32) ≤ ((upd w 4 ((w 4) + (1 : Int32))) 4) then (g_X3_miss_32 r (upd (upd w 4 ((w 4) + (1 : Int32))) 4 (0 : Int32)) ((upd (upd w 4 ((w 4) + (1 : Int32))) 4 (0 : Int32)) 0) (r 0)) else (upd w 4 ((w 4) + (1 : Int32))))
set_option maxRecDepth 100000 in
set_option maxHeartbeats 4000000 in
theorem C_X3_miss (G : xG) (h : xH) (a rr la ka : Nat) (w r : Nat → Int32) (k_a : hAt h a = some (waC la ka w)) (k_rr : hAt h rr = some (ruC r)) : Cd G 0 yX3_miss cX3_miss 2 none [.ref a, .ref rr] h none (hSet h a (waC la ka (f_X3_miss w r))) := by
  have n_rr_a : rr ≠ a := hne_k k_rr k_a rfl
  refine Ct.of (by decide) (by rfl) ?_
  refine Wp.eqs (L' := [(0, .ref a), (1, .ref rr)]) (st' := []) rfl rfl ?_
  refine Wp.eqh (h' := (hSet h a (waC la ka w))) (by rw [hSet_self k_a]) ?_
  obtain ⟨R, er⟩ : ∃ R, f_X3_miss w r = R := ⟨_, rfl⟩
  rw [er]
  unfold f_X3_miss at er
  refine x_aload_n (pc := 0) dX3_miss_0 rfl ?_
  refine x_dup (pc := 1) dX3_miss_1 rfl ?_
  refine x_getf (pc := 2) (v := .int (w 4)) dX3_miss_2 xf_X3_52 hAt_same rfl ?_
  refine x_iconst (pc := 5) (v := (1 : Int32)) dX3_miss_5 (by decide) ?_
  refine x_iadd (pc := 6) dX3_miss_6 ?_
  refine x_putf (pc := 7) (e' := waC la ka (upd w 4 ((w 4) + (1 : Int32)))) dX3_miss_7 xf_X3_52 hAt_same rfl rfl rfl rfl ?_
  refine Wp.eqh (h' := (hSet h a (waC la ka (upd w 4 ((w 4) + (1 : Int32)))))) (hSet_set) ?_
  refine x_aload_n (pc := 10) dX3_miss_10 rfl ?_
  refine x_getf (pc := 11) (v := .int ((upd w 4 ((w 4) + (1 : Int32))) 4)) dX3_miss_11 xf_X3_52 hAt_same rfl ?_
  refine x_iconst (pc := 14) (v := (3 : Int32)) dX3_miss_14 (by decide) ?_
  refine x_icmp_ge (pc := 15) (tgt := 19) dX3_miss_15 (by decide) (fun (c1 : (3 : Int32) ≤ ((upd w 4 ((w 4) + (1 : Int32))) 4)) => ?_) (fun (c1 : ¬ ((3 : Int32) ≤ ((upd w 4 ((w 4) + (1 : Int32))) 4))) => ?_)
  · rw [if_pos c1] at er
    refine x_aload_n (pc := 19) dX3_miss_19 rfl ?_
    refine x_iconst (pc := 20) (v := (0 : Int32)) dX3_miss_20 (by decide) ?_
    refine x_putf (pc := 21) (e' := waC la ka (upd (upd w 4 ((w 4) + (1 : Int32))) 4 (0 : Int32))) dX3_miss_21 xf_X3_52 hAt_same rfl rfl rfl rfl ?_
    refine Wp.eqh (h' := (hSet h a (waC la ka (upd (upd w 4 ((w 4) + (1 : Int32))) 4 (0 : Int32))))) (hSet_set) ?_
    refine x_aload_n (pc := 24) dX3_miss_24 rfl ?_
    refine x_getf (pc := 25) (v := .int ((upd (upd w 4 ((w 4) + (1 : Int32))) 4 (0 : Int32)) 0)) dX3_miss_25 xf_X3_33 hAt_same rfl ?_
    refine x_aload_n (pc := 28) dX3_miss_28 rfl ?_
    refine x_getf (pc := 29) (v := .int (r 0)) dX3_miss_29 xf_X3_28 (hAt_n n_rr_a k_rr) rfl ?_
    obtain ⟨F1, eF1⟩ : ∃ F, g_X3_miss_32 r (upd (upd w 4 ((w 4) + (1 : Int32))) 4 (0 : Int32)) ((upd (upd w 4 ((w 4) + (1 : Int32))) 4 (0 : Int32)) 0) (r 0) = F := ⟨_, rfl⟩
    try rw [eF1] at er
    refine x_mrg (pc' := 63) (L' := [(0, .ref a), (1, .ref rr)]) (st' := []) (h' := (hSet h a (waC la ka F1))) (fun J => ?_) ?_
    · unfold g_X3_miss_32 at eF1
      refine x_icmp_le (pc := 32) (tgt := 63) dX3_miss_32 (by decide) (fun (c3 : ((upd (upd w 4 ((w 4) + (1 : Int32))) 4 (0 : Int32)) 0) ≤ (r 0)) => ?_) (fun (c3 : ¬ (((upd (upd w 4 ((w 4) + (1 : Int32))) 4 (0 : Int32)) 0) ≤ (r 0))) => ?_)
      · rw [if_pos c3] at eF1
        subst eF1
        exact J
      · rw [if_neg c3] at eF1
        refine x_aload_n (pc := 35) dX3_miss_35 rfl ?_
        refine x_dup (pc := 36) dX3_miss_36 rfl ?_
        refine x_getf (pc := 37) (v := .int ((upd (upd w 4 ((w 4) + (1 : Int32))) 4 (0 : Int32)) 6)) dX3_miss_37 xf_X3_58 hAt_same rfl ?_
        refine x_iconst (pc := 40) (v := (1 : Int32)) dX3_miss_40 (by decide) ?_
        refine x_iadd (pc := 41) dX3_miss_41 ?_
        refine x_putf (pc := 42) (e' := waC la ka (upd (upd (upd w 4 ((w 4) + (1 : Int32))) 4 (0 : Int32)) 6 (((upd (upd w 4 ((w 4) + (1 : Int32))) 4 (0 : Int32)) 6) + (1 : Int32)))) dX3_miss_42 xf_X3_58 hAt_same rfl rfl rfl rfl ?_
        refine Wp.eqh (h' := (hSet h a (waC la ka (upd (upd (upd w 4 ((w 4) + (1 : Int32))) 4 (0 : Int32)) 6 (((upd (upd w 4 ((w 4) + (1 : Int32))) 4 (0 : Int32)) 6) + (1 : Int32)))))) (hSet_set) ?_
        refine x_aload_n (pc := 45) dX3_miss_45 rfl ?_
        refine x_aload_n (pc := 46) dX3_miss_46 rfl ?_
        refine x_getf (pc := 47) (v := .int ((upd (upd (upd w 4 ((w 4) + (1 : Int32))) 4 (0 : Int32)) 6 (((upd (upd w 4 ((w 4) + (1 : Int32))) 4 (0 : Int32)) 6) + (1 : Int32))) 0)) dX3_miss_47 xf_X3_33 hAt_same rfl ?_
        refine x_iconst (pc := 50) (v := (1 : Int32)) dX3_miss_50 (by decide) ?_
        refine x_isub (pc := 51) dX3_miss_51 ?_
        refine x_putf (pc := 52) (e' := waC la ka (upd (upd (upd (upd w 4 ((w 4) + (1 : Int32))) 4 (0 : Int32)) 6 (((upd (upd w 4 ((w 4) + (1 : Int32))) 4 (0 : Int32)) 6) + (1 : Int32))) 1 (((upd (upd (upd w 4 ((w 4) + (1 : Int32))) 4 (0 : Int32)) 6 (((upd (upd w 4 ((w 4) + (1 : Int32))) 4 (0 : Int32)) 6) + (1 : Int32))) 0) - (1 : Int32)))) dX3_miss_52 xf_X3_39 hAt_same rfl rfl rfl rfl ?_
        refine Wp.eqh (h' := (hSet h a (waC la ka (upd (upd (upd (upd w 4 ((w 4) + (1 : Int32))) 4 (0 : Int32)) 6 (((upd (upd w 4 ((w 4) + (1 : Int32))) 4 (0 : Int32)) 6) + (1 : Int32))) 1 (((upd (upd (upd w 4 ((w 4) + (1 : Int32))) 4 (0 : Int32)) 6 (((upd (upd w 4 ((w 4) + (1 : Int32))) 4 (0 : Int32)) 6) + (1 : Int32))) 0) - (1 : Int32)))))) (hSet_set) ?_
        refine x_aload_n (pc := 55) dX3_miss_55 rfl ?_
        refine x_aload_n (pc := 56) dX3_miss_56 rfl ?_
        refine x_getf (pc := 57) (v := .int (r 0)) dX3_miss_57 xf_X3_28 (hAt_n n_rr_a k_rr) rfl ?_
        refine x_putf (pc := 60) (e' := waC la ka (upd (upd (upd (upd (upd w 4 ((w 4) + (1 : Int32))) 4 (0 : Int32)) 6 (((upd (upd w 4 ((w 4) + (1 : Int32))) 4 (0 : Int32)) 6) + (1 : Int32))) 1 (((upd (upd (upd w 4 ((w 4) + (1 : Int32))) 4 (0 : Int32)) 6 (((upd (upd w 4 ((w 4) + (1 : Int32))) 4 (0 : Int32)) 6) + (1 : Int32))) 0) - (1 : Int32))) 0 (r 0))) dX3_miss_60 xf_X3_33 hAt_same rfl rfl rfl rfl ?_
        refine Wp.eqh (h' := (hSet h a (waC la ka (upd (upd (upd (upd (upd w 4 ((w 4) + (1 : Int32))) 4 (0 : Int32)) 6 (((upd (upd w 4 ((w 4) + (1 : Int32))) 4 (0 : Int32)) 6) + (1 : Int32))) 1 (((upd (upd (upd w 4 ((w 4) + (1 : Int32))) 4 (0 : Int32)) 6 (((upd (upd w 4 ((w 4) + (1 : Int32))) 4 (0 : Int32)) 6) + (1 : Int32))) 0) - (1 : Int32))) 0 (r 0))))) (hSet_set) ?_
        subst eF1
        exact J
    subst er
    exact x_vret (pc := 63) dX3_miss_63 rfl rfl rfl ⟨rfl, rfl⟩
  · rw [if_neg c1] at er
    subst er
    exact x_vret (pc := 18) dX3_miss_18 rfl rfl rfl ⟨rfl, rfl⟩

def g_X3_checkLow_49 (r : (Nat → Int32)) (v4 : Int32) (x_a : (Nat → Int32)) (y0 : Int32) : (Nat → Int32) := (if y0 ≤ v4 then x_a else (upd x_a 0 (if v4 < (r 0) then (r 0) else v4)))
def g_X3_checkLow_35 (r : (Nat → Int32)) (v3 : Int32) (x_a : (Nat → Int32)) : (Nat → Int32) := (if v3 < (2 : Int32) then x_a else (f_X3_lowerHigh (g_X3_checkLow_49 r (v3 - (2 : Int32)) x_a (x_a 0)) (v3 - (2 : Int32))))
def f_X3_checkLow (w lf kf r : Nat → Int32) : (Nat → Int32) := (if (f_X3_isLost (f_X3_post w lf kf r (w 0)).2 r (f_X3_post w lf kf r (w 0)).1 (w 0)) = 0 then (g_X3_checkLow_35 r (f_X3_post w lf kf r (w 0)).1 (upd (f_X3_post w lf kf r (w 0)).2 4 (0 : Int32))) else (f_X3_miss (f_X3_post w lf kf r (w 0)).2 r))
def p_X3_checkLow (w lf kf r : Nat → Int32) : Prop := (p_X3_post w lf kf r (w 0) ∧ (((f_X3_isLost (f_X3_post w lf kf r (w 0)).2 r (f_X3_post w lf kf r (w 0)).1 (w 0)) = 0 → True) ∧ (¬ ((f_X3_isLost (f_X3_post w lf kf r (w 0)).2 r (f_X3_post w lf kf r (w 0)).1 (w 0)) = 0) → True)))
set_option maxRecDepth 100000 in
set_option maxHeartbeats 4000000 in
theorem C_X3_checkLow (G : xG) (h : xH) (a rr la ka : Nat) (w lf kf r : Nat → Int32) (k_a : hAt h a = some (waC la ka w)) (k_la : hAt h la = some (arI 6 lf)) (k_ka : hAt h ka = some (arI 6 kf)) (k_rr : hAt h rr = some (ruC r)) (hp : p_X3_checkLow w lf kf r) : Cd G 3 yX3_checkLow cX3_checkLow 5 none [.ref a, .ref rr] h none (hSet h a (waC la ka (f_X3_checkLow w lf kf r))) := by
  have n_ka_a : ka ≠ a := hne_k k_ka k_a rfl
  have n_la_a : la ≠ a := hne_k k_la k_a rfl
  have n_rr_a : rr ≠ a := hne_k k_rr k_a rfl
  refine Ct.of (by decide) (by rfl) ?_
  refine Wp.eqs (L' := [(0, .ref a), (1, .ref rr)]) (st' := []) rfl rfl ?_
  refine Wp.eqh (h' := (hSet h a (waC la ka w))) (by rw [hSet_self k_a]) ?_
  obtain ⟨R, er⟩ : ∃ R, f_X3_checkLow w lf kf r = R := ⟨_, rfl⟩
  rw [er]
  unfold f_X3_checkLow at er
  unfold p_X3_checkLow at hp
  refine x_aload_n (pc := 0) dX3_checkLow_0 rfl ?_
  refine x_getf (pc := 1) (v := .int (w 0)) dX3_checkLow_1 xf_X3_33 hAt_same rfl ?_
  refine x_istore_n (pc := 4) (L' := [(2, .int (w 0)), (0, .ref a), (1, .ref rr)]) dX3_checkLow_4 rfl rfl ?_
  refine x_aload_n (pc := 5) dX3_checkLow_5 rfl ?_
  refine x_iload_n (pc := 6) dX3_checkLow_6 rfl ?_
  refine x_aload_n (pc := 7) dX3_checkLow_7 rfl ?_
  obtain ⟨q8, hp⟩ := hp
  refine x_cV2i (pc := 8) dX3_checkLow_8 xl_X3_132 xv_X3_post hAt_same rfl (C_X3_post G _ a rr la ka w lf kf r (w 0) hAt_same (hAt_n n_la_a k_la) (hAt_n n_ka_a k_ka) (hAt_n n_rr_a k_rr) q8) rfl rfl rfl ?_
  obtain ⟨F1, eF1⟩ : ∃ F, f_X3_post w lf kf r (w 0) = F := ⟨_, rfl⟩
  rw [eF1]
  try rw [eF1] at er
  try rw [eF1] at hp
  refine Wp.eqh (h' := (hSet h a (waC la ka F1.2))) (hSet_set) ?_
  refine x_istore_n (pc := 11) (L' := [(3, .int F1.1), (2, .int (w 0)), (0, .ref a), (1, .ref rr)]) dX3_checkLow_11 rfl rfl ?_
  refine x_aload_n (pc := 12) dX3_checkLow_12 rfl ?_
  refine x_iload_n (pc := 13) dX3_checkLow_13 rfl ?_
  refine x_iload_n (pc := 14) dX3_checkLow_14 rfl ?_
  refine x_aload_n (pc := 15) dX3_checkLow_15 rfl ?_
  refine x_cV3i (pc := 16) dX3_checkLow_16 xl_X3_111 xv_X3_isLost hAt_same rfl (C_X3_isLost G _ a rr la ka F1.2 r F1.1 (w 0) hAt_same (hAt_n n_rr_a k_rr)) rfl rfl rfl ?_
  obtain ⟨F2, eF2⟩ : ∃ F, f_X3_isLost F1.2 r F1.1 (w 0) = F := ⟨_, rfl⟩
  rw [eF2]
  try rw [eF2] at er
  try rw [eF2] at hp
  have bF2 : xB F2 := by rw [← eF2]; exact (B_X3_isLost _ _ _ _)
  refine x_if_eq (pc := 19) (tgt := 28) dX3_checkLow_19 (by decide) (fun (c1 : F2 = 0) => ?_) (fun (c1 : ¬ (F2 = 0)) => ?_)
  · rw [if_pos c1] at er
    replace hp := hp.1 c1
    refine x_aload_n (pc := 28) dX3_checkLow_28 rfl ?_
    refine x_iconst (pc := 29) (v := (0 : Int32)) dX3_checkLow_29 (by decide) ?_
    refine x_putf (pc := 30) (e' := waC la ka (upd F1.2 4 (0 : Int32))) dX3_checkLow_30 xf_X3_52 hAt_same rfl rfl rfl rfl ?_
    refine Wp.eqh (h' := (hSet h a (waC la ka (upd F1.2 4 (0 : Int32))))) (hSet_set) ?_
    refine x_iload_n (pc := 33) dX3_checkLow_33 rfl ?_
    refine x_iconst (pc := 34) (v := (2 : Int32)) dX3_checkLow_34 (by decide) ?_
    obtain ⟨F7, eF7⟩ : ∃ F, g_X3_checkLow_35 r F1.1 (upd F1.2 4 (0 : Int32)) = F := ⟨_, rfl⟩
    try rw [eF7] at er
    try rw [eF7] at hp
    refine x_mrg (pc' := 71) (L' := [(3, .int F1.1), (2, .int (w 0)), (0, .ref a), (1, .ref rr)]) (st' := []) (h' := (hSet h a (waC la ka F7))) (fun J => ?_) ?_
    · unfold g_X3_checkLow_35 at eF7
      try rw [eF1] at eF7
      try rw [eF2] at eF7
      refine x_icmp_lt (pc := 35) (tgt := 71) dX3_checkLow_35 (by decide) (fun (c5 : F1.1 < (2 : Int32)) => ?_) (fun (c5 : ¬ (F1.1 < (2 : Int32))) => ?_)
      · rw [if_pos c5] at eF7
        subst eF7
        exact J
      · rw [if_neg c5] at eF7
        refine x_iload_n (pc := 38) dX3_checkLow_38 rfl ?_
        refine x_iconst (pc := 39) (v := (2 : Int32)) dX3_checkLow_39 (by decide) ?_
        refine x_isub (pc := 40) dX3_checkLow_40 ?_
        refine x_istore (pc := 41) (L' := [(4, .int (F1.1 - (2 : Int32))), (3, .int F1.1), (2, .int (w 0)), (0, .ref a), (1, .ref rr)]) dX3_checkLow_41 rfl rfl ?_
        refine x_iload (pc := 43) dX3_checkLow_43 rfl ?_
        refine x_aload_n (pc := 45) dX3_checkLow_45 rfl ?_
        refine x_getf (pc := 46) (v := .int ((upd F1.2 4 (0 : Int32)) 0)) dX3_checkLow_46 xf_X3_33 hAt_same rfl ?_
        obtain ⟨F5, eF5⟩ : ∃ F, g_X3_checkLow_49 r (F1.1 - (2 : Int32)) (upd F1.2 4 (0 : Int32)) ((upd F1.2 4 (0 : Int32)) 0) = F := ⟨_, rfl⟩
        try rw [eF5] at eF7
        refine x_mrg (pc' := 65) (L' := [(4, .int (F1.1 - (2 : Int32))), (3, .int F1.1), (2, .int (w 0)), (0, .ref a), (1, .ref rr)]) (st' := []) (h' := (hSet h a (waC la ka F5))) (fun J => ?_) ?_
        · unfold g_X3_checkLow_49 at eF5
          try rw [eF1] at eF5
          try rw [eF2] at eF5
          refine x_icmp_ge (pc := 49) (tgt := 65) dX3_checkLow_49 (by decide) (fun (c7 : ((upd F1.2 4 (0 : Int32)) 0) ≤ (F1.1 - (2 : Int32))) => ?_) (fun (c7 : ¬ (((upd F1.2 4 (0 : Int32)) 0) ≤ (F1.1 - (2 : Int32)))) => ?_)
          · rw [if_pos c7] at eF5
            subst eF5
            exact J
          · rw [if_neg c7] at eF5
            refine x_aload_n (pc := 52) dX3_checkLow_52 rfl ?_
            refine x_iload (pc := 53) dX3_checkLow_53 rfl ?_
            refine x_aload_n (pc := 55) dX3_checkLow_55 rfl ?_
            refine x_getf (pc := 56) (v := .int (r 0)) dX3_checkLow_56 xf_X3_28 (hAt_n n_rr_a k_rr) rfl ?_
            refine x_max (pc := 59) dX3_checkLow_59 xl_X3_86 rfl rfl rfl rfl rfl ?_
            refine x_putf (pc := 62) (e' := waC la ka (upd (upd F1.2 4 (0 : Int32)) 0 (if (F1.1 - (2 : Int32)) < (r 0) then (r 0) else (F1.1 - (2 : Int32))))) dX3_checkLow_62 xf_X3_33 hAt_same rfl rfl rfl rfl ?_
            refine Wp.eqh (h' := (hSet h a (waC la ka (upd (upd F1.2 4 (0 : Int32)) 0 (if (F1.1 - (2 : Int32)) < (r 0) then (r 0) else (F1.1 - (2 : Int32))))))) (hSet_set) ?_
            subst eF5
            exact J
        refine x_aload_n (pc := 65) dX3_checkLow_65 rfl ?_
        refine x_iload (pc := 66) dX3_checkLow_66 rfl ?_
        refine x_cV1v (pc := 68) dX3_checkLow_68 xl_X3_138 xv_X3_lowerHigh hAt_same rfl (C_X3_lowerHigh G _ a la ka F5 (F1.1 - (2 : Int32)) hAt_same) rfl rfl rfl ?_
        obtain ⟨F6, eF6⟩ : ∃ F, f_X3_lowerHigh F5 (F1.1 - (2 : Int32)) = F := ⟨_, rfl⟩
        rw [eF6]
        try rw [eF6] at eF7
        refine Wp.eqh (h' := (hSet h a (waC la ka F6))) (hSet_set) ?_
        subst eF7
        refine Wp.sub [1, 2, 3, 4] (L' := [(3, .int F1.1), (2, .int (w 0)), (0, .ref a), (1, .ref rr)]) rfl ?_
        exact J
    subst er
    exact x_vret (pc := 71) dX3_checkLow_71 rfl rfl rfl ⟨rfl, rfl⟩
  · rw [if_neg c1] at er
    replace hp := hp.2 c1
    refine x_aload_n (pc := 22) dX3_checkLow_22 rfl ?_
    refine x_aload_n (pc := 23) dX3_checkLow_23 rfl ?_
    refine x_cV1v (pc := 24) dX3_checkLow_24 xl_X3_135 xv_X3_miss hAt_same rfl (C_X3_miss G _ a rr la ka F1.2 r hAt_same (hAt_n n_rr_a k_rr)) rfl rfl rfl ?_
    obtain ⟨F8, eF8⟩ : ∃ F, f_X3_miss F1.2 r = F := ⟨_, rfl⟩
    rw [eF8]
    try rw [eF8] at er
    try rw [eF8] at hp
    refine Wp.eqh (h' := (hSet h a (waC la ka F8))) (hSet_set) ?_
    subst er
    exact x_vret (pc := 27) dX3_checkLow_27 rfl rfl rfl ⟨rfl, rfl⟩

def g_X3_search_60 (v3 : Int32) (v2 : Int32) (x_a : (Nat → Int32)) : (Nat → Int32) := (if v3 < (2 : Int32) then (upd x_a 0 v2) else (f_X3_lowerHigh x_a (v3 - (2 : Int32))))
def g_X3_search_37 (v2 : Int32) (x_a : (Nat → Int32)) (y0 : Int32) : (Nat → Int32) := (if y0 < (3 : Int32) then x_a else (upd (upd x_a 1 (v2 - (1 : Int32))) 3 (0 : Int32)))
def f_X3_search (w lf kf r : Nat → Int32) : (Nat → Int32) := (if (f_X3_isLost (f_X3_post w lf kf r (f_X3_probeSize w)).2 r (f_X3_post w lf kf r (f_X3_probeSize w)).1 (f_X3_probeSize w)) = 0 then (g_X3_search_60 (f_X3_post w lf kf r (f_X3_probeSize w)).1 (f_X3_probeSize w) (upd (f_X3_post w lf kf r (f_X3_probeSize w)).2 3 (0 : Int32))) else (g_X3_search_37 (f_X3_probeSize w) (upd (f_X3_post w lf kf r (f_X3_probeSize w)).2 3 (((f_X3_post w lf kf r (f_X3_probeSize w)).2 3) + (1 : Int32))) ((upd (f_X3_post w lf kf r (f_X3_probeSize w)).2 3 (((f_X3_post w lf kf r (f_X3_probeSize w)).2 3) + (1 : Int32))) 3)))
def p_X3_search (w lf kf r : Nat → Int32) : Prop := (p_X3_post w lf kf r (f_X3_probeSize w) ∧ (((f_X3_isLost (f_X3_post w lf kf r (f_X3_probeSize w)).2 r (f_X3_post w lf kf r (f_X3_probeSize w)).1 (f_X3_probeSize w)) = 0 → True) ∧ (¬ ((f_X3_isLost (f_X3_post w lf kf r (f_X3_probeSize w)).2 r (f_X3_post w lf kf r (f_X3_probeSize w)).1 (f_X3_probeSize w)) = 0) → True)))
set_option maxRecDepth 100000 in
set_option maxHeartbeats 4000000 in
theorem C_X3_search (G : xG) (h : xH) (a rr la ka : Nat) (w lf kf r : Nat → Int32) (k_a : hAt h a = some (waC la ka w)) (k_la : hAt h la = some (arI 6 lf)) (k_ka : hAt h ka = some (arI 6 kf)) (k_rr : hAt h rr = some (ruC r)) (hp : p_X3_search w lf kf r) : Cd G 3 yX3_search cX3_search 4 none [.ref a, .ref rr] h none (hSet h a (waC la ka (f_X3_search w lf kf r))) := by
  have n_ka_a : ka ≠ a := hne_k k_ka k_a rfl
  have n_la_a : la ≠ a := hne_k k_la k_a rfl
  have n_rr_a : rr ≠ a := hne_k k_rr k_a rfl
  refine Ct.of (by decide) (by rfl) ?_
  refine Wp.eqs (L' := [(0, .ref a), (1, .ref rr)]) (st' := []) rfl rfl ?_
  refine Wp.eqh (h' := (hSet h a (waC la ka w))) (by rw [hSet_self k_a]) ?_
  obtain ⟨R, er⟩ : ∃ R, f_X3_search w lf kf r = R := ⟨_, rfl⟩
  rw [er]
  unfold f_X3_search at er
  unfold p_X3_search at hp
  refine x_aload_n (pc := 0) dX3_search_0 rfl ?_
  refine x_cV0i (pc := 1) dX3_search_1 xl_X3_142 xv_X3_probeSize hAt_same rfl (C_X3_probeSize G _ a la ka w hAt_same) rfl rfl rfl ?_
  obtain ⟨F1, eF1⟩ : ∃ F, f_X3_probeSize w = F := ⟨_, rfl⟩
  rw [eF1]
  try rw [eF1] at er
  try rw [eF1] at hp
  refine x_istore_n (pc := 4) (L' := [(2, .int F1), (0, .ref a), (1, .ref rr)]) dX3_search_4 rfl rfl ?_
  refine x_aload_n (pc := 5) dX3_search_5 rfl ?_
  refine x_iload_n (pc := 6) dX3_search_6 rfl ?_
  refine x_aload_n (pc := 7) dX3_search_7 rfl ?_
  obtain ⟨q8, hp⟩ := hp
  refine x_cV2i (pc := 8) dX3_search_8 xl_X3_132 xv_X3_post hAt_same rfl (C_X3_post G _ a rr la ka w lf kf r F1 hAt_same (hAt_n n_la_a k_la) (hAt_n n_ka_a k_ka) (hAt_n n_rr_a k_rr) q8) rfl rfl rfl ?_
  obtain ⟨F2, eF2⟩ : ∃ F, f_X3_post w lf kf r F1 = F := ⟨_, rfl⟩
  rw [eF2]
  try rw [eF2] at er
  try rw [eF2] at hp
  refine Wp.eqh (h' := (hSet h a (waC la ka F2.2))) (hSet_set) ?_
  refine x_istore_n (pc := 11) (L' := [(3, .int F2.1), (2, .int F1), (0, .ref a), (1, .ref rr)]) dX3_search_11 rfl rfl ?_
  refine x_aload_n (pc := 12) dX3_search_12 rfl ?_
  refine x_iload_n (pc := 13) dX3_search_13 rfl ?_
  refine x_iload_n (pc := 14) dX3_search_14 rfl ?_
  refine x_aload_n (pc := 15) dX3_search_15 rfl ?_
  refine x_cV3i (pc := 16) dX3_search_16 xl_X3_111 xv_X3_isLost hAt_same rfl (C_X3_isLost G _ a rr la ka F2.2 r F2.1 F1 hAt_same (hAt_n n_rr_a k_rr)) rfl rfl rfl ?_
  obtain ⟨F3, eF3⟩ : ∃ F, f_X3_isLost F2.2 r F2.1 F1 = F := ⟨_, rfl⟩
  rw [eF3]
  try rw [eF3] at er
  try rw [eF3] at hp
  have bF3 : xB F3 := by rw [← eF3]; exact (B_X3_isLost _ _ _ _)
  refine x_if_eq (pc := 19) (tgt := 53) dX3_search_19 (by decide) (fun (c1 : F3 = 0) => ?_) (fun (c1 : ¬ (F3 = 0)) => ?_)
  · rw [if_pos c1] at er
    replace hp := hp.1 c1
    refine x_aload_n (pc := 53) dX3_search_53 rfl ?_
    refine x_iconst (pc := 54) (v := (0 : Int32)) dX3_search_54 (by decide) ?_
    refine x_putf (pc := 55) (e' := waC la ka (upd F2.2 3 (0 : Int32))) dX3_search_55 xf_X3_49 hAt_same rfl rfl rfl rfl ?_
    refine Wp.eqh (h' := (hSet h a (waC la ka (upd F2.2 3 (0 : Int32))))) (hSet_set) ?_
    refine x_iload_n (pc := 58) dX3_search_58 rfl ?_
    refine x_iconst (pc := 59) (v := (2 : Int32)) dX3_search_59 (by decide) ?_
    obtain ⟨F6, eF6⟩ : ∃ F, g_X3_search_60 F2.1 F1 (upd F2.2 3 (0 : Int32)) = F := ⟨_, rfl⟩
    try rw [eF6] at er
    try rw [eF6] at hp
    refine x_mrg (pc' := 78) (L' := [(3, .int F2.1), (2, .int F1), (0, .ref a), (1, .ref rr)]) (st' := []) (h' := (hSet h a (waC la ka F6))) (fun J => ?_) ?_
    · unfold g_X3_search_60 at eF6
      try rw [eF1] at eF6
      try rw [eF2] at eF6
      try rw [eF3] at eF6
      refine x_icmp_lt (pc := 60) (tgt := 73) dX3_search_60 (by decide) (fun (c3 : F2.1 < (2 : Int32)) => ?_) (fun (c3 : ¬ (F2.1 < (2 : Int32))) => ?_)
      · rw [if_pos c3] at eF6
        refine x_aload_n (pc := 73) dX3_search_73 rfl ?_
        refine x_iload_n (pc := 74) dX3_search_74 rfl ?_
        refine x_putf (pc := 75) (e' := waC la ka (upd (upd F2.2 3 (0 : Int32)) 0 F1)) dX3_search_75 xf_X3_33 hAt_same rfl rfl rfl rfl ?_
        refine Wp.eqh (h' := (hSet h a (waC la ka (upd (upd F2.2 3 (0 : Int32)) 0 F1)))) (hSet_set) ?_
        subst eF6
        exact J
      · rw [if_neg c3] at eF6
        refine x_aload_n (pc := 63) dX3_search_63 rfl ?_
        refine x_iload_n (pc := 64) dX3_search_64 rfl ?_
        refine x_iconst (pc := 65) (v := (2 : Int32)) dX3_search_65 (by decide) ?_
        refine x_isub (pc := 66) dX3_search_66 ?_
        refine x_cV1v (pc := 67) dX3_search_67 xl_X3_138 xv_X3_lowerHigh hAt_same rfl (C_X3_lowerHigh G _ a la ka (upd F2.2 3 (0 : Int32)) (F2.1 - (2 : Int32)) hAt_same) rfl rfl rfl ?_
        obtain ⟨F5, eF5⟩ : ∃ F, f_X3_lowerHigh (upd F2.2 3 (0 : Int32)) (F2.1 - (2 : Int32)) = F := ⟨_, rfl⟩
        rw [eF5]
        try rw [eF5] at eF6
        refine Wp.eqh (h' := (hSet h a (waC la ka F5))) (hSet_set) ?_
        refine x_goto (pc := 70) (tgt := 78) dX3_search_70 (by decide) ?_
        subst eF6
        exact J
    subst er
    exact x_vret (pc := 78) dX3_search_78 rfl rfl rfl ⟨rfl, rfl⟩
  · rw [if_neg c1] at er
    replace hp := hp.2 c1
    refine x_aload_n (pc := 22) dX3_search_22 rfl ?_
    refine x_dup (pc := 23) dX3_search_23 rfl ?_
    refine x_getf (pc := 24) (v := .int (F2.2 3)) dX3_search_24 xf_X3_49 hAt_same rfl ?_
    refine x_iconst (pc := 27) (v := (1 : Int32)) dX3_search_27 (by decide) ?_
    refine x_iadd (pc := 28) dX3_search_28 ?_
    refine x_putf (pc := 29) (e' := waC la ka (upd F2.2 3 ((F2.2 3) + (1 : Int32)))) dX3_search_29 xf_X3_49 hAt_same rfl rfl rfl rfl ?_
    refine Wp.eqh (h' := (hSet h a (waC la ka (upd F2.2 3 ((F2.2 3) + (1 : Int32)))))) (hSet_set) ?_
    refine x_aload_n (pc := 32) dX3_search_32 rfl ?_
    refine x_getf (pc := 33) (v := .int ((upd F2.2 3 ((F2.2 3) + (1 : Int32))) 3)) dX3_search_33 xf_X3_49 hAt_same rfl ?_
    refine x_iconst (pc := 36) (v := (3 : Int32)) dX3_search_36 (by decide) ?_
    obtain ⟨F7, eF7⟩ : ∃ F, g_X3_search_37 F1 (upd F2.2 3 ((F2.2 3) + (1 : Int32))) ((upd F2.2 3 ((F2.2 3) + (1 : Int32))) 3) = F := ⟨_, rfl⟩
    try rw [eF7] at er
    try rw [eF7] at hp
    refine x_mrg (pc' := 52) (L' := [(3, .int F2.1), (2, .int F1), (0, .ref a), (1, .ref rr)]) (st' := []) (h' := (hSet h a (waC la ka F7))) (fun J => ?_) ?_
    · unfold g_X3_search_37 at eF7
      try rw [eF1] at eF7
      try rw [eF2] at eF7
      try rw [eF3] at eF7
      refine x_icmp_lt (pc := 37) (tgt := 52) dX3_search_37 (by decide) (fun (c5 : ((upd F2.2 3 ((F2.2 3) + (1 : Int32))) 3) < (3 : Int32)) => ?_) (fun (c5 : ¬ (((upd F2.2 3 ((F2.2 3) + (1 : Int32))) 3) < (3 : Int32))) => ?_)
      · rw [if_pos c5] at eF7
        subst eF7
        exact J
      · rw [if_neg c5] at eF7
        refine x_aload_n (pc := 40) dX3_search_40 rfl ?_
        refine x_iload_n (pc := 41) dX3_search_41 rfl ?_
        refine x_iconst (pc := 42) (v := (1 : Int32)) dX3_search_42 (by decide) ?_
        refine x_isub (pc := 43) dX3_search_43 ?_
        refine x_putf (pc := 44) (e' := waC la ka (upd (upd F2.2 3 ((F2.2 3) + (1 : Int32))) 1 (F1 - (1 : Int32)))) dX3_search_44 xf_X3_39 hAt_same rfl rfl rfl rfl ?_
        refine Wp.eqh (h' := (hSet h a (waC la ka (upd (upd F2.2 3 ((F2.2 3) + (1 : Int32))) 1 (F1 - (1 : Int32)))))) (hSet_set) ?_
        refine x_aload_n (pc := 47) dX3_search_47 rfl ?_
        refine x_iconst (pc := 48) (v := (0 : Int32)) dX3_search_48 (by decide) ?_
        refine x_putf (pc := 49) (e' := waC la ka (upd (upd (upd F2.2 3 ((F2.2 3) + (1 : Int32))) 1 (F1 - (1 : Int32))) 3 (0 : Int32))) dX3_search_49 xf_X3_49 hAt_same rfl rfl rfl rfl ?_
        refine Wp.eqh (h' := (hSet h a (waC la ka (upd (upd (upd F2.2 3 ((F2.2 3) + (1 : Int32))) 1 (F1 - (1 : Int32))) 3 (0 : Int32))))) (hSet_set) ?_
        subst eF7
        exact J
    subst er
    exact x_vret (pc := 52) dX3_search_52 rfl rfl rfl ⟨rfl, rfl⟩

def g_X3_step_56 (v5 : Int32) (x_a : (Nat → Int32)) : (Nat → Int32) := (if v5 = 0 then x_a else (upd x_a 3 (0 : Int32)))
def g_X3_step_72 (lf : (Nat → Int32)) (kf : (Nat → Int32)) (r : (Nat → Int32)) (v5 : Int32) (v2 : Int32) (x_a : (Nat → Int32)) (y0 : Int32) (y1 : Int32) : (Nat → Int32) := (if y0 ≤ y1 then (if v2 = 0 then x_a else (f_X3_growOlder x_a r)) else (if v5 = 0 then (if v2 = 0 then (f_X3_search x_a lf kf r) else (if v2 = 0 then x_a else (f_X3_growOlder x_a r))) else (f_X3_search x_a lf kf r)))
def h_X3_step_72 (lf : (Nat → Int32)) (kf : (Nat → Int32)) (r : (Nat → Int32)) (v5 : Int32) (v2 : Int32) (x_a : (Nat → Int32)) (y0 : Int32) (y1 : Int32) : Prop := ((y0 ≤ y1 → ((v2 = 0 → True) ∧ (¬ (v2 = 0) → True))) ∧ (¬ (y0 ≤ y1) → ((v5 = 0 → ((v2 = 0 → (p_X3_search x_a lf kf r ∧ True)) ∧ (¬ (v2 = 0) → ((v2 = 0 → True) ∧ (¬ (v2 = 0) → True))))) ∧ (¬ (v5 = 0) → (p_X3_search x_a lf kf r ∧ True)))))
def g_X3_step_121 (x_a : (Nat → Int32)) (y0 : Int32) : (Nat → Int32) := (if y0 = 0 then (upd x_a 5 (0 : Int32)) else x_a)
def f_X3_step (w lf kf r : Nat → Int32) : (Nat → Int32) := (g_X3_step_121 (upd (g_X3_step_72 lf kf r ((if ((f_X3_checkLow w lf kf r) 0) = (w 0) then (if ((f_X3_checkLow w lf kf r) 1) = (w 1) then (0 : Int32) else (1 : Int32)) else (1 : Int32))) ((if (w 2) = (1 : Int32) then (1 : Int32) else (0 : Int32))) (g_X3_step_56 ((if ((f_X3_checkLow w lf kf r) 0) = (w 0) then (if ((f_X3_checkLow w lf kf r) 1) = (w 1) then (0 : Int32) else (1 : Int32)) else (1 : Int32))) (f_X3_checkLow w lf kf r)) ((g_X3_step_56 ((if ((f_X3_checkLow w lf kf r) 0) = (w 0) then (if ((f_X3_checkLow w lf kf r) 1) = (w 1) then (0 : Int32) else (1 : Int32)) else (1 : Int32))) (f_X3_checkLow w lf kf r)) 1) ((g_X3_step_56 ((if ((f_X3_checkLow w lf kf r) 0) = (w 0) then (if ((f_X3_checkLow w lf kf r) 1) = (w 1) then (0 : Int32) else (1 : Int32)) else (1 : Int32))) (f_X3_checkLow w lf kf r)) 0)) 2 ((if (f_X3_isNarrowed (g_X3_step_72 lf kf r ((if ((f_X3_checkLow w lf kf r) 0) = (w 0) then (if ((f_X3_checkLow w lf kf r) 1) = (w 1) then (0 : Int32) else (1 : Int32)) else (1 : Int32))) ((if (w 2) = (1 : Int32) then (1 : Int32) else (0 : Int32))) (g_X3_step_56 ((if ((f_X3_checkLow w lf kf r) 0) = (w 0) then (if ((f_X3_checkLow w lf kf r) 1) = (w 1) then (0 : Int32) else (1 : Int32)) else (1 : Int32))) (f_X3_checkLow w lf kf r)) ((g_X3_step_56 ((if ((f_X3_checkLow w lf kf r) 0) = (w 0) then (if ((f_X3_checkLow w lf kf r) 1) = (w 1) then (0 : Int32) else (1 : Int32)) else (1 : Int32))) (f_X3_checkLow w lf kf r)) 1) ((g_X3_step_56 ((if ((f_X3_checkLow w lf kf r) 0) = (w 0) then (if ((f_X3_checkLow w lf kf r) 1) = (w 1) then (0 : Int32) else (1 : Int32)) else (1 : Int32))) (f_X3_checkLow w lf kf r)) 0))) = 0 then (0 : Int32) else (1 : Int32)))) ((upd (g_X3_step_72 lf kf r ((if ((f_X3_checkLow w lf kf r) 0) = (w 0) then (if ((f_X3_checkLow w lf kf r) 1) = (w 1) then (0 : Int32) else (1 : Int32)) else (1 : Int32))) ((if (w 2) = (1 : Int32) then (1 : Int32) else (0 : Int32))) (g_X3_step_56 ((if ((f_X3_checkLow w lf kf r) 0) = (w 0) then (if ((f_X3_checkLow w lf kf r) 1) = (w 1) then (0 : Int32) else (1 : Int32)) else (1 : Int32))) (f_X3_checkLow w lf kf r)) ((g_X3_step_56 ((if ((f_X3_checkLow w lf kf r) 0) = (w 0) then (if ((f_X3_checkLow w lf kf r) 1) = (w 1) then (0 : Int32) else (1 : Int32)) else (1 : Int32))) (f_X3_checkLow w lf kf r)) 1) ((g_X3_step_56 ((if ((f_X3_checkLow w lf kf r) 0) = (w 0) then (if ((f_X3_checkLow w lf kf r) 1) = (w 1) then (0 : Int32) else (1 : Int32)) else (1 : Int32))) (f_X3_checkLow w lf kf r)) 0)) 2 ((if (f_X3_isNarrowed (g_X3_step_72 lf kf r ((if ((f_X3_checkLow w lf kf r) 0) = (w 0) then (if ((f_X3_checkLow w lf kf r) 1) = (w 1) then (0 : Int32) else (1 : Int32)) else (1 : Int32))) ((if (w 2) = (1 : Int32) then (1 : Int32) else (0 : Int32))) (g_X3_step_56 ((if ((f_X3_checkLow w lf kf r) 0) = (w 0) then (if ((f_X3_checkLow w lf kf r) 1) = (w 1) then (0 : Int32) else (1 : Int32)) else (1 : Int32))) (f_X3_checkLow w lf kf r)) ((g_X3_step_56 ((if ((f_X3_checkLow w lf kf r) 0) = (w 0) then (if ((f_X3_checkLow w lf kf r) 1) = (w 1) then (0 : Int32) else (1 : Int32)) else (1 : Int32))) (f_X3_checkLow w lf kf r)) 1) ((g_X3_step_56 ((if ((f_X3_checkLow w lf kf r) 0) = (w 0) then (if ((f_X3_checkLow w lf kf r) 1) = (w 1) then (0 : Int32) else (1 : Int32)) else (1 : Int32))) (f_X3_checkLow w lf kf r)) 0))) = 0 then (0 : Int32) else (1 : Int32)))) 2))
def p_X3_step (w lf kf r : Nat → Int32) : Prop := (p_X3_checkLow w lf kf r ∧ ((h_X3_step_72 lf kf r ((if ((f_X3_checkLow w lf kf r) 0) = (w 0) then (if ((f_X3_checkLow w lf kf r) 1) = (w 1) then (0 : Int32) else (1 : Int32)) else (1 : Int32))) ((if (w 2) = (1 : Int32) then (1 : Int32) else (0 : Int32))) (g_X3_step_56 ((if ((f_X3_checkLow w lf kf r) 0) = (w 0) then (if ((f_X3_checkLow w lf kf r) 1) = (w 1) then (0 : Int32) else (1 : Int32)) else (1 : Int32))) (f_X3_checkLow w lf kf r)) ((g_X3_step_56 ((if ((f_X3_checkLow w lf kf r) 0) = (w 0) then (if ((f_X3_checkLow w lf kf r) 1) = (w 1) then (0 : Int32) else (1 : Int32)) else (1 : Int32))) (f_X3_checkLow w lf kf r)) 1) ((g_X3_step_56 ((if ((f_X3_checkLow w lf kf r) 0) = (w 0) then (if ((f_X3_checkLow w lf kf r) 1) = (w 1) then (0 : Int32) else (1 : Int32)) else (1 : Int32))) (f_X3_checkLow w lf kf r)) 0)) ∧ True))
set_option maxRecDepth 100000 in
set_option maxHeartbeats 4000000 in
theorem C_X3_step (G : xG) (h : xH) (a rr la ka : Nat) (w lf kf r : Nat → Int32) (k_a : hAt h a = some (waC la ka w)) (k_la : hAt h la = some (arI 6 lf)) (k_ka : hAt h ka = some (arI 6 kf)) (k_rr : hAt h rr = some (ruC r)) (hp : p_X3_step w lf kf r) : Cd G 4 yX3_step cX3_step 6 none [.ref a, .ref rr] h none (hSet h a (waC la ka (f_X3_step w lf kf r))) := by
  have n_ka_a : ka ≠ a := hne_k k_ka k_a rfl
  have n_la_a : la ≠ a := hne_k k_la k_a rfl
  have n_rr_a : rr ≠ a := hne_k k_rr k_a rfl
  refine Ct.of (by decide) (by rfl) ?_
  refine Wp.eqs (L' := [(0, .ref a), (1, .ref rr)]) (st' := []) rfl rfl ?_
  refine Wp.eqh (h' := (hSet h a (waC la ka w))) (by rw [hSet_self k_a]) ?_
  obtain ⟨R, er⟩ : ∃ R, f_X3_step w lf kf r = R := ⟨_, rfl⟩
  rw [er]
  unfold f_X3_step at er
  unfold p_X3_step at hp
  refine x_aload_n (pc := 0) dX3_step_0 rfl ?_
  refine x_getf (pc := 1) (v := .int (w 2)) dX3_step_1 xf_X3_46 hAt_same rfl ?_
  refine x_iconst (pc := 4) (v := (1 : Int32)) dX3_step_4 (by decide) ?_
  obtain ⟨F1, eF1⟩ : ∃ F, (if (w 2) = (1 : Int32) then (1 : Int32) else (0 : Int32)) = F := ⟨_, rfl⟩
  try rw [eF1] at er
  try rw [eF1] at hp
  have bF1 : xB F1 := by rw [← eF1]; exact (xB_ite xB1 xB0)
  refine x_mrg (pc' := 13) (L' := [(0, .ref a), (1, .ref rr)]) (st' := [.int F1]) (h' := (hSet h a (waC la ka w))) (fun J => ?_) ?_
  · refine x_icmp_ne (pc := 5) (tgt := 12) dX3_step_5 (by decide) (fun (c1 : ¬ ((w 2) = (1 : Int32))) => ?_) (fun (c1 : (w 2) = (1 : Int32)) => ?_)
    · refine x_iconst (pc := 12) (v := (0 : Int32)) dX3_step_12 (by decide) ?_
      rw [if_neg c1] at eF1
      subst eF1
      exact J
    · refine x_iconst (pc := 8) (v := (1 : Int32)) dX3_step_8 (by decide) ?_
      refine x_goto (pc := 9) (tgt := 13) dX3_step_9 (by decide) ?_
      rw [if_pos c1] at eF1
      subst eF1
      exact J
  refine x_istore_n (pc := 13) (L' := [(2, .int F1), (0, .ref a), (1, .ref rr)]) dX3_step_13 rfl rfl ?_
  refine x_aload_n (pc := 14) dX3_step_14 rfl ?_
  refine x_getf (pc := 15) (v := .int (w 0)) dX3_step_15 xf_X3_33 hAt_same rfl ?_
  refine x_istore_n (pc := 18) (L' := [(3, .int (w 0)), (2, .int F1), (0, .ref a), (1, .ref rr)]) dX3_step_18 rfl rfl ?_
  refine x_aload_n (pc := 19) dX3_step_19 rfl ?_
  refine x_getf (pc := 20) (v := .int (w 1)) dX3_step_20 xf_X3_39 hAt_same rfl ?_
  refine x_istore (pc := 23) (L' := [(4, .int (w 1)), (3, .int (w 0)), (2, .int F1), (0, .ref a), (1, .ref rr)]) dX3_step_23 rfl rfl ?_
  refine x_aload_n (pc := 25) dX3_step_25 rfl ?_
  refine x_aload_n (pc := 26) dX3_step_26 rfl ?_
  obtain ⟨q27, hp⟩ := hp
  refine x_cV1v (pc := 27) dX3_step_27 xl_X3_123 xv_X3_checkLow hAt_same rfl (C_X3_checkLow G _ a rr la ka w lf kf r hAt_same (hAt_n n_la_a k_la) (hAt_n n_ka_a k_ka) (hAt_n n_rr_a k_rr) q27) rfl rfl rfl ?_
  obtain ⟨F2, eF2⟩ : ∃ F, f_X3_checkLow w lf kf r = F := ⟨_, rfl⟩
  rw [eF2]
  try rw [eF2] at er
  try rw [eF2] at hp
  refine Wp.eqh (h' := (hSet h a (waC la ka F2))) (hSet_set) ?_
  refine x_aload_n (pc := 30) dX3_step_30 rfl ?_
  refine x_getf (pc := 31) (v := .int (F2 0)) dX3_step_31 xf_X3_33 hAt_same rfl ?_
  refine x_iload_n (pc := 34) dX3_step_34 rfl ?_
  obtain ⟨F3, eF3⟩ : ∃ F, (if (F2 0) = (w 0) then (if (F2 1) = (w 1) then (0 : Int32) else (1 : Int32)) else (1 : Int32)) = F := ⟨_, rfl⟩
  try rw [eF3] at er
  try rw [eF3] at hp
  have bF3 : xB F3 := by rw [← eF3]; exact (xB_ite (xB_ite xB0 xB1) xB1)
  refine x_mrg (pc' := 52) (L' := [(4, .int (w 1)), (3, .int (w 0)), (2, .int F1), (0, .ref a), (1, .ref rr)]) (st' := [.int F3]) (h' := (hSet h a (waC la ka F2))) (fun J => ?_) ?_
  · refine x_icmp_ne (pc := 35) (tgt := 47) dX3_step_35 (by decide) (fun (c2 : ¬ ((F2 0) = (w 0))) => ?_) (fun (c2 : (F2 0) = (w 0)) => ?_)
    · refine x_iconst (pc := 47) (v := (1 : Int32)) dX3_step_47 (by decide) ?_
      refine x_goto (pc := 48) (tgt := 52) dX3_step_48 (by decide) ?_
      rw [if_neg c2] at eF3
      subst eF3
      exact J
    · refine x_aload_n (pc := 38) dX3_step_38 rfl ?_
      refine x_getf (pc := 39) (v := .int (F2 1)) dX3_step_39 xf_X3_39 hAt_same rfl ?_
      refine x_iload (pc := 42) dX3_step_42 rfl ?_
      refine x_icmp_eq (pc := 44) (tgt := 51) dX3_step_44 (by decide) (fun (c3 : (F2 1) = (w 1)) => ?_) (fun (c3 : ¬ ((F2 1) = (w 1))) => ?_)
      · refine x_iconst (pc := 51) (v := (0 : Int32)) dX3_step_51 (by decide) ?_
        rw [if_pos c2, if_pos c3] at eF3
        subst eF3
        exact J
      · refine x_iconst (pc := 47) (v := (1 : Int32)) dX3_step_47 (by decide) ?_
        refine x_goto (pc := 48) (tgt := 52) dX3_step_48 (by decide) ?_
        rw [if_pos c2, if_neg c3] at eF3
        subst eF3
        exact J
  refine x_istore (pc := 52) (L' := [(5, .int F3), (4, .int (w 1)), (3, .int (w 0)), (2, .int F1), (0, .ref a), (1, .ref rr)]) dX3_step_52 rfl rfl ?_
  refine x_iload (pc := 54) dX3_step_54 rfl ?_
  obtain ⟨F4, eF4⟩ : ∃ F, g_X3_step_56 F3 F2 = F := ⟨_, rfl⟩
  try rw [eF4] at er
  try rw [eF4] at hp
  refine x_mrg (pc' := 64) (L' := [(5, .int F3), (4, .int (w 1)), (3, .int (w 0)), (2, .int F1), (0, .ref a), (1, .ref rr)]) (st' := []) (h' := (hSet h a (waC la ka F4))) (fun J => ?_) ?_
  · unfold g_X3_step_56 at eF4
    try rw [eF1] at eF4
    try rw [eF2] at eF4
    try rw [eF3] at eF4
    refine x_if_eq (pc := 56) (tgt := 64) dX3_step_56 (by decide) (fun (c5 : F3 = 0) => ?_) (fun (c5 : ¬ (F3 = 0)) => ?_)
    · rw [if_pos c5] at eF4
      subst eF4
      exact J
    · rw [if_neg c5] at eF4
      refine x_aload_n (pc := 59) dX3_step_59 rfl ?_
      refine x_iconst (pc := 60) (v := (0 : Int32)) dX3_step_60 (by decide) ?_
      refine x_putf (pc := 61) (e' := waC la ka (upd F2 3 (0 : Int32))) dX3_step_61 xf_X3_49 hAt_same rfl rfl rfl rfl ?_
      refine Wp.eqh (h' := (hSet h a (waC la ka (upd F2 3 (0 : Int32))))) (hSet_set) ?_
      subst eF4
      exact J
  refine x_aload_n (pc := 64) dX3_step_64 rfl ?_
  refine x_getf (pc := 65) (v := .int (F4 0)) dX3_step_65 xf_X3_33 hAt_same rfl ?_
  refine x_aload_n (pc := 68) dX3_step_68 rfl ?_
  refine x_getf (pc := 69) (v := .int (F4 1)) dX3_step_69 xf_X3_39 hAt_same rfl ?_
  obtain ⟨qr72, hp⟩ := hp
  obtain ⟨F13, eF13⟩ : ∃ F, g_X3_step_72 lf kf r F3 F1 F4 (F4 1) (F4 0) = F := ⟨_, rfl⟩
  try rw [eF13] at er
  try rw [eF13] at hp
  refine x_mrg (pc' := 101) (L' := [(5, .int F3), (4, .int (w 1)), (3, .int (w 0)), (2, .int F1), (0, .ref a), (1, .ref rr)]) (st' := []) (h' := (hSet h a (waC la ka F13))) (fun J => ?_) ?_
  · unfold g_X3_step_72 at eF13
    unfold h_X3_step_72 at qr72
    try rw [eF1] at eF13
    try rw [eF1] at qr72
    try rw [eF2] at eF13
    try rw [eF2] at qr72
    try rw [eF3] at eF13
    try rw [eF3] at qr72
    refine x_icmp_ge (pc := 72) (tgt := 92) dX3_step_72 (by decide) (fun (c11 : (F4 1) ≤ (F4 0)) => ?_) (fun (c11 : ¬ ((F4 1) ≤ (F4 0))) => ?_)
    · rw [if_pos c11] at eF13
      replace qr72 := qr72.1 c11
      refine x_iload_n (pc := 92) dX3_step_92 rfl ?_
      refine x_if_eq (pc := 93) (tgt := 101) dX3_step_93 (by decide) (fun (c12 : F1 = 0) => ?_) (fun (c12 : ¬ (F1 = 0)) => ?_)
      · rw [if_pos c12] at eF13
        replace qr72 := qr72.1 c12
        subst eF13
        exact J
      · rw [if_neg c12] at eF13
        replace qr72 := qr72.2 c12
        refine x_aload_n (pc := 96) dX3_step_96 rfl ?_
        refine x_aload_n (pc := 97) dX3_step_97 rfl ?_
        refine x_cV1v (pc := 98) dX3_step_98 xl_X3_129 xv_X3_growOlder hAt_same rfl (C_X3_growOlder G _ a rr la ka F4 r hAt_same (hAt_n n_rr_a k_rr)) rfl rfl rfl ?_
        obtain ⟨F9, eF9⟩ : ∃ F, f_X3_growOlder F4 r = F := ⟨_, rfl⟩
        rw [eF9]
        try rw [eF9] at eF13
        try rw [eF9] at qr72
        refine Wp.eqh (h' := (hSet h a (waC la ka F9))) (hSet_set) ?_
        subst eF13
        exact J
    · rw [if_neg c11] at eF13
      replace qr72 := qr72.2 c11
      refine x_iload (pc := 75) dX3_step_75 rfl ?_
      refine x_if_ne (pc := 77) (tgt := 84) dX3_step_77 (by decide) (fun (c13 : ¬ (F3 = 0)) => ?_) (fun (c13 : F3 = 0) => ?_)
      · rw [if_neg c13] at eF13
        replace qr72 := qr72.2 c13
        refine x_aload_n (pc := 84) dX3_step_84 rfl ?_
        refine x_aload_n (pc := 85) dX3_step_85 rfl ?_
        obtain ⟨q86, qr72⟩ := qr72
        refine x_cV1v (pc := 86) dX3_step_86 xl_X3_126 xv_X3_search hAt_same rfl (C_X3_search G _ a rr la ka F4 lf kf r hAt_same (hAt_n n_la_a k_la) (hAt_n n_ka_a k_ka) (hAt_n n_rr_a k_rr) q86) rfl rfl rfl ?_
        obtain ⟨F10, eF10⟩ : ∃ F, f_X3_search F4 lf kf r = F := ⟨_, rfl⟩
        rw [eF10]
        try rw [eF10] at eF13
        try rw [eF10] at qr72
        refine Wp.eqh (h' := (hSet h a (waC la ka F10))) (hSet_set) ?_
        refine x_goto (pc := 89) (tgt := 101) dX3_step_89 (by decide) ?_
        subst eF13
        exact J
      · rw [if_pos c13] at eF13
        replace qr72 := qr72.1 c13
        refine x_iload_n (pc := 80) dX3_step_80 rfl ?_
        refine x_if_ne (pc := 81) (tgt := 92) dX3_step_81 (by decide) (fun (c14 : ¬ (F1 = 0)) => ?_) (fun (c14 : F1 = 0) => ?_)
        · rw [if_neg c14] at eF13
          replace qr72 := qr72.2 c14
          refine x_iload_n (pc := 92) dX3_step_92 rfl ?_
          refine x_if_eq (pc := 93) (tgt := 101) dX3_step_93 (by decide) (fun (c15 : F1 = 0) => ?_) (fun (c15 : ¬ (F1 = 0)) => ?_)
          · rw [if_pos c15] at eF13
            replace qr72 := qr72.1 c15
            subst eF13
            exact J
          · rw [if_neg c15] at eF13
            replace qr72 := qr72.2 c15
            refine x_aload_n (pc := 96) dX3_step_96 rfl ?_
            refine x_aload_n (pc := 97) dX3_step_97 rfl ?_
            refine x_cV1v (pc := 98) dX3_step_98 xl_X3_129 xv_X3_growOlder hAt_same rfl (C_X3_growOlder G _ a rr la ka F4 r hAt_same (hAt_n n_rr_a k_rr)) rfl rfl rfl ?_
            obtain ⟨F11, eF11⟩ : ∃ F, f_X3_growOlder F4 r = F := ⟨_, rfl⟩
            rw [eF11]
            try rw [eF11] at eF13
            try rw [eF11] at qr72
            refine Wp.eqh (h' := (hSet h a (waC la ka F11))) (hSet_set) ?_
            subst eF13
            exact J
        · rw [if_pos c14] at eF13
          replace qr72 := qr72.1 c14
          refine x_aload_n (pc := 84) dX3_step_84 rfl ?_
          refine x_aload_n (pc := 85) dX3_step_85 rfl ?_
          obtain ⟨q86, qr72⟩ := qr72
          refine x_cV1v (pc := 86) dX3_step_86 xl_X3_126 xv_X3_search hAt_same rfl (C_X3_search G _ a rr la ka F4 lf kf r hAt_same (hAt_n n_la_a k_la) (hAt_n n_ka_a k_ka) (hAt_n n_rr_a k_rr) q86) rfl rfl rfl ?_
          obtain ⟨F12, eF12⟩ : ∃ F, f_X3_search F4 lf kf r = F := ⟨_, rfl⟩
          rw [eF12]
          try rw [eF12] at eF13
          try rw [eF12] at qr72
          refine Wp.eqh (h' := (hSet h a (waC la ka F12))) (hSet_set) ?_
          refine x_goto (pc := 89) (tgt := 101) dX3_step_89 (by decide) ?_
          subst eF13
          exact J
  refine x_aload_n (pc := 101) dX3_step_101 rfl ?_
  refine x_aload_n (pc := 102) dX3_step_102 rfl ?_
  refine x_cV0i (pc := 103) dX3_step_103 xl_X3_42 xv_X3_isNarrowed hAt_same rfl (C_X3_isNarrowed G _ a la ka F13 hAt_same) rfl rfl rfl ?_
  obtain ⟨F14, eF14⟩ : ∃ F, f_X3_isNarrowed F13 = F := ⟨_, rfl⟩
  rw [eF14]
  try rw [eF14] at er
  try rw [eF14] at hp
  have bF14 : xB F14 := by rw [← eF14]; exact (B_X3_isNarrowed _)
  obtain ⟨F15, eF15⟩ : ∃ F, (if F14 = 0 then (0 : Int32) else (1 : Int32)) = F := ⟨_, rfl⟩
  try rw [eF15] at er
  try rw [eF15] at hp
  have bF15 : xB F15 := by rw [← eF15]; exact (xB_ite xB0 xB1)
  refine x_mrg (pc' := 114) (L' := [(5, .int F3), (4, .int (w 1)), (3, .int (w 0)), (2, .int F1), (0, .ref a), (1, .ref rr)]) (st' := [.int F15, .ref a]) (h' := (hSet h a (waC la ka F13))) (fun J => ?_) ?_
  · refine x_if_eq (pc := 106) (tgt := 113) dX3_step_106 (by decide) (fun (c16 : F14 = 0) => ?_) (fun (c16 : ¬ (F14 = 0)) => ?_)
    · refine x_iconst (pc := 113) (v := (0 : Int32)) dX3_step_113 (by decide) ?_
      rw [if_pos c16] at eF15
      subst eF15
      exact J
    · refine x_iconst (pc := 109) (v := (1 : Int32)) dX3_step_109 (by decide) ?_
      refine x_goto (pc := 110) (tgt := 114) dX3_step_110 (by decide) ?_
      rw [if_neg c16] at eF15
      subst eF15
      exact J
  refine x_putf (pc := 114) (e' := waC la ka (upd F13 2 F15)) dX3_step_114 xf_X3_46 hAt_same rfl rfl rfl rfl ?_
  refine Wp.eqh (h' := (hSet h a (waC la ka (upd F13 2 F15)))) (hSet_set) ?_
  refine x_aload_n (pc := 117) dX3_step_117 rfl ?_
  refine x_getf (pc := 118) (v := .int ((upd F13 2 F15) 2)) dX3_step_118 xf_X3_46 hAt_same rfl ?_
  obtain ⟨F16, eF16⟩ : ∃ F, g_X3_step_121 (upd F13 2 F15) ((upd F13 2 F15) 2) = F := ⟨_, rfl⟩
  try rw [eF16] at er
  try rw [eF16] at hp
  refine x_mrg (pc' := 129) (L' := [(5, .int F3), (4, .int (w 1)), (3, .int (w 0)), (2, .int F1), (0, .ref a), (1, .ref rr)]) (st' := []) (h' := (hSet h a (waC la ka F16))) (fun J => ?_) ?_
  · unfold g_X3_step_121 at eF16
    try rw [eF1] at eF16
    try rw [eF2] at eF16
    try rw [eF3] at eF16
    try rw [eF14] at eF16
    try rw [eF15] at eF16
    refine x_if_ne (pc := 121) (tgt := 129) dX3_step_121 (by decide) (fun (c18 : ¬ (((upd F13 2 F15) 2) = 0)) => ?_) (fun (c18 : ((upd F13 2 F15) 2) = 0) => ?_)
    · rw [if_neg c18] at eF16
      subst eF16
      exact J
    · rw [if_pos c18] at eF16
      refine x_aload_n (pc := 124) dX3_step_124 rfl ?_
      refine x_iconst (pc := 125) (v := (0 : Int32)) dX3_step_125 (by decide) ?_
      refine x_putf (pc := 126) (e' := waC la ka (upd (upd F13 2 F15) 5 (0 : Int32))) dX3_step_126 xf_X3_55 hAt_same rfl rfl rfl rfl ?_
      refine Wp.eqh (h' := (hSet h a (waC la ka (upd (upd F13 2 F15) 5 (0 : Int32))))) (hSet_set) ?_
      subst eF16
      exact J
  subst er
  exact x_vret (pc := 129) dX3_step_129 rfl rfl rfl ⟨rfl, rfl⟩

def l_X3_goOn_2 : Nat → (Nat → Int32) → (Nat → Int32) → (Nat → Int32) → (Nat → Int32) → Int32 → Int32 → (Nat → Int32) → Int32 × (Nat → Int32)
  | 0, _, _, _, _, _, _, _ => (0, (fun _ => 0))
  | n + 1, w, lf, kf, r, ticks, v3, x_a => (if ticks ≤ v3 then (v3, x_a) else (l_X3_goOn_2 n w lf kf r ticks (v3 + (1 : Int32)) (f_X3_step x_a lf kf r)))
def q_X3_goOn_2 : Nat → (Nat → Int32) → (Nat → Int32) → (Nat → Int32) → (Nat → Int32) → Int32 → Int32 → (Nat → Int32) → Prop
  | 0, _, _, _, _, _, _, _ => False
  | n + 1, w, lf, kf, r, ticks, v3, x_a => ((ticks ≤ v3 → True) ∧ (¬ (ticks ≤ v3) → (p_X3_step x_a lf kf r ∧ (q_X3_goOn_2 n w lf kf r ticks (v3 + (1 : Int32)) (f_X3_step x_a lf kf r)))))
set_option maxRecDepth 100000 in
set_option maxHeartbeats 4000000 in
theorem L_X3_goOn_2 (G : xG) (h : xH) (a rr la ka : Nat) (w lf kf r : Nat → Int32) (ticks : Int32) (k_a : hAt h a = some (waC la ka w)) (k_la : hAt h la = some (arI 6 lf)) (k_ka : hAt h ka = some (arI 6 kf)) (k_rr : hAt h rr = some (ruC r)) {Z : xZ} : ∀ (n : Nat) (v3 : Int32) (x_a : (Nat → Int32)), q_X3_goOn_2 n w lf kf r ticks v3 x_a → Wp G yX3_goOn.cls cX3_goOn 4 yX3_goOn.name none (xR 5 0 0) Z 0 0 18 [(3, .int (l_X3_goOn_2 n w lf kf r ticks v3 x_a).1), (0, .ref a), (1, .int ticks), (2, .ref rr)] [] (hSet h a (waC la ka (l_X3_goOn_2 n w lf kf r ticks v3 x_a).2)) → Wp G yX3_goOn.cls cX3_goOn 4 yX3_goOn.name none (xR 5 0 0) Z 0 0 2 [(3, .int v3), (0, .ref a), (1, .int ticks), (2, .ref rr)] [] (hSet h a (waC la ka x_a)) := by
  have n_ka_a : ka ≠ a := hne_k k_ka k_a rfl
  have n_la_a : la ≠ a := hne_k k_la k_a rfl
  have n_rr_a : rr ≠ a := hne_k k_rr k_a rfl
  intro n
  induction n with
  | zero => intro v3 x_a hp; exact absurd hp id
  | succ n ih =>
    intro v3 x_a hp kk
    obtain ⟨R, er⟩ : ∃ R, l_X3_goOn_2 (n + 1) w lf kf r ticks v3 x_a = R := ⟨_, rfl⟩
    rw [er] at kk
    rw [l_X3_goOn_2] at er
    rw [q_X3_goOn_2] at hp
    refine x_iload_n (pc := 2) dX3_goOn_2 rfl ?_
    refine x_iload_n (pc := 3) dX3_goOn_3 rfl ?_
    refine x_icmp_ge (pc := 4) (tgt := 18) dX3_goOn_4 (by decide) (fun (c1 : ticks ≤ v3) => ?_) (fun (c1 : ¬ (ticks ≤ v3)) => ?_)
    · rw [if_pos c1] at er
      replace hp := hp.1 c1
      subst er
      exact kk
    · rw [if_neg c1] at er
      replace hp := hp.2 c1
      refine x_aload_n (pc := 7) dX3_goOn_7 rfl ?_
      refine x_aload_n (pc := 8) dX3_goOn_8 rfl ?_
      obtain ⟨q9, hp⟩ := hp
      refine x_cV1v (pc := 9) dX3_goOn_9 xl_X3_119 xv_X3_step hAt_same rfl (C_X3_step G _ a rr la ka x_a lf kf r hAt_same (hAt_n n_la_a k_la) (hAt_n n_ka_a k_ka) (hAt_n n_rr_a k_rr) q9) rfl rfl rfl ?_
      obtain ⟨F2, eF2⟩ : ∃ F, f_X3_step x_a lf kf r = F := ⟨_, rfl⟩
      rw [eF2]
      try rw [eF2] at er
      try rw [eF2] at hp
      refine Wp.eqh (h' := (hSet h a (waC la ka F2))) (hSet_set) ?_
      refine x_iinc (pc := 12) (v := (v3 + (1 : Int32))) (L' := [(3, .int (v3 + (1 : Int32))), (0, .ref a), (1, .int ticks), (2, .ref rr)]) dX3_goOn_12 rfl rfl rfl rfl ?_
      refine x_goto (pc := 15) (tgt := 2) dX3_goOn_15 (by decide) ?_
      subst er
      exact ih (v3 + (1 : Int32)) F2 hp kk
def f_X3_goOn (w lf kf r : Nat → Int32) (ticks : Int32) : (Nat → Int32) := (l_X3_goOn_2 xK w lf kf r ticks (0 : Int32) w).2
def p_X3_goOn (w lf kf r : Nat → Int32) (ticks : Int32) : Prop := ((q_X3_goOn_2 xK w lf kf r ticks (0 : Int32) w) ∧ True)
set_option maxRecDepth 100000 in
set_option maxHeartbeats 4000000 in
theorem C_X3_goOn (G : xG) (h : xH) (a rr la ka : Nat) (w lf kf r : Nat → Int32) (ticks : Int32) (k_a : hAt h a = some (waC la ka w)) (k_la : hAt h la = some (arI 6 lf)) (k_ka : hAt h ka = some (arI 6 kf)) (k_rr : hAt h rr = some (ruC r)) (hp : p_X3_goOn w lf kf r ticks) : Cd G 5 yX3_goOn cX3_goOn 4 none [.ref a, .int ticks, .ref rr] h none (hSet h a (waC la ka (f_X3_goOn w lf kf r ticks))) := by
  have n_ka_a : ka ≠ a := hne_k k_ka k_a rfl
  have n_la_a : la ≠ a := hne_k k_la k_a rfl
  have n_rr_a : rr ≠ a := hne_k k_rr k_a rfl
  refine Ct.of (by decide) (by rfl) ?_
  refine Wp.eqs (L' := [(0, .ref a), (1, .int ticks), (2, .ref rr)]) (st' := []) rfl rfl ?_
  refine Wp.eqh (h' := (hSet h a (waC la ka w))) (by rw [hSet_self k_a]) ?_
  obtain ⟨R, er⟩ : ∃ R, f_X3_goOn w lf kf r ticks = R := ⟨_, rfl⟩
  rw [er]
  unfold f_X3_goOn at er
  unfold p_X3_goOn at hp
  refine x_iconst (pc := 0) (v := (0 : Int32)) dX3_goOn_0 (by decide) ?_
  refine x_istore_n (pc := 1) (L' := [(3, .int (0 : Int32)), (0, .ref a), (1, .int ticks), (2, .ref rr)]) dX3_goOn_1 rfl rfl ?_
  obtain ⟨ql2, hp⟩ := hp
  refine L_X3_goOn_2 G h a rr la ka w lf kf r ticks k_a k_la k_ka k_rr  xK (0 : Int32) w ql2 ?_
  obtain ⟨F3, eF3⟩ : ∃ F, l_X3_goOn_2 xK w lf kf r ticks (0 : Int32) w = F := ⟨_, rfl⟩
  rw [eF3]
  try rw [eF3] at er
  try rw [eF3] at hp
  subst er
  exact x_vret (pc := 18) dX3_goOn_18 rfl rfl rfl ⟨rfl, rfl⟩
