def f_X3_isNarrowed (w : Nat → Int32) : Int32 := (if (w 0) = (w 1) then (1 : Int32) else (0 : Int32))
set_option maxRecDepth 100000 in
set_option maxHeartbeats 4000000 in
theorem C_X3_isNarrowed (G : xG) (h : xH) (a la ka : Nat) (w : Nat → Int32) (k_a : hAt h a = some (waC la ka w)) : Cd G 0 yX3_isNarrowed cX3_isNarrowed 1 (some .boolean) [.ref a] h (some (.int (f_X3_isNarrowed w))) h := by
  refine Ct.of (by decide) (by rfl) ?_
  refine Wp.eqs (L' := [(0, .ref a)]) (st' := []) rfl rfl ?_
  obtain ⟨R, er⟩ : ∃ R, R = f_X3_isNarrowed w := ⟨_, rfl⟩
  rw [← er]
  unfold f_X3_isNarrowed at er
  refine x_aload_n (pc := 0) dX3_isNarrowed_0 rfl ?_
  refine x_getf (pc := 1) (v := .int (w 0)) dX3_isNarrowed_1 xf_X3_33 k_a rfl ?_
  refine x_aload_n (pc := 4) dX3_isNarrowed_4 rfl ?_
  refine x_getf (pc := 5) (v := .int (w 1)) dX3_isNarrowed_5 xf_X3_39 k_a rfl ?_
  refine x_mrg (pc' := 16) (L' := [(0, .ref a)]) (st' := [.int (if (w 0) = (w 1) then (1 : Int32) else (0 : Int32))]) (h' := h) (fun J => ?_) ?_
  · refine x_icmp_ne (pc := 8) (tgt := 15) dX3_isNarrowed_8 (by decide) (fun (c1 : ¬ ((w 0) = (w 1))) => ?_) (fun (c1 : (w 0) = (w 1)) => ?_)
    · refine x_iconst (pc := 15) (v := (0 : Int32)) dX3_isNarrowed_15 (by decide) ?_
      rw [if_neg c1] at J
      exact J
    · refine x_iconst (pc := 11) (v := (1 : Int32)) dX3_isNarrowed_11 (by decide) ?_
      refine x_goto (pc := 12) (tgt := 16) dX3_isNarrowed_12 (by decide) ?_
      rw [if_pos c1] at J
      exact J
  subst er
  exact x_iret (pc := 16) dX3_isNarrowed_16 rfl (xb_nar (by repeat (first | exact xB0 | exact xB1 | assumption | refine xB_ite ?_ ?_ | refine xB_ite1 ?_ ?_))) rfl rfl ⟨rfl, rfl⟩
theorem B_X3_isNarrowed (w : Nat → Int32) : xB (f_X3_isNarrowed w) := by
  unfold f_X3_isNarrowed
  repeat (first | exact xB0 | exact xB1 | assumption | refine xB_ite ?_ ?_ | refine xB_ite1 ?_ ?_)

def f_X3_probeSize (w : Nat → Int32) : Int32 := ((w 0) + ((((w 1) - (w 0)) + (1 : Int32)) / (2 : Int32)))
set_option maxRecDepth 100000 in
set_option maxHeartbeats 4000000 in
theorem C_X3_probeSize (G : xG) (h : xH) (a la ka : Nat) (w : Nat → Int32) (k_a : hAt h a = some (waC la ka w)) : Cd G 0 yX3_probeSize cX3_probeSize 1 (some .int) [.ref a] h (some (.int (f_X3_probeSize w))) h := by
  refine Ct.of (by decide) (by rfl) ?_
  refine Wp.eqs (L' := [(0, .ref a)]) (st' := []) rfl rfl ?_
  obtain ⟨R, er⟩ : ∃ R, R = f_X3_probeSize w := ⟨_, rfl⟩
  rw [← er]
  unfold f_X3_probeSize at er
  refine x_aload_n (pc := 0) dX3_probeSize_0 rfl ?_
  refine x_getf (pc := 1) (v := .int (w 0)) dX3_probeSize_1 xf_X3_33 k_a rfl ?_
  refine x_aload_n (pc := 4) dX3_probeSize_4 rfl ?_
  refine x_getf (pc := 5) (v := .int (w 1)) dX3_probeSize_5 xf_X3_39 k_a rfl ?_
  refine x_aload_n (pc := 8) dX3_probeSize_8 rfl ?_
  refine x_getf (pc := 9) (v := .int (w 0)) dX3_probeSize_9 xf_X3_33 k_a rfl ?_
  refine x_isub (pc := 12) dX3_probeSize_12 ?_
  refine x_iconst (pc := 13) (v := (1 : Int32)) dX3_probeSize_13 (by decide) ?_
  refine x_iadd (pc := 14) dX3_probeSize_14 ?_
  refine x_iconst (pc := 15) (v := (2 : Int32)) dX3_probeSize_15 (by decide) ?_
  refine x_idiv (pc := 16) dX3_probeSize_16 (by decide) ?_
  refine x_iadd (pc := 17) dX3_probeSize_17 ?_
  subst er
  exact x_iret (pc := 18) dX3_probeSize_18 rfl rfl rfl rfl ⟨rfl, rfl⟩

def f_X1_clear (r : Nat → Int32) : (Nat → Int32) := (upd (upd (upd (upd (upd r 0 (60 : Int32)) 1 (900 : Int32)) 2 (20 : Int32)) 3 (1 : Int32)) 4 (0 : Int32))
set_option maxRecDepth 100000 in
set_option maxHeartbeats 4000000 in
theorem C_X1_clear (G : xG) (h : xH) (rr : Nat) (r : Nat → Int32) (k_rr : hAt h rr = some (ruC r)) : Cd G 0 yX1_clear cX1_clear 1 none [.ref rr] h none (hSet h rr (ruC (f_X1_clear r))) := by
  refine Ct.of (by decide) (by rfl) ?_
  refine Wp.eqs (L' := [(0, .ref rr)]) (st' := []) rfl rfl ?_
  refine Wp.eqh (h' := (hSet h rr (ruC r))) (by rw [hSet_self k_rr]) ?_
  obtain ⟨R, er⟩ : ∃ R, R = f_X1_clear r := ⟨_, rfl⟩
  rw [← er]
  unfold f_X1_clear at er
  refine x_aload_n (pc := 0) dX1_clear_0 rfl ?_
  refine x_bipush (pc := 1) (v := (60 : Int32)) dX1_clear_1 (by decide) ?_
  refine x_putf (pc := 3) (e' := ruC (upd r 0 (60 : Int32))) dX1_clear_3 xf_X1_9 hAt_same rfl rfl rfl rfl ?_
  refine Wp.eqh (h' := (hSet h rr (ruC (upd r 0 (60 : Int32))))) (hSet_set) ?_
  refine x_aload_n (pc := 6) dX1_clear_6 rfl ?_
  refine x_sipush (pc := 7) (v := (900 : Int32)) dX1_clear_7 (by decide) ?_
  refine x_putf (pc := 10) (e' := ruC (upd (upd r 0 (60 : Int32)) 1 (900 : Int32))) dX1_clear_10 xf_X1_15 hAt_same rfl rfl rfl rfl ?_
  refine Wp.eqh (h' := (hSet h rr (ruC (upd (upd r 0 (60 : Int32)) 1 (900 : Int32))))) (hSet_set) ?_
  refine x_aload_n (pc := 13) dX1_clear_13 rfl ?_
  refine x_bipush (pc := 14) (v := (20 : Int32)) dX1_clear_14 (by decide) ?_
  refine x_putf (pc := 16) (e' := ruC (upd (upd (upd r 0 (60 : Int32)) 1 (900 : Int32)) 2 (20 : Int32))) dX1_clear_16 xf_X1_18 hAt_same rfl rfl rfl rfl ?_
  refine Wp.eqh (h' := (hSet h rr (ruC (upd (upd (upd r 0 (60 : Int32)) 1 (900 : Int32)) 2 (20 : Int32))))) (hSet_set) ?_
  refine x_aload_n (pc := 19) dX1_clear_19 rfl ?_
  refine x_iconst (pc := 20) (v := (1 : Int32)) dX1_clear_20 (by decide) ?_
  refine x_putf (pc := 21) (e' := ruC (upd (upd (upd (upd r 0 (60 : Int32)) 1 (900 : Int32)) 2 (20 : Int32)) 3 (1 : Int32))) dX1_clear_21 xf_X1_21 hAt_same rfl rfl rfl rfl ?_
  refine Wp.eqh (h' := (hSet h rr (ruC (upd (upd (upd (upd r 0 (60 : Int32)) 1 (900 : Int32)) 2 (20 : Int32)) 3 (1 : Int32))))) (hSet_set) ?_
  refine x_aload_n (pc := 24) dX1_clear_24 rfl ?_
  refine x_iconst (pc := 25) (v := (0 : Int32)) dX1_clear_25 (by decide) ?_
  refine x_putf (pc := 26) (e' := ruC (upd (upd (upd (upd (upd r 0 (60 : Int32)) 1 (900 : Int32)) 2 (20 : Int32)) 3 (1 : Int32)) 4 (0 : Int32))) dX1_clear_26 xf_X1_24 hAt_same rfl rfl rfl rfl ?_
  refine Wp.eqh (h' := (hSet h rr (ruC (upd (upd (upd (upd (upd r 0 (60 : Int32)) 1 (900 : Int32)) 2 (20 : Int32)) 3 (1 : Int32)) 4 (0 : Int32))))) (hSet_set) ?_
  subst er
  exact x_vret (pc := 29) dX1_clear_29 rfl rfl rfl ⟨rfl, rfl⟩

def f_X1_trusts (r : Nat → Int32) (told size : Int32) : Int32 := (if (r 3) = (0 : Int32) then (1 : Int32) else (if (r 3) = (1 : Int32) then (if told < (r 0) then (0 : Int32) else (if size ≤ told then (0 : Int32) else (1 : Int32))) else (0 : Int32)))
set_option maxRecDepth 100000 in
set_option maxHeartbeats 4000000 in
theorem C_X1_trusts (G : xG) (h : xH) (rr : Nat) (r : Nat → Int32) (told size : Int32) (k_rr : hAt h rr = some (ruC r)) : Cd G 0 yX1_trusts cX1_trusts 3 (some .boolean) [.ref rr, .int told, .int size] h (some (.int (f_X1_trusts r told size))) h := by
  refine Ct.of (by decide) (by rfl) ?_
  refine Wp.eqs (L' := [(0, .ref rr), (1, .int told), (2, .int size)]) (st' := []) rfl rfl ?_
  obtain ⟨R, er⟩ : ∃ R, R = f_X1_trusts r told size := ⟨_, rfl⟩
  rw [← er]
  unfold f_X1_trusts at er
  refine x_aload_n (pc := 0) dX1_trusts_0 rfl ?_
  refine x_getf (pc := 1) (v := .int (r 3)) dX1_trusts_1 xf_X1_21 k_rr rfl ?_
  by_cases c1 : (r 3) = (0 : Int32)
  · rw [if_pos c1] at er
    refine x_lookup (pc := 4) (off := 28) (tgt := 32) dX1_trusts_4 (by decide) (by rw [c1]; decide) (by decide) ?_
    refine x_iconst (pc := 32) (v := (1 : Int32)) dX1_trusts_32 (by decide) ?_
    subst er
    exact x_iret (pc := 33) dX1_trusts_33 rfl rfl rfl rfl ⟨rfl, rfl⟩
  rw [if_neg c1] at er
  by_cases c2 : (r 3) = (1 : Int32)
  · rw [if_pos c2] at er
    refine x_lookup (pc := 4) (off := 30) (tgt := 34) dX1_trusts_4 (by decide) (by rw [c2]; decide) (by decide) ?_
    refine x_iload_n (pc := 34) dX1_trusts_34 rfl ?_
    refine x_aload_n (pc := 35) dX1_trusts_35 rfl ?_
    refine x_getf (pc := 36) (v := .int (r 0)) dX1_trusts_36 xf_X1_9 k_rr rfl ?_
    refine x_mrg (pc' := 52) (L' := [(0, .ref rr), (1, .int told), (2, .int size)]) (st' := [.int (if told < (r 0) then (0 : Int32) else (if size ≤ told then (0 : Int32) else (1 : Int32)))]) (h' := h) (fun J => ?_) ?_
    · refine x_icmp_lt (pc := 39) (tgt := 51) dX1_trusts_39 (by decide) (fun (c3 : told < (r 0)) => ?_) (fun (c3 : ¬ (told < (r 0))) => ?_)
      · refine x_iconst (pc := 51) (v := (0 : Int32)) dX1_trusts_51 (by decide) ?_
        rw [if_pos c3] at J
        exact J
      · refine x_iload_n (pc := 42) dX1_trusts_42 rfl ?_
        refine x_iload_n (pc := 43) dX1_trusts_43 rfl ?_
        refine x_icmp_ge (pc := 44) (tgt := 51) dX1_trusts_44 (by decide) (fun (c4 : size ≤ told) => ?_) (fun (c4 : ¬ (size ≤ told)) => ?_)
        · refine x_iconst (pc := 51) (v := (0 : Int32)) dX1_trusts_51 (by decide) ?_
          rw [if_neg c3, if_pos c4] at J
          exact J
        · refine x_iconst (pc := 47) (v := (1 : Int32)) dX1_trusts_47 (by decide) ?_
          refine x_goto (pc := 48) (tgt := 52) dX1_trusts_48 (by decide) ?_
          rw [if_neg c3, if_neg c4] at J
          exact J
    subst er
    exact x_iret (pc := 52) dX1_trusts_52 rfl (xb_nar (by repeat (first | exact xB0 | exact xB1 | assumption | refine xB_ite ?_ ?_ | refine xB_ite1 ?_ ?_))) rfl rfl ⟨rfl, rfl⟩
  rw [if_neg c2] at er
  refine x_lookup (pc := 4) (off := 49) (tgt := 53) dX1_trusts_4 (by decide) (by have zc1 := xneL c1 (z := 0) rfl; have zc2 := xneL c2 (z := 1) rfl; simp [Op.lookupswitch.offset]; omega) (by decide) ?_
  refine x_iconst (pc := 53) (v := (0 : Int32)) dX1_trusts_53 (by decide) ?_
  subst er
  exact x_iret (pc := 54) dX1_trusts_54 rfl rfl rfl rfl ⟨rfl, rfl⟩
theorem B_X1_trusts (r : Nat → Int32) (told size : Int32) : xB (f_X1_trusts r told size) := by
  unfold f_X1_trusts
  repeat (first | exact xB0 | exact xB1 | assumption | refine xB_ite ?_ ?_ | refine xB_ite1 ?_ ?_)

def f_X3_lowerHigh (w : Nat → Int32) (told : Int32) : (Nat → Int32) := (if (w 1) ≤ told then w else (upd w 1 (if told < (w 0) then (w 0) else told)))
set_option maxRecDepth 100000 in
set_option maxHeartbeats 4000000 in
theorem C_X3_lowerHigh (G : xG) (h : xH) (a la ka : Nat) (w : Nat → Int32) (told : Int32) (k_a : hAt h a = some (waC la ka w)) : Cd G 1 yX3_lowerHigh cX3_lowerHigh 2 none [.ref a, .int told] h none (hSet h a (waC la ka (f_X3_lowerHigh w told))) := by
  refine Ct.of (by decide) (by rfl) ?_
  refine Wp.eqs (L' := [(0, .ref a), (1, .int told)]) (st' := []) rfl rfl ?_
  refine Wp.eqh (h' := (hSet h a (waC la ka w))) (by rw [hSet_self k_a]) ?_
  obtain ⟨R, er⟩ : ∃ R, R = f_X3_lowerHigh w told := ⟨_, rfl⟩
  rw [← er]
  unfold f_X3_lowerHigh at er
  refine x_iload_n (pc := 0) dX3_lowerHigh_0 rfl ?_
  refine x_aload_n (pc := 1) dX3_lowerHigh_1 rfl ?_
  refine x_getf (pc := 2) (v := .int (w 1)) dX3_lowerHigh_2 xf_X3_39 hAt_same rfl ?_
  refine x_icmp_ge (pc := 5) (tgt := 20) dX3_lowerHigh_5 (by decide) (fun (c1 : (w 1) ≤ told) => ?_) (fun (c1 : ¬ ((w 1) ≤ told)) => ?_)
  · rw [if_pos c1] at er
    subst er
    exact x_vret (pc := 20) dX3_lowerHigh_20 rfl rfl rfl ⟨rfl, rfl⟩
  · rw [if_neg c1] at er
    refine x_aload_n (pc := 8) dX3_lowerHigh_8 rfl ?_
    refine x_iload_n (pc := 9) dX3_lowerHigh_9 rfl ?_
    refine x_aload_n (pc := 10) dX3_lowerHigh_10 rfl ?_
    refine x_getf (pc := 11) (v := .int (w 0)) dX3_lowerHigh_11 xf_X3_33 hAt_same rfl ?_
    refine x_max (pc := 14) dX3_lowerHigh_14 xl_X3_86 rfl rfl rfl rfl rfl ?_
    refine x_putf (pc := 17) (e' := waC la ka (upd w 1 (if told < (w 0) then (w 0) else told))) dX3_lowerHigh_17 xf_X3_39 hAt_same rfl rfl rfl rfl ?_
    refine Wp.eqh (h' := (hSet h a (waC la ka (upd w 1 (if told < (w 0) then (w 0) else told))))) (hSet_set) ?_
    subst er
    exact x_vret (pc := 20) dX3_lowerHigh_20 rfl rfl rfl ⟨rfl, rfl⟩

def l_X3_dropper_2 : Nat → (Nat → Int32) → (Nat → Int32) → Int32 → Int32 → Int32
  | 0, _, _, _, _ => 0
  | n + 1, w, lf, size, v2 => (if (w 11) ≤ v2 then (-4 : Int32) else (if size ≤ (lf (v2.toNatClampNeg)) then (l_X3_dropper_2 n w lf size (v2 + (1 : Int32))) else v2))
def q_X3_dropper_2 : Nat → (Nat → Int32) → (Nat → Int32) → Int32 → Int32 → Prop
  | 0, _, _, _, _ => False
  | n + 1, w, lf, size, v2 => (if (w 11) ≤ v2 then True else (vp_in v2 6 ∧ (if size ≤ (lf (v2.toNatClampNeg)) then (q_X3_dropper_2 n w lf size (v2 + (1 : Int32))) else True)))
set_option maxRecDepth 100000 in
set_option maxHeartbeats 4000000 in
theorem L_X3_dropper_2 (G : xG) (h : xH) (a la ka : Nat) (w lf : Nat → Int32) (size : Int32) (k_a : hAt h a = some (waC la ka w)) (k_la : hAt h la = some (arI 6 lf)) : ∀ (n : Nat) (v2 : Int32), q_X3_dropper_2 n w lf size v2 → Wp G yX3_dropper.cls cX3_dropper 3 yX3_dropper.name (some .int) (xR 0 0 0) (xZd G (some (.int (l_X3_dropper_2 n w lf size v2))) h) 0 0 2 [(2, .int v2), (0, .ref a), (1, .int size)] [] h := by
  intro n
  induction n with
  | zero => intro v2 hp; exact absurd hp id
  | succ n ih =>
    intro v2 hp
    obtain ⟨R, er⟩ : ∃ R, R = l_X3_dropper_2 (n + 1) w lf size v2 := ⟨_, rfl⟩
    rw [← er]
    rw [l_X3_dropper_2] at er
    rw [q_X3_dropper_2] at hp
    refine x_iload_n (pc := 2) dX3_dropper_2 rfl ?_
    refine x_aload_n (pc := 3) dX3_dropper_3 rfl ?_
    refine x_getf (pc := 4) (v := .int (w 11)) dX3_dropper_4 xf_X3_22 k_a rfl ?_
    refine x_icmp_ge (pc := 7) (tgt := 28) dX3_dropper_7 (by decide) (fun (c1 : (w 11) ≤ v2) => ?_) (fun (c1 : ¬ ((w 11) ≤ v2)) => ?_)
    · rw [if_pos c1] at er hp
      refine x_bipush (pc := 28) (v := (-4 : Int32)) dX3_dropper_28 (by decide) ?_
      subst er
      exact x_iret (pc := 30) dX3_dropper_30 rfl rfl rfl rfl ⟨rfl, rfl⟩
    · rw [if_neg c1] at er hp
      refine x_aload_n (pc := 10) dX3_dropper_10 rfl ?_
      refine x_getf (pc := 11) (v := .ref la) dX3_dropper_11 xf_X3_9 k_a rfl ?_
      refine x_iload_n (pc := 14) dX3_dropper_14 rfl ?_
      obtain ⟨q15, hp⟩ := hp
      refine x_iald (pc := 15) dX3_dropper_15 k_la q15 (j := (v2.toNatClampNeg)) rfl ?_
      refine x_iload_n (pc := 16) dX3_dropper_16 rfl ?_
      refine x_icmp_ge (pc := 17) (tgt := 22) dX3_dropper_17 (by decide) (fun (c2 : size ≤ (lf (v2.toNatClampNeg))) => ?_) (fun (c2 : ¬ (size ≤ (lf (v2.toNatClampNeg)))) => ?_)
      · rw [if_pos c2] at er hp
        refine x_iinc (pc := 22) (v := (v2 + (1 : Int32))) (L' := [(2, .int (v2 + (1 : Int32))), (0, .ref a), (1, .int size)]) dX3_dropper_22 rfl rfl rfl rfl ?_
        refine x_goto (pc := 25) (tgt := 2) dX3_dropper_25 (by decide) ?_
        subst er
        exact ih (v2 + (1 : Int32)) hp
      · rw [if_neg c2] at er hp
        refine x_iload_n (pc := 20) dX3_dropper_20 rfl ?_
        subst er
        exact x_iret (pc := 21) dX3_dropper_21 rfl rfl rfl rfl ⟨rfl, rfl⟩
def f_X3_dropper (w lf : Nat → Int32) (size : Int32) : Int32 := (l_X3_dropper_2 xK w lf size (0 : Int32))
def p_X3_dropper (w lf : Nat → Int32) (size : Int32) : Prop := (q_X3_dropper_2 xK w lf size (0 : Int32))
set_option maxRecDepth 100000 in
set_option maxHeartbeats 4000000 in
theorem C_X3_dropper (G : xG) (h : xH) (a la ka : Nat) (w lf : Nat → Int32) (size : Int32) (k_a : hAt h a = some (waC la ka w)) (k_la : hAt h la = some (arI 6 lf)) (hp : p_X3_dropper w lf size) : Cd G 0 yX3_dropper cX3_dropper 3 (some .int) [.ref a, .int size] h (some (.int (f_X3_dropper w lf size))) h := by
  refine Ct.of (by decide) (by rfl) ?_
  refine Wp.eqs (L' := [(0, .ref a), (1, .int size)]) (st' := []) rfl rfl ?_
  obtain ⟨R, er⟩ : ∃ R, R = f_X3_dropper w lf size := ⟨_, rfl⟩
  rw [← er]
  unfold f_X3_dropper at er
  unfold p_X3_dropper at hp
  refine x_iconst (pc := 0) (v := (0 : Int32)) dX3_dropper_0 (by decide) ?_
  refine x_istore_n (pc := 1) (L' := [(2, .int (0 : Int32)), (0, .ref a), (1, .int size)]) dX3_dropper_1 rfl rfl ?_
  subst er
  exact L_X3_dropper_2 G h a la ka w lf size k_a k_la  xK (0 : Int32)  hp
