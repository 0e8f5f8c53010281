abbrev waD : gE := .inr (3, [.int 0, .int 0, .null, .null, .int 0, .int 0, .int 0, .int 0, .int 0, .int 0, .int 0, .int 0, .int 0, .int 0, .int 0])
abbrev txD : gE := .inr (2, [.null, .int 0, .int 0])
abbrev ntD : gE := .inr (0, [.null, .null, .int 0, .int 0])
abbrev gpD : gE := .inr (4, [.null, .null, .null, .null, .int 0, .int 0, .null, .null])
abbrev moD : gE := .inr (5, [.null, .null, .null, .null, .int 0, .null, .int 0, .int 0, .int 0, .int 0])
set_option maxRecDepth 100000 in
set_option maxHeartbeats 4000000 in
theorem C_X1_init (G : xG) (h : xH) (a : Nat) (k : hAt h a = some (.inr (1, [.int 0, .int 0, .int 0, .int 0, .int 0]))) : Ct G 1 0 0 yX1_init cX1_init 1 none [.ref a] h (fun v' h' => v' = none ∧ h' = h) := by
  refine Ct.of (by decide) (by rfl) ?_
  refine Wp.eqs (L' := [(0, .ref a)]) (st' := []) rfl rfl ?_
  refine x_aload_n (pc := 0) dX1_init_0 rfl ?_
  refine x_objInit (pc := 1) dX1_init_1 xl_X1_3 rfl rfl rfl ?_
  exact x_vret (pc := 4) dX1_init_4 rfl rfl rfl ⟨rfl, rfl⟩
set_option maxRecDepth 100000 in
set_option maxHeartbeats 4000000 in
theorem C_X3_init (G : xG) (h : xH) (a : Nat) (k : hAt h a = some (.inr (3, [.int 0, .int 0, .null, .null, .int 0, .int 0, .int 0, .int 0, .int 0, .int 0, .int 0, .int 0, .int 0, .int 0, .int 0]))) (z : h.1 = a + 1) : Ct G 1 2 12 yX3_init cX3_init 1 none [.ref a] h (fun v' h' => v' = none ∧ h'.1 = a + 3 ∧ hAt h' a = some (waC (a + 1) (a + 2) (fun _ => 0)) ∧ hAt h' (a + 1) = some (arI 6 (fun _ => 0)) ∧ hAt h' (a + 2) = some (arI 6 (fun _ => 0)) ∧ ∀ q, q < a → hAt h' q = hAt h q) := by
  refine Ct.of (by decide) (by rfl) ?_
  refine Wp.eqs (L' := [(0, .ref a)]) (st' := []) rfl rfl ?_
  have z_h : h.1 = (a + 1) := z
  have f_h : ∀ q, q < a → hAt h q = hAt h q := fun _ _ => rfl
  have k_a_h : hAt h a = some (.inr (3, [.int 0, .int 0, .null, .null, .int 0, .int 0, .int 0, .int 0, .int 0, .int 0, .int 0, .int 0, .int 0, .int 0, .int 0])) := k
  refine x_aload_n (pc := 0) dX3_init_0 rfl ?_
  refine x_objInit (pc := 1) dX3_init_1 xl_X3_3 rfl rfl rfl ?_
  refine x_aload_n (pc := 4) dX3_init_4 rfl ?_
  refine x_bipush (pc := 5) (v := (6 : Int32)) dX3_init_5 (by decide) ?_
  refine x_newa (pc := 7) (t := 0) (N := 6) (ty := .int) dX3_init_7 rfl rfl (fun _ z => by cases z) rfl xw_arr_int rfl rfl (by decide) rfl rfl ?_
  rw [z_h]
  obtain ⟨h1, eh1⟩ : ∃ z, z = hNew h (arI 6 (fun _ => 0)) := ⟨_, rfl⟩
  rw [← eh1]
  have k_a_h1 : hAt h1 a = some (.inr (3, [.int 0, .int 0, .null, .null, .int 0, .int 0, .int 0, .int 0, .int 0, .int 0, .int 0, .int 0, .int 0, .int 0, .int 0])) := by rw [eh1]; exact hNew_o (cZ z_h (cNeL rfl)) k_a_h
  have k_a1_h1 : hAt h1 (a + 1) = some (arI 6 (fun _ => 0)) := by rw [eh1]; exact hNew_p z_h
  have z_h1 : h1.1 = (a + 2) := by rw [eh1]; exact cZn z_h
  have f_h1 : ∀ q, q < a → hAt h1 q = hAt h q := fun q hq => by rw [eh1]; exact (hNew_e (cZ z_h (cLt hq))).trans (f_h q hq)
  refine x_putF (pc := 9) (e' := .inr (3, [.int 0, .int 0, .ref (a + 1), .null, .int 0, .int 0, .int 0, .int 0, .int 0, .int 0, .int 0, .int 0, .int 0, .int 0, .int 0])) dX3_init_9 xf_X3_9 rfl rfl k_a_h1 rfl rfl rfl rfl ?_
  obtain ⟨h2, eh2⟩ : ∃ z, z = hSet h1 a (.inr (3, [.int 0, .int 0, .ref (a + 1), .null, .int 0, .int 0, .int 0, .int 0, .int 0, .int 0, .int 0, .int 0, .int 0, .int 0, .int 0])) := ⟨_, rfl⟩
  rw [← eh2]
  have k_a1_h2 : hAt h2 (a + 1) = some (arI 6 (fun _ => 0)) := by rw [eh2]; exact hAt_n (cNeR rfl) k_a1_h1
  have k_a_h2 : hAt h2 a = some (.inr (3, [.int 0, .int 0, .ref (a + 1), .null, .int 0, .int 0, .int 0, .int 0, .int 0, .int 0, .int 0, .int 0, .int 0, .int 0, .int 0])) := by rw [eh2]; exact hAt_same
  have z_h2 : h2.1 = (a + 2) := by rw [eh2]; exact z_h1
  have f_h2 : ∀ q, q < a → hAt h2 q = hAt h q := fun q hq => by rw [eh2]; exact (hAt_ne (cLt0 hq)).trans (f_h1 q hq)
  refine x_aload_n (pc := 12) dX3_init_12 rfl ?_
  refine x_bipush (pc := 13) (v := (6 : Int32)) dX3_init_13 (by decide) ?_
  refine x_newa (pc := 15) (t := 0) (N := 6) (ty := .int) dX3_init_15 rfl rfl (fun _ z => by cases z) rfl xw_arr_int rfl rfl (by decide) rfl rfl ?_
  rw [z_h2]
  obtain ⟨h3, eh3⟩ : ∃ z, z = hNew h2 (arI 6 (fun _ => 0)) := ⟨_, rfl⟩
  rw [← eh3]
  have k_a_h3 : hAt h3 a = some (.inr (3, [.int 0, .int 0, .ref (a + 1), .null, .int 0, .int 0, .int 0, .int 0, .int 0, .int 0, .int 0, .int 0, .int 0, .int 0, .int 0])) := by rw [eh3]; exact hNew_o (cZ z_h2 (cNeL rfl)) k_a_h2
  have k_a1_h3 : hAt h3 (a + 1) = some (arI 6 (fun _ => 0)) := by rw [eh3]; exact hNew_o (cZ z_h2 (cNe rfl)) k_a1_h2
  have k_a2_h3 : hAt h3 (a + 2) = some (arI 6 (fun _ => 0)) := by rw [eh3]; exact hNew_p z_h2
  have z_h3 : h3.1 = (a + 3) := by rw [eh3]; exact cZn z_h2
  have f_h3 : ∀ q, q < a → hAt h3 q = hAt h q := fun q hq => by rw [eh3]; exact (hNew_e (cZ z_h2 (cLt hq))).trans (f_h2 q hq)
  refine x_putF (pc := 17) (e' := .inr (3, [.int 0, .int 0, .ref (a + 1), .ref (a + 2), .int 0, .int 0, .int 0, .int 0, .int 0, .int 0, .int 0, .int 0, .int 0, .int 0, .int 0])) dX3_init_17 xf_X3_15 rfl rfl k_a_h3 rfl rfl rfl rfl ?_
  obtain ⟨h4, eh4⟩ : ∃ z, z = hSet h3 a (.inr (3, [.int 0, .int 0, .ref (a + 1), .ref (a + 2), .int 0, .int 0, .int 0, .int 0, .int 0, .int 0, .int 0, .int 0, .int 0, .int 0, .int 0])) := ⟨_, rfl⟩
  rw [← eh4]
  have k_a1_h4 : hAt h4 (a + 1) = some (arI 6 (fun _ => 0)) := by rw [eh4]; exact hAt_n (cNeR rfl) k_a1_h3
  have k_a2_h4 : hAt h4 (a + 2) = some (arI 6 (fun _ => 0)) := by rw [eh4]; exact hAt_n (cNeR rfl) k_a2_h3
  have k_a_h4 : hAt h4 a = some (.inr (3, [.int 0, .int 0, .ref (a + 1), .ref (a + 2), .int 0, .int 0, .int 0, .int 0, .int 0, .int 0, .int 0, .int 0, .int 0, .int 0, .int 0])) := by rw [eh4]; exact hAt_same
  have z_h4 : h4.1 = (a + 3) := by rw [eh4]; exact z_h3
  have f_h4 : ∀ q, q < a → hAt h4 q = hAt h q := fun q hq => by rw [eh4]; exact (hAt_ne (cLt0 hq)).trans (f_h3 q hq)
  exact x_vret (pc := 20) dX3_init_20 rfl rfl rfl ⟨rfl, z_h4, k_a_h4, k_a1_h4, k_a2_h4, f_h4⟩
set_option maxRecDepth 100000 in
set_option maxHeartbeats 4000000 in
theorem C_X2_init (G : xG) (h : xH) (a : Nat) (k : hAt h a = some (.inr (2, [.null, .int 0, .int 0]))) (z : h.1 = a + 1) : Ct G 1 1 240 yX2_init cX2_init 1 none [.ref a] h (fun v' h' => v' = none ∧ h'.1 = a + 2 ∧ hAt h' a = some (txC (a + 1) (fun _ => 0)) ∧ hAt h' (a + 1) = some (arC 240 (fun _ => 0)) ∧ ∀ q, q < a → hAt h' q = hAt h q) := by
  refine Ct.of (by decide) (by rfl) ?_
  refine Wp.eqs (L' := [(0, .ref a)]) (st' := []) rfl rfl ?_
  have z_h : h.1 = (a + 1) := z
  have f_h : ∀ q, q < a → hAt h q = hAt h q := fun _ _ => rfl
  have k_a_h : hAt h a = some (.inr (2, [.null, .int 0, .int 0])) := k
  refine x_aload_n (pc := 0) dX2_init_0 rfl ?_
  refine x_objInit (pc := 1) dX2_init_1 xl_X2_3 rfl rfl rfl ?_
  refine x_aload_n (pc := 4) dX2_init_4 rfl ?_
  refine x_sipush (pc := 5) (v := (240 : Int32)) dX2_init_5 (by decide) ?_
  refine x_newa (pc := 8) (t := 1) (N := 240) (ty := .char) dX2_init_8 rfl rfl (fun _ z => by cases z) rfl xw_arr_char rfl rfl (by decide) rfl rfl ?_
  rw [z_h]
  obtain ⟨h1, eh1⟩ : ∃ z, z = hNew h (arC 240 (fun _ => 0)) := ⟨_, rfl⟩
  rw [← eh1]
  have k_a_h1 : hAt h1 a = some (.inr (2, [.null, .int 0, .int 0])) := by rw [eh1]; exact hNew_o (cZ z_h (cNeL rfl)) k_a_h
  have k_a1_h1 : hAt h1 (a + 1) = some (arC 240 (fun _ => 0)) := by rw [eh1]; exact hNew_p z_h
  have z_h1 : h1.1 = (a + 2) := by rw [eh1]; exact cZn z_h
  have f_h1 : ∀ q, q < a → hAt h1 q = hAt h q := fun q hq => by rw [eh1]; exact (hNew_e (cZ z_h (cLt hq))).trans (f_h q hq)
  refine x_putF (pc := 10) (e' := .inr (2, [.ref (a + 1), .int 0, .int 0])) dX2_init_10 xf_X2_9 rfl rfl k_a_h1 rfl rfl rfl rfl ?_
  obtain ⟨h2, eh2⟩ : ∃ z, z = hSet h1 a (.inr (2, [.ref (a + 1), .int 0, .int 0])) := ⟨_, rfl⟩
  rw [← eh2]
  have k_a1_h2 : hAt h2 (a + 1) = some (arC 240 (fun _ => 0)) := by rw [eh2]; exact hAt_n (cNeR rfl) k_a1_h1
  have k_a_h2 : hAt h2 a = some (.inr (2, [.ref (a + 1), .int 0, .int 0])) := by rw [eh2]; exact hAt_same
  have z_h2 : h2.1 = (a + 2) := by rw [eh2]; exact z_h1
  have f_h2 : ∀ q, q < a → hAt h2 q = hAt h q := fun q hq => by rw [eh2]; exact (hAt_ne (cLt0 hq)).trans (f_h1 q hq)
  exact x_vret (pc := 13) dX2_init_13 rfl rfl rfl ⟨rfl, z_h2, k_a_h2, k_a1_h2, f_h2⟩
set_option maxRecDepth 100000 in
set_option maxHeartbeats 4000000 in
theorem C_X0_init (G : xG) (h : xH) (a : Nat) (k : hAt h a = some (.inr (0, [.null, .null, .int 0, .int 0]))) (z : h.1 = a + 1) : Ct G 2 14 117 yX0_init cX0_init 2 none [.ref a] h (fun v' h' => v' = none ∧ h'.1 = a + 15 ∧ nk h' a (fun _ => 0) (fun _ => 0) (fun _ _ => 0) (fun _ _ => 0) (fun _ _ => 0) ∧ ∀ q, q < a → hAt h' q = hAt h q) := by
  refine Ct.of (by decide) (by rfl) ?_
  refine Wp.eqs (L' := [(0, .ref a)]) (st' := []) rfl rfl ?_
  have z_h : h.1 = (a + 1) := z
  have f_h : ∀ q, q < a → hAt h q = hAt h q := fun _ _ => rfl
  have k_a_h : hAt h a = some (.inr (0, [.null, .null, .int 0, .int 0])) := k
  refine x_aload_n (pc := 0) dX0_init_0 rfl ?_
  refine x_objInit (pc := 1) dX0_init_1 xl_X0_3 rfl rfl rfl ?_
  refine x_aload_n (pc := 4) dX0_init_4 rfl ?_
  refine x_new (pc := 5) dX0_init_5 xn_X0_9 rfl rfl ?_
  rw [z_h]
  obtain ⟨h1, eh1⟩ : ∃ z, z = hNew h (.inr (1, [.int 0, .int 0, .int 0, .int 0, .int 0])) := ⟨_, rfl⟩
  rw [← eh1]
  have k_a_h1 : hAt h1 a = some (.inr (0, [.null, .null, .int 0, .int 0])) := by rw [eh1]; exact hNew_o (cZ z_h (cNeL rfl)) k_a_h
  have k_a1_h1 : hAt h1 (a + 1) = some (.inr (1, [.int 0, .int 0, .int 0, .int 0, .int 0])) := by rw [eh1]; exact hNew_p z_h
  have z_h1 : h1.1 = (a + 2) := by rw [eh1]; exact cZn z_h
  have f_h1 : ∀ q, q < a → hAt h1 q = hAt h q := fun q hq => by rw [eh1]; exact (hNew_e (cZ z_h (cLt hq))).trans (f_h q hq)
  refine x_dup (pc := 8) dX0_init_8 rfl ?_
  refine x_callIN (pc := 9) (As := []) (rest := [.ref (a + 1), .ref a]) (mc := 0) (ms := 0) dX0_init_9 xnl_X0_11 xi_X1_init rfl rfl rfl rfl rfl (C_X1_init G h1 (a + 1) k_a1_h1) (fun v h2 hq => ?_)
  obtain ⟨ev, eh⟩ := hq
  subst ev
  rw [eh]
  refine Wp.eqs (L' := [(0, .ref a)]) (st' := [.ref (a + 1), .ref a]) rfl rfl ?_
  refine x_putF (pc := 12) (e' := .inr (0, [.ref (a + 1), .null, .int 0, .int 0])) dX0_init_12 xf_X0_12 rfl rfl k_a_h1 rfl rfl rfl rfl ?_
  obtain ⟨h3, eh3⟩ : ∃ z, z = hSet h1 a (.inr (0, [.ref (a + 1), .null, .int 0, .int 0])) := ⟨_, rfl⟩
  rw [← eh3]
  have k_a1_h3 : hAt h3 (a + 1) = some (.inr (1, [.int 0, .int 0, .int 0, .int 0, .int 0])) := by rw [eh3]; exact hAt_n (cNeR rfl) k_a1_h1
  have k_a_h3 : hAt h3 a = some (.inr (0, [.ref (a + 1), .null, .int 0, .int 0])) := by rw [eh3]; exact hAt_same
  have z_h3 : h3.1 = (a + 2) := by rw [eh3]; exact z_h1
  have f_h3 : ∀ q, q < a → hAt h3 q = hAt h q := fun q hq => by rw [eh3]; exact (hAt_ne (cLt0 hq)).trans (f_h1 q hq)
  refine x_aload_n (pc := 15) dX0_init_15 rfl ?_
  refine x_iconst (pc := 16) (v := (4 : Int32)) dX0_init_16 (by decide) ?_
  refine x_newq (pc := 17) (t := 3) (N := 4) (Cn := RX3) dX0_init_17 rfl (fun _ E => E.2.2.1) xc_X0_18 rfl rfl rfl rfl ?_
  rw [z_h3]
  obtain ⟨h4, eh4⟩ : ∃ z, z = hNew h3 (arR 3 4 (fun _ => none)) := ⟨_, rfl⟩
  rw [← eh4]
  have k_a_h4 : hAt h4 a = some (.inr (0, [.ref (a + 1), .null, .int 0, .int 0])) := by rw [eh4]; exact hNew_o (cZ z_h3 (cNeL rfl)) k_a_h3
  have k_a1_h4 : hAt h4 (a + 1) = some (.inr (1, [.int 0, .int 0, .int 0, .int 0, .int 0])) := by rw [eh4]; exact hNew_o (cZ z_h3 (cNe rfl)) k_a1_h3
  have k_a2_h4 : hAt h4 (a + 2) = some (arR 3 4 (fun _ => none)) := by rw [eh4]; exact hNew_p z_h3
  have z_h4 : h4.1 = (a + 3) := by rw [eh4]; exact cZn z_h3
  have f_h4 : ∀ q, q < a → hAt h4 q = hAt h q := fun q hq => by rw [eh4]; exact (hNew_e (cZ z_h3 (cLt hq))).trans (f_h3 q hq)
  refine x_putF (pc := 20) (e' := .inr (0, [.ref (a + 1), .ref (a + 2), .int 0, .int 0])) dX0_init_20 xf_X0_20 rfl rfl k_a_h4 rfl rfl rfl rfl ?_
  obtain ⟨h5, eh5⟩ : ∃ z, z = hSet h4 a (.inr (0, [.ref (a + 1), .ref (a + 2), .int 0, .int 0])) := ⟨_, rfl⟩
  rw [← eh5]
  have k_a1_h5 : hAt h5 (a + 1) = some (.inr (1, [.int 0, .int 0, .int 0, .int 0, .int 0])) := by rw [eh5]; exact hAt_n (cNeR rfl) k_a1_h4
  have k_a2_h5 : hAt h5 (a + 2) = some (arR 3 4 (fun _ => none)) := by rw [eh5]; exact hAt_n (cNeR rfl) k_a2_h4
  have k_a_h5 : hAt h5 a = some (.inr (0, [.ref (a + 1), .ref (a + 2), .int 0, .int 0])) := by rw [eh5]; exact hAt_same
  have z_h5 : h5.1 = (a + 3) := by rw [eh5]; exact z_h4
  have f_h5 : ∀ q, q < a → hAt h5 q = hAt h q := fun q hq => by rw [eh5]; exact (hAt_ne (cLt0 hq)).trans (f_h4 q hq)
  refine x_iconst (pc := 23) (v := (0 : Int32)) dX0_init_23 (by decide) ?_
  refine x_istore_n (pc := 24) (L' := [(1, .int (0 : Int32)), (0, .ref a)]) dX0_init_24 rfl rfl ?_
  refine x_iload_n (pc := 25) dX0_init_25 rfl ?_
  refine x_iconst (pc := 26) (v := (4 : Int32)) dX0_init_26 (by decide) ?_
  refine x_icmp_ge (pc := 27) (tgt := 49) dX0_init_27 (by decide) (fun z => absurd z (by decide)) (fun _ => ?_)
  refine x_aload_n (pc := 30) dX0_init_30 rfl ?_
  refine x_getf (pc := 31) (v := .ref (a + 2)) dX0_init_31 xf_X0_20 k_a_h5 rfl ?_
  refine x_iload_n (pc := 34) dX0_init_34 rfl ?_
  refine x_new (pc := 35) dX0_init_35 xn_X0_18 rfl rfl ?_
  rw [z_h5]
  obtain ⟨h6, eh6⟩ : ∃ z, z = hNew h5 (.inr (3, [.int 0, .int 0, .null, .null, .int 0, .int 0, .int 0, .int 0, .int 0, .int 0, .int 0, .int 0, .int 0, .int 0, .int 0])) := ⟨_, rfl⟩
  rw [← eh6]
  have k_a_h6 : hAt h6 a = some (.inr (0, [.ref (a + 1), .ref (a + 2), .int 0, .int 0])) := by rw [eh6]; exact hNew_o (cZ z_h5 (cNeL rfl)) k_a_h5
  have k_a1_h6 : hAt h6 (a + 1) = some (.inr (1, [.int 0, .int 0, .int 0, .int 0, .int 0])) := by rw [eh6]; exact hNew_o (cZ z_h5 (cNe rfl)) k_a1_h5
  have k_a2_h6 : hAt h6 (a + 2) = some (arR 3 4 (fun _ => none)) := by rw [eh6]; exact hNew_o (cZ z_h5 (cNe rfl)) k_a2_h5
  have k_a3_h6 : hAt h6 (a + 3) = some (.inr (3, [.int 0, .int 0, .null, .null, .int 0, .int 0, .int 0, .int 0, .int 0, .int 0, .int 0, .int 0, .int 0, .int 0, .int 0])) := by rw [eh6]; exact hNew_p z_h5
  have z_h6 : h6.1 = (a + 4) := by rw [eh6]; exact cZn z_h5
  have f_h6 : ∀ q, q < a → hAt h6 q = hAt h q := fun q hq => by rw [eh6]; exact (hNew_e (cZ z_h5 (cLt hq))).trans (f_h5 q hq)
  refine x_dup (pc := 38) dX0_init_38 rfl ?_
  refine x_callIN (pc := 39) (As := []) (rest := [.ref (a + 3), .int (0 : Int32), .ref (a + 2)]) (mc := 2) (ms := 12) dX0_init_39 xnl_X0_24 xi_X3_init rfl rfl rfl rfl rfl (C_X3_init G h6 (a + 3) k_a3_h6 z_h6) (fun v h7 hq => ?_)
  obtain ⟨ev, y_h7, w0_h7, w1_h7, w2_h7, g_h7⟩ := hq
  subst ev
  refine Wp.eqs (L' := [(1, .int (0 : Int32)), (0, .ref a)]) (st' := [.ref (a + 3), .int (0 : Int32), .ref (a + 2)]) rfl rfl ?_
  have k_a_h7 : hAt h7 a = some (.inr (0, [.ref (a + 1), .ref (a + 2), .int 0, .int 0])) := (g_h7 a (cTo0 rfl)).trans k_a_h6
  have k_a1_h7 : hAt h7 (a + 1) = some (.inr (1, [.int 0, .int 0, .int 0, .int 0, .int 0])) := (g_h7 (a + 1) (cTo rfl)).trans k_a1_h6
  have k_a2_h7 : hAt h7 (a + 2) = some (arR 3 4 (fun _ => none)) := (g_h7 (a + 2) (cTo rfl)).trans k_a2_h6
  have k_a3_h7 : hAt h7 (a + 3) = some (waC (a + 4) (a + 5) (fun _ => 0)) := w0_h7
  have k_a4_h7 : hAt h7 (a + 4) = some (arI 6 (fun _ => 0)) := w1_h7
  have k_a5_h7 : hAt h7 (a + 5) = some (arI 6 (fun _ => 0)) := w2_h7
  have z_h7 : h7.1 = (a + 6) := y_h7
  have f_h7 : ∀ q, q < a → hAt h7 q = hAt h q := fun q hq => (g_h7 q (cToq hq)).trans (f_h6 q hq)
  refine x_aast (pc := 42) (t := 3) (e' := arR 3 4 (va_up (fun _ => none) 0 (some (a + 3)))) (ci := 3) rfl rfl dX0_init_42 k_a2_h7 k_a3_h7 (vp_in_nI (n := 0) (by decide) (by decide)) rfl ?_
  obtain ⟨h8, eh8⟩ : ∃ z, z = hSet h7 (a + 2) (arR 3 4 (va_up (fun _ => none) 0 (some (a + 3)))) := ⟨_, rfl⟩
  rw [← eh8]
  have k_a_h8 : hAt h8 a = some (.inr (0, [.ref (a + 1), .ref (a + 2), .int 0, .int 0])) := by rw [eh8]; exact hAt_n (cNeL rfl) k_a_h7
  have k_a1_h8 : hAt h8 (a + 1) = some (.inr (1, [.int 0, .int 0, .int 0, .int 0, .int 0])) := by rw [eh8]; exact hAt_n (cNe rfl) k_a1_h7
  have k_a3_h8 : hAt h8 (a + 3) = some (waC (a + 4) (a + 5) (fun _ => 0)) := by rw [eh8]; exact hAt_n (cNe rfl) k_a3_h7
  have k_a4_h8 : hAt h8 (a + 4) = some (arI 6 (fun _ => 0)) := by rw [eh8]; exact hAt_n (cNe rfl) k_a4_h7
  have k_a5_h8 : hAt h8 (a + 5) = some (arI 6 (fun _ => 0)) := by rw [eh8]; exact hAt_n (cNe rfl) k_a5_h7
  have k_a2_h8 : hAt h8 (a + 2) = some (arR 3 4 (va_up (fun _ => none) 0 (some (a + 3)))) := by rw [eh8]; exact hAt_same
  have z_h8 : h8.1 = (a + 6) := by rw [eh8]; exact z_h7
  have f_h8 : ∀ q, q < a → hAt h8 q = hAt h q := fun q hq => by rw [eh8]; exact (hAt_ne (cLt hq)).trans (f_h7 q hq)
  refine x_iinc (pc := 43) (v := (1 : Int32)) (L' := [(1, .int (1 : Int32)), (0, .ref a)]) dX0_init_43 rfl (by decide) rfl rfl ?_
  refine x_goto (pc := 46) (tgt := 25) dX0_init_46 (by decide) ?_
  refine x_iload_n (pc := 25) dX0_init_25 rfl ?_
  refine x_iconst (pc := 26) (v := (4 : Int32)) dX0_init_26 (by decide) ?_
  refine x_icmp_ge (pc := 27) (tgt := 49) dX0_init_27 (by decide) (fun z => absurd z (by decide)) (fun _ => ?_)
  refine x_aload_n (pc := 30) dX0_init_30 rfl ?_
  refine x_getf (pc := 31) (v := .ref (a + 2)) dX0_init_31 xf_X0_20 k_a_h8 rfl ?_
  refine x_iload_n (pc := 34) dX0_init_34 rfl ?_
  refine x_new (pc := 35) dX0_init_35 xn_X0_18 rfl rfl ?_
  rw [z_h8]
  obtain ⟨h9, eh9⟩ : ∃ z, z = hNew h8 (.inr (3, [.int 0, .int 0, .null, .null, .int 0, .int 0, .int 0, .int 0, .int 0, .int 0, .int 0, .int 0, .int 0, .int 0, .int 0])) := ⟨_, rfl⟩
  rw [← eh9]
  have k_a_h9 : hAt h9 a = some (.inr (0, [.ref (a + 1), .ref (a + 2), .int 0, .int 0])) := by rw [eh9]; exact hNew_o (cZ z_h8 (cNeL rfl)) k_a_h8
  have k_a1_h9 : hAt h9 (a + 1) = some (.inr (1, [.int 0, .int 0, .int 0, .int 0, .int 0])) := by rw [eh9]; exact hNew_o (cZ z_h8 (cNe rfl)) k_a1_h8
  have k_a2_h9 : hAt h9 (a + 2) = some (arR 3 4 (va_up (fun _ => none) 0 (some (a + 3)))) := by rw [eh9]; exact hNew_o (cZ z_h8 (cNe rfl)) k_a2_h8
  have k_a3_h9 : hAt h9 (a + 3) = some (waC (a + 4) (a + 5) (fun _ => 0)) := by rw [eh9]; exact hNew_o (cZ z_h8 (cNe rfl)) k_a3_h8
  have k_a4_h9 : hAt h9 (a + 4) = some (arI 6 (fun _ => 0)) := by rw [eh9]; exact hNew_o (cZ z_h8 (cNe rfl)) k_a4_h8
  have k_a5_h9 : hAt h9 (a + 5) = some (arI 6 (fun _ => 0)) := by rw [eh9]; exact hNew_o (cZ z_h8 (cNe rfl)) k_a5_h8
  have k_a6_h9 : hAt h9 (a + 6) = some (.inr (3, [.int 0, .int 0, .null, .null, .int 0, .int 0, .int 0, .int 0, .int 0, .int 0, .int 0, .int 0, .int 0, .int 0, .int 0])) := by rw [eh9]; exact hNew_p z_h8
  have z_h9 : h9.1 = (a + 7) := by rw [eh9]; exact cZn z_h8
  have f_h9 : ∀ q, q < a → hAt h9 q = hAt h q := fun q hq => by rw [eh9]; exact (hNew_e (cZ z_h8 (cLt hq))).trans (f_h8 q hq)
  refine x_dup (pc := 38) dX0_init_38 rfl ?_
  refine x_callIN (pc := 39) (As := []) (rest := [.ref (a + 6), .int (1 : Int32), .ref (a + 2)]) (mc := 2) (ms := 12) dX0_init_39 xnl_X0_24 xi_X3_init rfl rfl rfl rfl rfl (C_X3_init G h9 (a + 6) k_a6_h9 z_h9) (fun v h10 hq => ?_)
  obtain ⟨ev, y_h10, w0_h10, w1_h10, w2_h10, g_h10⟩ := hq
  subst ev
  refine Wp.eqs (L' := [(1, .int (1 : Int32)), (0, .ref a)]) (st' := [.ref (a + 6), .int (1 : Int32), .ref (a + 2)]) rfl rfl ?_
  have k_a_h10 : hAt h10 a = some (.inr (0, [.ref (a + 1), .ref (a + 2), .int 0, .int 0])) := (g_h10 a (cTo0 rfl)).trans k_a_h9
  have k_a1_h10 : hAt h10 (a + 1) = some (.inr (1, [.int 0, .int 0, .int 0, .int 0, .int 0])) := (g_h10 (a + 1) (cTo rfl)).trans k_a1_h9
  have k_a2_h10 : hAt h10 (a + 2) = some (arR 3 4 (va_up (fun _ => none) 0 (some (a + 3)))) := (g_h10 (a + 2) (cTo rfl)).trans k_a2_h9
  have k_a3_h10 : hAt h10 (a + 3) = some (waC (a + 4) (a + 5) (fun _ => 0)) := (g_h10 (a + 3) (cTo rfl)).trans k_a3_h9
  have k_a4_h10 : hAt h10 (a + 4) = some (arI 6 (fun _ => 0)) := (g_h10 (a + 4) (cTo rfl)).trans k_a4_h9
  have k_a5_h10 : hAt h10 (a + 5) = some (arI 6 (fun _ => 0)) := (g_h10 (a + 5) (cTo rfl)).trans k_a5_h9
  have k_a6_h10 : hAt h10 (a + 6) = some (waC (a + 7) (a + 8) (fun _ => 0)) := w0_h10
  have k_a7_h10 : hAt h10 (a + 7) = some (arI 6 (fun _ => 0)) := w1_h10
  have k_a8_h10 : hAt h10 (a + 8) = some (arI 6 (fun _ => 0)) := w2_h10
  have z_h10 : h10.1 = (a + 9) := y_h10
  have f_h10 : ∀ q, q < a → hAt h10 q = hAt h q := fun q hq => (g_h10 q (cToq hq)).trans (f_h9 q hq)
  refine x_aast (pc := 42) (t := 3) (e' := arR 3 4 (va_up (va_up (fun _ => none) 0 (some (a + 3))) 1 (some (a + 6)))) (ci := 3) rfl rfl dX0_init_42 k_a2_h10 k_a6_h10 (vp_in_nI (n := 1) (by decide) (by decide)) rfl ?_
  obtain ⟨h11, eh11⟩ : ∃ z, z = hSet h10 (a + 2) (arR 3 4 (va_up (va_up (fun _ => none) 0 (some (a + 3))) 1 (some (a + 6)))) := ⟨_, rfl⟩
  rw [← eh11]
  have k_a_h11 : hAt h11 a = some (.inr (0, [.ref (a + 1), .ref (a + 2), .int 0, .int 0])) := by rw [eh11]; exact hAt_n (cNeL rfl) k_a_h10
  have k_a1_h11 : hAt h11 (a + 1) = some (.inr (1, [.int 0, .int 0, .int 0, .int 0, .int 0])) := by rw [eh11]; exact hAt_n (cNe rfl) k_a1_h10
  have k_a3_h11 : hAt h11 (a + 3) = some (waC (a + 4) (a + 5) (fun _ => 0)) := by rw [eh11]; exact hAt_n (cNe rfl) k_a3_h10
  have k_a4_h11 : hAt h11 (a + 4) = some (arI 6 (fun _ => 0)) := by rw [eh11]; exact hAt_n (cNe rfl) k_a4_h10
  have k_a5_h11 : hAt h11 (a + 5) = some (arI 6 (fun _ => 0)) := by rw [eh11]; exact hAt_n (cNe rfl) k_a5_h10
  have k_a6_h11 : hAt h11 (a + 6) = some (waC (a + 7) (a + 8) (fun _ => 0)) := by rw [eh11]; exact hAt_n (cNe rfl) k_a6_h10
  have k_a7_h11 : hAt h11 (a + 7) = some (arI 6 (fun _ => 0)) := by rw [eh11]; exact hAt_n (cNe rfl) k_a7_h10
  have k_a8_h11 : hAt h11 (a + 8) = some (arI 6 (fun _ => 0)) := by rw [eh11]; exact hAt_n (cNe rfl) k_a8_h10
  have k_a2_h11 : hAt h11 (a + 2) = some (arR 3 4 (va_up (va_up (fun _ => none) 0 (some (a + 3))) 1 (some (a + 6)))) := by rw [eh11]; exact hAt_same
  have z_h11 : h11.1 = (a + 9) := by rw [eh11]; exact z_h10
  have f_h11 : ∀ q, q < a → hAt h11 q = hAt h q := fun q hq => by rw [eh11]; exact (hAt_ne (cLt hq)).trans (f_h10 q hq)
  refine x_iinc (pc := 43) (v := (2 : Int32)) (L' := [(1, .int (2 : Int32)), (0, .ref a)]) dX0_init_43 rfl (by decide) rfl rfl ?_
  refine x_goto (pc := 46) (tgt := 25) dX0_init_46 (by decide) ?_
  refine x_iload_n (pc := 25) dX0_init_25 rfl ?_
  refine x_iconst (pc := 26) (v := (4 : Int32)) dX0_init_26 (by decide) ?_
  refine x_icmp_ge (pc := 27) (tgt := 49) dX0_init_27 (by decide) (fun z => absurd z (by decide)) (fun _ => ?_)
  refine x_aload_n (pc := 30) dX0_init_30 rfl ?_
  refine x_getf (pc := 31) (v := .ref (a + 2)) dX0_init_31 xf_X0_20 k_a_h11 rfl ?_
  refine x_iload_n (pc := 34) dX0_init_34 rfl ?_
  refine x_new (pc := 35) dX0_init_35 xn_X0_18 rfl rfl ?_
  rw [z_h11]
  obtain ⟨h12, eh12⟩ : ∃ z, z = hNew h11 (.inr (3, [.int 0, .int 0, .null, .null, .int 0, .int 0, .int 0, .int 0, .int 0, .int 0, .int 0, .int 0, .int 0, .int 0, .int 0])) := ⟨_, rfl⟩
  rw [← eh12]
  have k_a_h12 : hAt h12 a = some (.inr (0, [.ref (a + 1), .ref (a + 2), .int 0, .int 0])) := by rw [eh12]; exact hNew_o (cZ z_h11 (cNeL rfl)) k_a_h11
  have k_a1_h12 : hAt h12 (a + 1) = some (.inr (1, [.int 0, .int 0, .int 0, .int 0, .int 0])) := by rw [eh12]; exact hNew_o (cZ z_h11 (cNe rfl)) k_a1_h11
  have k_a2_h12 : hAt h12 (a + 2) = some (arR 3 4 (va_up (va_up (fun _ => none) 0 (some (a + 3))) 1 (some (a + 6)))) := by rw [eh12]; exact hNew_o (cZ z_h11 (cNe rfl)) k_a2_h11
  have k_a3_h12 : hAt h12 (a + 3) = some (waC (a + 4) (a + 5) (fun _ => 0)) := by rw [eh12]; exact hNew_o (cZ z_h11 (cNe rfl)) k_a3_h11
  have k_a4_h12 : hAt h12 (a + 4) = some (arI 6 (fun _ => 0)) := by rw [eh12]; exact hNew_o (cZ z_h11 (cNe rfl)) k_a4_h11
  have k_a5_h12 : hAt h12 (a + 5) = some (arI 6 (fun _ => 0)) := by rw [eh12]; exact hNew_o (cZ z_h11 (cNe rfl)) k_a5_h11
  have k_a6_h12 : hAt h12 (a + 6) = some (waC (a + 7) (a + 8) (fun _ => 0)) := by rw [eh12]; exact hNew_o (cZ z_h11 (cNe rfl)) k_a6_h11
  have k_a7_h12 : hAt h12 (a + 7) = some (arI 6 (fun _ => 0)) := by rw [eh12]; exact hNew_o (cZ z_h11 (cNe rfl)) k_a7_h11
  have k_a8_h12 : hAt h12 (a + 8) = some (arI 6 (fun _ => 0)) := by rw [eh12]; exact hNew_o (cZ z_h11 (cNe rfl)) k_a8_h11
  have k_a9_h12 : hAt h12 (a + 9) = some (.inr (3, [.int 0, .int 0, .null, .null, .int 0, .int 0, .int 0, .int 0, .int 0, .int 0, .int 0, .int 0, .int 0, .int 0, .int 0])) := by rw [eh12]; exact hNew_p z_h11
  have z_h12 : h12.1 = (a + 10) := by rw [eh12]; exact cZn z_h11
  have f_h12 : ∀ q, q < a → hAt h12 q = hAt h q := fun q hq => by rw [eh12]; exact (hNew_e (cZ z_h11 (cLt hq))).trans (f_h11 q hq)
  refine x_dup (pc := 38) dX0_init_38 rfl ?_
  refine x_callIN (pc := 39) (As := []) (rest := [.ref (a + 9), .int (2 : Int32), .ref (a + 2)]) (mc := 2) (ms := 12) dX0_init_39 xnl_X0_24 xi_X3_init rfl rfl rfl rfl rfl (C_X3_init G h12 (a + 9) k_a9_h12 z_h12) (fun v h13 hq => ?_)
  obtain ⟨ev, y_h13, w0_h13, w1_h13, w2_h13, g_h13⟩ := hq
  subst ev
  refine Wp.eqs (L' := [(1, .int (2 : Int32)), (0, .ref a)]) (st' := [.ref (a + 9), .int (2 : Int32), .ref (a + 2)]) rfl rfl ?_
  have k_a_h13 : hAt h13 a = some (.inr (0, [.ref (a + 1), .ref (a + 2), .int 0, .int 0])) := (g_h13 a (cTo0 rfl)).trans k_a_h12
  have k_a1_h13 : hAt h13 (a + 1) = some (.inr (1, [.int 0, .int 0, .int 0, .int 0, .int 0])) := (g_h13 (a + 1) (cTo rfl)).trans k_a1_h12
  have k_a2_h13 : hAt h13 (a + 2) = some (arR 3 4 (va_up (va_up (fun _ => none) 0 (some (a + 3))) 1 (some (a + 6)))) := (g_h13 (a + 2) (cTo rfl)).trans k_a2_h12
  have k_a3_h13 : hAt h13 (a + 3) = some (waC (a + 4) (a + 5) (fun _ => 0)) := (g_h13 (a + 3) (cTo rfl)).trans k_a3_h12
  have k_a4_h13 : hAt h13 (a + 4) = some (arI 6 (fun _ => 0)) := (g_h13 (a + 4) (cTo rfl)).trans k_a4_h12
  have k_a5_h13 : hAt h13 (a + 5) = some (arI 6 (fun _ => 0)) := (g_h13 (a + 5) (cTo rfl)).trans k_a5_h12
  have k_a6_h13 : hAt h13 (a + 6) = some (waC (a + 7) (a + 8) (fun _ => 0)) := (g_h13 (a + 6) (cTo rfl)).trans k_a6_h12
  have k_a7_h13 : hAt h13 (a + 7) = some (arI 6 (fun _ => 0)) := (g_h13 (a + 7) (cTo rfl)).trans k_a7_h12
  have k_a8_h13 : hAt h13 (a + 8) = some (arI 6 (fun _ => 0)) := (g_h13 (a + 8) (cTo rfl)).trans k_a8_h12
  have k_a9_h13 : hAt h13 (a + 9) = some (waC (a + 10) (a + 11) (fun _ => 0)) := w0_h13
  have k_a10_h13 : hAt h13 (a + 10) = some (arI 6 (fun _ => 0)) := w1_h13
  have k_a11_h13 : hAt h13 (a + 11) = some (arI 6 (fun _ => 0)) := w2_h13
  have z_h13 : h13.1 = (a + 12) := y_h13
  have f_h13 : ∀ q, q < a → hAt h13 q = hAt h q := fun q hq => (g_h13 q (cToq hq)).trans (f_h12 q hq)
  refine x_aast (pc := 42) (t := 3) (e' := arR 3 4 (va_up (va_up (va_up (fun _ => none) 0 (some (a + 3))) 1 (some (a + 6))) 2 (some (a + 9)))) (ci := 3) rfl rfl dX0_init_42 k_a2_h13 k_a9_h13 (vp_in_nI (n := 2) (by decide) (by decide)) rfl ?_
  obtain ⟨h14, eh14⟩ : ∃ z, z = hSet h13 (a + 2) (arR 3 4 (va_up (va_up (va_up (fun _ => none) 0 (some (a + 3))) 1 (some (a + 6))) 2 (some (a + 9)))) := ⟨_, rfl⟩
  rw [← eh14]
  have k_a_h14 : hAt h14 a = some (.inr (0, [.ref (a + 1), .ref (a + 2), .int 0, .int 0])) := by rw [eh14]; exact hAt_n (cNeL rfl) k_a_h13
  have k_a1_h14 : hAt h14 (a + 1) = some (.inr (1, [.int 0, .int 0, .int 0, .int 0, .int 0])) := by rw [eh14]; exact hAt_n (cNe rfl) k_a1_h13
  have k_a3_h14 : hAt h14 (a + 3) = some (waC (a + 4) (a + 5) (fun _ => 0)) := by rw [eh14]; exact hAt_n (cNe rfl) k_a3_h13
  have k_a4_h14 : hAt h14 (a + 4) = some (arI 6 (fun _ => 0)) := by rw [eh14]; exact hAt_n (cNe rfl) k_a4_h13
  have k_a5_h14 : hAt h14 (a + 5) = some (arI 6 (fun _ => 0)) := by rw [eh14]; exact hAt_n (cNe rfl) k_a5_h13
  have k_a6_h14 : hAt h14 (a + 6) = some (waC (a + 7) (a + 8) (fun _ => 0)) := by rw [eh14]; exact hAt_n (cNe rfl) k_a6_h13
  have k_a7_h14 : hAt h14 (a + 7) = some (arI 6 (fun _ => 0)) := by rw [eh14]; exact hAt_n (cNe rfl) k_a7_h13
  have k_a8_h14 : hAt h14 (a + 8) = some (arI 6 (fun _ => 0)) := by rw [eh14]; exact hAt_n (cNe rfl) k_a8_h13
  have k_a9_h14 : hAt h14 (a + 9) = some (waC (a + 10) (a + 11) (fun _ => 0)) := by rw [eh14]; exact hAt_n (cNe rfl) k_a9_h13
  have k_a10_h14 : hAt h14 (a + 10) = some (arI 6 (fun _ => 0)) := by rw [eh14]; exact hAt_n (cNe rfl) k_a10_h13
  have k_a11_h14 : hAt h14 (a + 11) = some (arI 6 (fun _ => 0)) := by rw [eh14]; exact hAt_n (cNe rfl) k_a11_h13
  have k_a2_h14 : hAt h14 (a + 2) = some (arR 3 4 (va_up (va_up (va_up (fun _ => none) 0 (some (a + 3))) 1 (some (a + 6))) 2 (some (a + 9)))) := by rw [eh14]; exact hAt_same
  have z_h14 : h14.1 = (a + 12) := by rw [eh14]; exact z_h13
  have f_h14 : ∀ q, q < a → hAt h14 q = hAt h q := fun q hq => by rw [eh14]; exact (hAt_ne (cLt hq)).trans (f_h13 q hq)
  refine x_iinc (pc := 43) (v := (3 : Int32)) (L' := [(1, .int (3 : Int32)), (0, .ref a)]) dX0_init_43 rfl (by decide) rfl rfl ?_
  refine x_goto (pc := 46) (tgt := 25) dX0_init_46 (by decide) ?_
  refine x_iload_n (pc := 25) dX0_init_25 rfl ?_
  refine x_iconst (pc := 26) (v := (4 : Int32)) dX0_init_26 (by decide) ?_
  refine x_icmp_ge (pc := 27) (tgt := 49) dX0_init_27 (by decide) (fun z => absurd z (by decide)) (fun _ => ?_)
  refine x_aload_n (pc := 30) dX0_init_30 rfl ?_
  refine x_getf (pc := 31) (v := .ref (a + 2)) dX0_init_31 xf_X0_20 k_a_h14 rfl ?_
  refine x_iload_n (pc := 34) dX0_init_34 rfl ?_
  refine x_new (pc := 35) dX0_init_35 xn_X0_18 rfl rfl ?_
  rw [z_h14]
  obtain ⟨h15, eh15⟩ : ∃ z, z = hNew h14 (.inr (3, [.int 0, .int 0, .null, .null, .int 0, .int 0, .int 0, .int 0, .int 0, .int 0, .int 0, .int 0, .int 0, .int 0, .int 0])) := ⟨_, rfl⟩
  rw [← eh15]
  have k_a_h15 : hAt h15 a = some (.inr (0, [.ref (a + 1), .ref (a + 2), .int 0, .int 0])) := by rw [eh15]; exact hNew_o (cZ z_h14 (cNeL rfl)) k_a_h14
  have k_a1_h15 : hAt h15 (a + 1) = some (.inr (1, [.int 0, .int 0, .int 0, .int 0, .int 0])) := by rw [eh15]; exact hNew_o (cZ z_h14 (cNe rfl)) k_a1_h14
  have k_a2_h15 : hAt h15 (a + 2) = some (arR 3 4 (va_up (va_up (va_up (fun _ => none) 0 (some (a + 3))) 1 (some (a + 6))) 2 (some (a + 9)))) := by rw [eh15]; exact hNew_o (cZ z_h14 (cNe rfl)) k_a2_h14
  have k_a3_h15 : hAt h15 (a + 3) = some (waC (a + 4) (a + 5) (fun _ => 0)) := by rw [eh15]; exact hNew_o (cZ z_h14 (cNe rfl)) k_a3_h14
  have k_a4_h15 : hAt h15 (a + 4) = some (arI 6 (fun _ => 0)) := by rw [eh15]; exact hNew_o (cZ z_h14 (cNe rfl)) k_a4_h14
  have k_a5_h15 : hAt h15 (a + 5) = some (arI 6 (fun _ => 0)) := by rw [eh15]; exact hNew_o (cZ z_h14 (cNe rfl)) k_a5_h14
  have k_a6_h15 : hAt h15 (a + 6) = some (waC (a + 7) (a + 8) (fun _ => 0)) := by rw [eh15]; exact hNew_o (cZ z_h14 (cNe rfl)) k_a6_h14
  have k_a7_h15 : hAt h15 (a + 7) = some (arI 6 (fun _ => 0)) := by rw [eh15]; exact hNew_o (cZ z_h14 (cNe rfl)) k_a7_h14
  have k_a8_h15 : hAt h15 (a + 8) = some (arI 6 (fun _ => 0)) := by rw [eh15]; exact hNew_o (cZ z_h14 (cNe rfl)) k_a8_h14
  have k_a9_h15 : hAt h15 (a + 9) = some (waC (a + 10) (a + 11) (fun _ => 0)) := by rw [eh15]; exact hNew_o (cZ z_h14 (cNe rfl)) k_a9_h14
  have k_a10_h15 : hAt h15 (a + 10) = some (arI 6 (fun _ => 0)) := by rw [eh15]; exact hNew_o (cZ z_h14 (cNe rfl)) k_a10_h14
  have k_a11_h15 : hAt h15 (a + 11) = some (arI 6 (fun _ => 0)) := by rw [eh15]; exact hNew_o (cZ z_h14 (cNe rfl)) k_a11_h14
  have k_a12_h15 : hAt h15 (a + 12) = some (.inr (3, [.int 0, .int 0, .null, .null, .int 0, .int 0, .int 0, .int 0, .int 0, .int 0, .int 0, .int 0, .int 0, .int 0, .int 0])) := by rw [eh15]; exact hNew_p z_h14
  have z_h15 : h15.1 = (a + 13) := by rw [eh15]; exact cZn z_h14
  have f_h15 : ∀ q, q < a → hAt h15 q = hAt h q := fun q hq => by rw [eh15]; exact (hNew_e (cZ z_h14 (cLt hq))).trans (f_h14 q hq)
  refine x_dup (pc := 38) dX0_init_38 rfl ?_
  refine x_callIN (pc := 39) (As := []) (rest := [.ref (a + 12), .int (3 : Int32), .ref (a + 2)]) (mc := 2) (ms := 12) dX0_init_39 xnl_X0_24 xi_X3_init rfl rfl rfl rfl rfl (C_X3_init G h15 (a + 12) k_a12_h15 z_h15) (fun v h16 hq => ?_)
  obtain ⟨ev, y_h16, w0_h16, w1_h16, w2_h16, g_h16⟩ := hq
  subst ev
  refine Wp.eqs (L' := [(1, .int (3 : Int32)), (0, .ref a)]) (st' := [.ref (a + 12), .int (3 : Int32), .ref (a + 2)]) rfl rfl ?_
  have k_a_h16 : hAt h16 a = some (.inr (0, [.ref (a + 1), .ref (a + 2), .int 0, .int 0])) := (g_h16 a (cTo0 rfl)).trans k_a_h15
  have k_a1_h16 : hAt h16 (a + 1) = some (.inr (1, [.int 0, .int 0, .int 0, .int 0, .int 0])) := (g_h16 (a + 1) (cTo rfl)).trans k_a1_h15
  have k_a2_h16 : hAt h16 (a + 2) = some (arR 3 4 (va_up (va_up (va_up (fun _ => none) 0 (some (a + 3))) 1 (some (a + 6))) 2 (some (a + 9)))) := (g_h16 (a + 2) (cTo rfl)).trans k_a2_h15
  have k_a3_h16 : hAt h16 (a + 3) = some (waC (a + 4) (a + 5) (fun _ => 0)) := (g_h16 (a + 3) (cTo rfl)).trans k_a3_h15
  have k_a4_h16 : hAt h16 (a + 4) = some (arI 6 (fun _ => 0)) := (g_h16 (a + 4) (cTo rfl)).trans k_a4_h15
  have k_a5_h16 : hAt h16 (a + 5) = some (arI 6 (fun _ => 0)) := (g_h16 (a + 5) (cTo rfl)).trans k_a5_h15
  have k_a6_h16 : hAt h16 (a + 6) = some (waC (a + 7) (a + 8) (fun _ => 0)) := (g_h16 (a + 6) (cTo rfl)).trans k_a6_h15
  have k_a7_h16 : hAt h16 (a + 7) = some (arI 6 (fun _ => 0)) := (g_h16 (a + 7) (cTo rfl)).trans k_a7_h15
  have k_a8_h16 : hAt h16 (a + 8) = some (arI 6 (fun _ => 0)) := (g_h16 (a + 8) (cTo rfl)).trans k_a8_h15
  have k_a9_h16 : hAt h16 (a + 9) = some (waC (a + 10) (a + 11) (fun _ => 0)) := (g_h16 (a + 9) (cTo rfl)).trans k_a9_h15
  have k_a10_h16 : hAt h16 (a + 10) = some (arI 6 (fun _ => 0)) := (g_h16 (a + 10) (cTo rfl)).trans k_a10_h15
  have k_a11_h16 : hAt h16 (a + 11) = some (arI 6 (fun _ => 0)) := (g_h16 (a + 11) (cTo rfl)).trans k_a11_h15
  have k_a12_h16 : hAt h16 (a + 12) = some (waC (a + 13) (a + 14) (fun _ => 0)) := w0_h16
  have k_a13_h16 : hAt h16 (a + 13) = some (arI 6 (fun _ => 0)) := w1_h16
  have k_a14_h16 : hAt h16 (a + 14) = some (arI 6 (fun _ => 0)) := w2_h16
  have z_h16 : h16.1 = (a + 15) := y_h16
  have f_h16 : ∀ q, q < a → hAt h16 q = hAt h q := fun q hq => (g_h16 q (cToq hq)).trans (f_h15 q hq)
  refine x_aast (pc := 42) (t := 3) (e' := arR 3 4 (va_up (va_up (va_up (va_up (fun _ => none) 0 (some (a + 3))) 1 (some (a + 6))) 2 (some (a + 9))) 3 (some (a + 12)))) (ci := 3) rfl rfl dX0_init_42 k_a2_h16 k_a12_h16 (vp_in_nI (n := 3) (by decide) (by decide)) rfl ?_
  obtain ⟨h17, eh17⟩ : ∃ z, z = hSet h16 (a + 2) (arR 3 4 (va_up (va_up (va_up (va_up (fun _ => none) 0 (some (a + 3))) 1 (some (a + 6))) 2 (some (a + 9))) 3 (some (a + 12)))) := ⟨_, rfl⟩
  rw [← eh17]
  have k_a_h17 : hAt h17 a = some (.inr (0, [.ref (a + 1), .ref (a + 2), .int 0, .int 0])) := by rw [eh17]; exact hAt_n (cNeL rfl) k_a_h16
  have k_a1_h17 : hAt h17 (a + 1) = some (.inr (1, [.int 0, .int 0, .int 0, .int 0, .int 0])) := by rw [eh17]; exact hAt_n (cNe rfl) k_a1_h16
  have k_a3_h17 : hAt h17 (a + 3) = some (waC (a + 4) (a + 5) (fun _ => 0)) := by rw [eh17]; exact hAt_n (cNe rfl) k_a3_h16
  have k_a4_h17 : hAt h17 (a + 4) = some (arI 6 (fun _ => 0)) := by rw [eh17]; exact hAt_n (cNe rfl) k_a4_h16
  have k_a5_h17 : hAt h17 (a + 5) = some (arI 6 (fun _ => 0)) := by rw [eh17]; exact hAt_n (cNe rfl) k_a5_h16
  have k_a6_h17 : hAt h17 (a + 6) = some (waC (a + 7) (a + 8) (fun _ => 0)) := by rw [eh17]; exact hAt_n (cNe rfl) k_a6_h16
  have k_a7_h17 : hAt h17 (a + 7) = some (arI 6 (fun _ => 0)) := by rw [eh17]; exact hAt_n (cNe rfl) k_a7_h16
  have k_a8_h17 : hAt h17 (a + 8) = some (arI 6 (fun _ => 0)) := by rw [eh17]; exact hAt_n (cNe rfl) k_a8_h16
  have k_a9_h17 : hAt h17 (a + 9) = some (waC (a + 10) (a + 11) (fun _ => 0)) := by rw [eh17]; exact hAt_n (cNe rfl) k_a9_h16
  have k_a10_h17 : hAt h17 (a + 10) = some (arI 6 (fun _ => 0)) := by rw [eh17]; exact hAt_n (cNe rfl) k_a10_h16
  have k_a11_h17 : hAt h17 (a + 11) = some (arI 6 (fun _ => 0)) := by rw [eh17]; exact hAt_n (cNe rfl) k_a11_h16
  have k_a12_h17 : hAt h17 (a + 12) = some (waC (a + 13) (a + 14) (fun _ => 0)) := by rw [eh17]; exact hAt_n (cNe rfl) k_a12_h16
  have k_a13_h17 : hAt h17 (a + 13) = some (arI 6 (fun _ => 0)) := by rw [eh17]; exact hAt_n (cNe rfl) k_a13_h16
  have k_a14_h17 : hAt h17 (a + 14) = some (arI 6 (fun _ => 0)) := by rw [eh17]; exact hAt_n (cNe rfl) k_a14_h16
  have k_a2_h17 : hAt h17 (a + 2) = some (arR 3 4 (va_up (va_up (va_up (va_up (fun _ => none) 0 (some (a + 3))) 1 (some (a + 6))) 2 (some (a + 9))) 3 (some (a + 12)))) := by rw [eh17]; exact hAt_same
  have z_h17 : h17.1 = (a + 15) := by rw [eh17]; exact z_h16
  have f_h17 : ∀ q, q < a → hAt h17 q = hAt h q := fun q hq => by rw [eh17]; exact (hAt_ne (cLt hq)).trans (f_h16 q hq)
  refine x_iinc (pc := 43) (v := (4 : Int32)) (L' := [(1, .int (4 : Int32)), (0, .ref a)]) dX0_init_43 rfl (by decide) rfl rfl ?_
  refine x_goto (pc := 46) (tgt := 25) dX0_init_46 (by decide) ?_
  refine x_iload_n (pc := 25) dX0_init_25 rfl ?_
  refine x_iconst (pc := 26) (v := (4 : Int32)) dX0_init_26 (by decide) ?_
  refine x_icmp_ge (pc := 27) (tgt := 49) dX0_init_27 (by decide) (fun _ => ?_) (fun z => absurd (by decide) z)
  refine x_arrEq (a := a + 2) (t := 3) (n := 4) (g := fun j => some (a + 3 + 3 * j)) k_a2_h17 (fun j hj => ?_) ?_
  · match j, hj with
    | 0, _ => rfl
    | 1, _ => rfl
    | 2, _ => rfl
    | 3, _ => rfl
    | j + 4, hj => exact absurd hj (by omega)
  obtain ⟨h18, eh18⟩ : ∃ z, z = hSet h17 (a + 2) (arR 3 4 (fun j => some (a + 3 + 3 * j))) := ⟨_, rfl⟩
  rw [← eh18]
  have k_a_h18 : hAt h18 a = some (.inr (0, [.ref (a + 1), .ref (a + 2), .int 0, .int 0])) := by rw [eh18]; exact hAt_n (cNeL rfl) k_a_h17
  have k_a1_h18 : hAt h18 (a + 1) = some (.inr (1, [.int 0, .int 0, .int 0, .int 0, .int 0])) := by rw [eh18]; exact hAt_n (cNe rfl) k_a1_h17
  have k_a3_h18 : hAt h18 (a + 3) = some (waC (a + 4) (a + 5) (fun _ => 0)) := by rw [eh18]; exact hAt_n (cNe rfl) k_a3_h17
  have k_a4_h18 : hAt h18 (a + 4) = some (arI 6 (fun _ => 0)) := by rw [eh18]; exact hAt_n (cNe rfl) k_a4_h17
  have k_a5_h18 : hAt h18 (a + 5) = some (arI 6 (fun _ => 0)) := by rw [eh18]; exact hAt_n (cNe rfl) k_a5_h17
  have k_a6_h18 : hAt h18 (a + 6) = some (waC (a + 7) (a + 8) (fun _ => 0)) := by rw [eh18]; exact hAt_n (cNe rfl) k_a6_h17
  have k_a7_h18 : hAt h18 (a + 7) = some (arI 6 (fun _ => 0)) := by rw [eh18]; exact hAt_n (cNe rfl) k_a7_h17
  have k_a8_h18 : hAt h18 (a + 8) = some (arI 6 (fun _ => 0)) := by rw [eh18]; exact hAt_n (cNe rfl) k_a8_h17
  have k_a9_h18 : hAt h18 (a + 9) = some (waC (a + 10) (a + 11) (fun _ => 0)) := by rw [eh18]; exact hAt_n (cNe rfl) k_a9_h17
  have k_a10_h18 : hAt h18 (a + 10) = some (arI 6 (fun _ => 0)) := by rw [eh18]; exact hAt_n (cNe rfl) k_a10_h17
  have k_a11_h18 : hAt h18 (a + 11) = some (arI 6 (fun _ => 0)) := by rw [eh18]; exact hAt_n (cNe rfl) k_a11_h17
  have k_a12_h18 : hAt h18 (a + 12) = some (waC (a + 13) (a + 14) (fun _ => 0)) := by rw [eh18]; exact hAt_n (cNe rfl) k_a12_h17
  have k_a13_h18 : hAt h18 (a + 13) = some (arI 6 (fun _ => 0)) := by rw [eh18]; exact hAt_n (cNe rfl) k_a13_h17
  have k_a14_h18 : hAt h18 (a + 14) = some (arI 6 (fun _ => 0)) := by rw [eh18]; exact hAt_n (cNe rfl) k_a14_h17
  have k_a2_h18 : hAt h18 (a + 2) = some (arR 3 4 (fun j => some (a + 3 + 3 * j))) := by rw [eh18]; exact hAt_same
  have z_h18 : h18.1 = (a + 15) := by rw [eh18]; exact z_h17
  have f_h18 : ∀ q, q < a → hAt h18 q = hAt h q := fun q hq => by rw [eh18]; exact (hAt_ne (cLt hq)).trans (f_h17 q hq)
  have kN : nk h18 a (fun _ => 0) (fun _ => 0) (fun _ _ => 0) (fun _ _ => 0) (fun _ _ => 0) := nk_mk k_a_h18 k_a1_h18 k_a2_h18 (fun j hj => match j, hj with | 0, _ => k_a3_h18 | 1, _ => k_a6_h18 | 2, _ => k_a9_h18 | 3, _ => k_a12_h18 | j + 4, hj => absurd hj (by omega)) (fun j hj => match j, hj with | 0, _ => k_a4_h18 | 1, _ => k_a7_h18 | 2, _ => k_a10_h18 | 3, _ => k_a13_h18 | j + 4, hj => absurd hj (by omega)) (fun j hj => match j, hj with | 0, _ => k_a5_h18 | 1, _ => k_a8_h18 | 2, _ => k_a11_h18 | 3, _ => k_a14_h18 | j + 4, hj => absurd hj (by omega))
  exact x_vret (pc := 49) dX0_init_49 rfl rfl rfl ⟨rfl, z_h18, kN, f_h18⟩
