set_option maxRecDepth 100000 in
set_option maxHeartbeats 4000000 in
/-- THE LAW, from its entry, where every case keeps the invariant and the start has it -/
theorem start_open {p : Program} {e : Env} {s : State} {m : MethodId} {below : List Frame} {meth : Method} {c : Code} (l : Launch) {b L : Nat} {xs : Nat → Int32} (hL : L ≤ 2048) (C0 : p.tables.exec = Jvm.exec ∧ c.code = code ∧ meth.sig.returnType = ret ∧ c.maxLocals = 4 ∧ s.vm.findClass R_law = some m.cls ∧ (∀ w ∈ lw_tbl, w.before #[Value.ref b] s = true) ∧ va_X b L xs s s.heap ∧ b < s.heap.size ∧ meth.locks = false ∧ (Jvm.Cond.and given_1 narrow_1).before #[Value.ref b] s = true)
    (Inv : (Nat → Int32) → (Nat → Int32) → (Nat → Int32) → (Nat → Int32) → (Nat → Int32) → (Nat → Nat → Int32) → (Nat → Nat → Int32) → (Nat → Nat → Int32) → (Nat → Int32) → (Nat → Int32) → (Nat → Nat → Int32) → (Nat → Nat → Int32) → (Nat → Nat → Int32) → (Nat → Nat → Int32) → (Nat → Nat → Int32) → (Nat → Nat → Nat → Int32) → (Nat → Nat → Nat → Int32) → (Nat → Nat → Nat → Int32) → (Nat → Int32) → (Nat → Int32) → (Nat → Int32) → (Nat → Int32) → (Nat → Int32) → (Nat → Int32) → (Nat → Int32) → (Nat → Int32) → (Nat → Int32) → (Nat → Int32) → Prop)
    (w_write : Ow_write Inv)
    (w_wipe : Ow_wipe Inv)
    (w_fault : Ow_fault Inv)
    (w_lay : Ow_lay Inv)
    (w_tick : Ow_tick Inv)
    (w_send : Ow_send Inv)
    (w_limit : Ow_limit Inv)
    (w_kind : Ow_kind Inv)
    (w_loss : Ow_loss Inv)
    (w_believe : Ow_believe Inv)
    (w_undo : Ow_undo Inv)
    (w_way : Ow_way Inv)
    (w_hop : Ow_hop Inv)
    (w_probe : Ow_probe Inv)
    (w_padding : Ow_padding Inv)
    (w_meets : Ow_meets Inv)
    (w_draw : Ow_draw Inv)
    (w_ahead : Ow_ahead Inv)
    (w_soon : Ow_soon Inv)
    (w_best : Ow_best Inv)
    (w_count : Ow_count Inv)
    (hp4 : p_X4_init (fun _ => 0) (fun _ => 0) (fun _ => 0) (fun _ => 0) (fun _ => 0) (fun _ _ => 0) (fun _ _ => 0) (fun _ _ => 0) (fun _ => 0) (fun _ => 0) (fun _ _ => 0) (fun _ _ => 0) (fun _ _ => 0)) (hp5 : p_X5_init (fun _ => 0) (fun _ => 0) (fun _ => 0)) (hI0 : Inv (fun _ => 0) (f_X4_init (fun _ => 0) (fun _ => 0) (fun _ => 0) (fun _ => 0) (fun _ => 0) (fun _ _ => 0) (fun _ _ => 0) (fun _ _ => 0) (fun _ => 0) (fun _ => 0) (fun _ _ => 0) (fun _ _ => 0) (fun _ _ => 0)).1 (f_X4_init (fun _ => 0) (fun _ => 0) (fun _ => 0) (fun _ => 0) (fun _ => 0) (fun _ _ => 0) (fun _ _ => 0) (fun _ _ => 0) (fun _ => 0) (fun _ => 0) (fun _ _ => 0) (fun _ _ => 0) (fun _ _ => 0)).2.1 (f_X4_init (fun _ => 0) (fun _ => 0) (fun _ => 0) (fun _ => 0) (fun _ => 0) (fun _ _ => 0) (fun _ _ => 0) (fun _ _ => 0) (fun _ => 0) (fun _ => 0) (fun _ _ => 0) (fun _ _ => 0) (fun _ _ => 0)).2.2.1 (f_X4_init (fun _ => 0) (fun _ => 0) (fun _ => 0) (fun _ => 0) (fun _ => 0) (fun _ _ => 0) (fun _ _ => 0) (fun _ _ => 0) (fun _ => 0) (fun _ => 0) (fun _ _ => 0) (fun _ _ => 0) (fun _ _ => 0)).2.2.2.1 (f_X4_init (fun _ => 0) (fun _ => 0) (fun _ => 0) (fun _ => 0) (fun _ => 0) (fun _ _ => 0) (fun _ _ => 0) (fun _ _ => 0) (fun _ => 0) (fun _ => 0) (fun _ _ => 0) (fun _ _ => 0) (fun _ _ => 0)).2.2.2.2.1 (f_X4_init (fun _ => 0) (fun _ => 0) (fun _ => 0) (fun _ => 0) (fun _ => 0) (fun _ _ => 0) (fun _ _ => 0) (fun _ _ => 0) (fun _ => 0) (fun _ => 0) (fun _ _ => 0) (fun _ _ => 0) (fun _ _ => 0)).2.2.2.2.2.1 (f_X4_init (fun _ => 0) (fun _ => 0) (fun _ => 0) (fun _ => 0) (fun _ => 0) (fun _ _ => 0) (fun _ _ => 0) (fun _ _ => 0) (fun _ => 0) (fun _ => 0) (fun _ _ => 0) (fun _ _ => 0) (fun _ _ => 0)).2.2.2.2.2.2.1 (f_X4_init (fun _ => 0) (fun _ => 0) (fun _ => 0) (fun _ => 0) (fun _ => 0) (fun _ _ => 0) (fun _ _ => 0) (fun _ _ => 0) (fun _ => 0) (fun _ => 0) (fun _ _ => 0) (fun _ _ => 0) (fun _ _ => 0)).2.2.2.2.2.2.2.1 (f_X4_init (fun _ => 0) (fun _ => 0) (fun _ => 0) (fun _ => 0) (fun _ => 0) (fun _ _ => 0) (fun _ _ => 0) (fun _ _ => 0) (fun _ => 0) (fun _ => 0) (fun _ _ => 0) (fun _ _ => 0) (fun _ _ => 0)).2.2.2.2.2.2.2.2.1 (f_X4_init (fun _ => 0) (fun _ => 0) (fun _ => 0) (fun _ => 0) (fun _ => 0) (fun _ _ => 0) (fun _ _ => 0) (fun _ _ => 0) (fun _ => 0) (fun _ => 0) (fun _ _ => 0) (fun _ _ => 0) (fun _ _ => 0)).2.2.2.2.2.2.2.2.2.1 (f_X4_init (fun _ => 0) (fun _ => 0) (fun _ => 0) (fun _ => 0) (fun _ => 0) (fun _ _ => 0) (fun _ _ => 0) (fun _ _ => 0) (fun _ => 0) (fun _ => 0) (fun _ _ => 0) (fun _ _ => 0) (fun _ _ => 0)).2.2.2.2.2.2.2.2.2.2.1 (f_X4_init (fun _ => 0) (fun _ => 0) (fun _ => 0) (fun _ => 0) (fun _ => 0) (fun _ _ => 0) (fun _ _ => 0) (fun _ _ => 0) (fun _ => 0) (fun _ => 0) (fun _ _ => 0) (fun _ _ => 0) (fun _ _ => 0)).2.2.2.2.2.2.2.2.2.2.2 (fun _ _ => 0) (fun _ _ => 0) (fun _ _ _ => 0) (fun _ _ _ => 0) (fun _ _ _ => 0) (fun _ => 0) (fun _ => 0) (fun _ => 0) (fun _ => 0) (f_X5_init (fun _ => 0) (fun _ => 0) (fun _ => 0)).1 (f_X5_init (fun _ => 0) (fun _ => 0) (fun _ => 0)).2.1 (f_X5_init (fun _ => 0) (fun _ => 0) (fun _ => 0)).2.2 (fun _ => 0) (fun _ => 0) (fun _ => 0)) : W p l e room_1 s m #[Value.ref b] below meth c s.heap [] 0 0 (lw_Z below #[Value.ref b] s) (entryFrame m ([Value.ref b] : List Value).toArray 4) := by
  obtain ⟨hx, hb, hr, hml, hown, hts, hX, hbl, hlocks, hgv⟩ := C0
  obtain ⟨G, e1, e2, e3, e4, e5, hE⟩ := env_start l hts hX hbl hgv
  have hC : xC G RL code 4 meth.name ret p s m #[Value.ref b] meth c := ⟨hx, hb, hml, hown, fun w hw => hts w (xW_tbl hw), hr, hlocks, rfl, hE⟩
  obtain ⟨g, eg⟩ : ∃ g, s.heap.size = g := ⟨_, rfl⟩
  obtain ⟨h0, eh0⟩ : ∃ h0 : xH, h0 = (g, fun _ => none) := ⟨_, rfl⟩
  have z0 : h0.1 = g := by rw [eh0]
  have hH0 : xHo G h0 s.heap := by rw [eh0]; exact ⟨eg, fun a ee he => by cases he⟩
  have K : Wp G RL code 4 meth.name ret room_1 (lwZ G) 0 0 0 [(0, .ref (xg_b G))] [] h0 := by
    refine x_new (pc := 0) dL_law_0 xn_L_7 rfl rfl ?_
    rw [z0]
    obtain ⟨h1, eh1⟩ : ∃ z, z = hNew h0 (.inr (4, [.null, .null, .null, .null, .int 0, .int 0, .null, .null])) := ⟨_, rfl⟩
    rw [← eh1]
    have k1 : hAt h1 g = some (.inr (4, [.null, .null, .null, .null, .int 0, .int 0, .null, .null])) := by rw [eh1]; exact hNew_p (k := 0) z0
    have z1 : h1.1 = g + 1 := by rw [eh1]; exact cZn (k := 0) z0
    refine x_dup (pc := 3) dL_law_3 rfl ?_
    refine x_callI (pc := 4) (As := []) (rest := [.ref g]) (mc := 97) (ms := 1005) dL_law_4 xl_L_9 xi_X4_init rfl rfl rfl rfl rfl (C_X4_init G h1 g k1 z1 hp4) (fun v h2 hq => ?_)
    obtain ⟨ev, z2, a1, a2, a3, a4, a5, a6, a7, a8, a9, a10, a11, f2⟩ := hq
    subst ev
    refine Wp.eqs (L' := [(0, .ref (xg_b G))]) (st' := [.ref g]) rfl rfl ?_
    refine x_astore_n (pc := 7) (L' := [(1, .ref g), (0, .ref (xg_b G))]) dL_law_7 rfl rfl ?_
    refine x_new (pc := 8) dL_law_8 xn_L_10 rfl rfl ?_
    rw [z2]
    obtain ⟨h3, eh3⟩ : ∃ z, z = hNew h2 (.inr (5, [.null, .null, .null, .null, .int 0, .null, .int 0, .int 0, .int 0, .int 0])) := ⟨_, rfl⟩
    rw [← eh3]
    have k3 : hAt h3 (g + 98) = some (.inr (5, [.null, .null, .null, .null, .int 0, .null, .int 0, .int 0, .int 0, .int 0])) := by rw [eh3]; exact hNew_p z2
    have z3 : h3.1 = g + 98 + 1 := by rw [eh3]; exact cZn z2
    refine x_dup (pc := 11) dL_law_11 rfl ?_
    refine x_callI (pc := 12) (As := []) (rest := [.ref (g + 98)]) (mc := 5) (ms := 961) dL_law_12 xl_L_12 xi_X5_init rfl rfl rfl rfl rfl (C_X5_init G h3 (g + 98) k3 z3 hp5) (fun v h4 hq => ?_)
    obtain ⟨ev, z4, b1, b2, b3, b4, b5, b6, f4⟩ := hq
    subst ev
    refine Wp.eqs (L' := [(1, .ref g), (0, .ref (xg_b G))]) (st' := [.ref (g + 98)]) rfl rfl ?_
    have tc : ∀ {k : Nat} {ee : gE}, Nat.ble (k + 1) 98 = true → hAt h2 (g + k) = some ee → hAt h4 (g + k) = some ee := fun {k ee} hk h2k => by
      rw [f4 (g + k) (cTo hk), eh3]
      exact hNew_o (cZ z2 (fun z => by have := Nat.le_of_ble_eq_true hk; omega)) h2k
    have tn : ∀ q, q < g + 98 → hAt h4 q = hAt h2 q := fun q hq => by
      rw [f4 q hq, eh3]
      exact hNew_e (by omega)
    refine x_astore_n (pc := 15) (L' := [(2, .ref (g + 98)), (1, .ref g), (0, .ref (xg_b G))]) dL_law_15 rfl rfl ?_
    refine x_iconst (pc := 16) (v := (0 : Int32)) dL_law_16 (by decide) ?_
    refine x_istore_n (pc := 17) (L' := [(3, .int 0), (2, .ref (g + 98)), (1, .ref g), (0, .ref (xg_b G))]) dL_law_17 rfl rfl ?_
    exact law_loop G meth.name g xs L e5 e4 hL Inv w_write w_wipe w_fault w_lay w_tick w_send w_limit w_kind w_loss w_believe w_undo w_way w_hop w_probe w_padding w_meets w_draw w_ahead w_soon w_best w_count (L + 1) 0 0 (fun _ => 0) (f_X4_init (fun _ => 0) (fun _ => 0) (fun _ => 0) (fun _ => 0) (fun _ => 0) (fun _ _ => 0) (fun _ _ => 0) (fun _ _ => 0) (fun _ => 0) (fun _ => 0) (fun _ _ => 0) (fun _ _ => 0) (fun _ _ => 0)).1 (f_X4_init (fun _ => 0) (fun _ => 0) (fun _ => 0) (fun _ => 0) (fun _ => 0) (fun _ _ => 0) (fun _ _ => 0) (fun _ _ => 0) (fun _ => 0) (fun _ => 0) (fun _ _ => 0) (fun _ _ => 0) (fun _ _ => 0)).2.1 (f_X4_init (fun _ => 0) (fun _ => 0) (fun _ => 0) (fun _ => 0) (fun _ => 0) (fun _ _ => 0) (fun _ _ => 0) (fun _ _ => 0) (fun _ => 0) (fun _ => 0) (fun _ _ => 0) (fun _ _ => 0) (fun _ _ => 0)).2.2.1 (f_X4_init (fun _ => 0) (fun _ => 0) (fun _ => 0) (fun _ => 0) (fun _ => 0) (fun _ _ => 0) (fun _ _ => 0) (fun _ _ => 0) (fun _ => 0) (fun _ => 0) (fun _ _ => 0) (fun _ _ => 0) (fun _ _ => 0)).2.2.2.1 (f_X4_init (fun _ => 0) (fun _ => 0) (fun _ => 0) (fun _ => 0) (fun _ => 0) (fun _ _ => 0) (fun _ _ => 0) (fun _ _ => 0) (fun _ => 0) (fun _ => 0) (fun _ _ => 0) (fun _ _ => 0) (fun _ _ => 0)).2.2.2.2.1 (f_X4_init (fun _ => 0) (fun _ => 0) (fun _ => 0) (fun _ => 0) (fun _ => 0) (fun _ _ => 0) (fun _ _ => 0) (fun _ _ => 0) (fun _ => 0) (fun _ => 0) (fun _ _ => 0) (fun _ _ => 0) (fun _ _ => 0)).2.2.2.2.2.1 (f_X4_init (fun _ => 0) (fun _ => 0) (fun _ => 0) (fun _ => 0) (fun _ => 0) (fun _ _ => 0) (fun _ _ => 0) (fun _ _ => 0) (fun _ => 0) (fun _ => 0) (fun _ _ => 0) (fun _ _ => 0) (fun _ _ => 0)).2.2.2.2.2.2.1 (f_X4_init (fun _ => 0) (fun _ => 0) (fun _ => 0) (fun _ => 0) (fun _ => 0) (fun _ _ => 0) (fun _ _ => 0) (fun _ _ => 0) (fun _ => 0) (fun _ => 0) (fun _ _ => 0) (fun _ _ => 0) (fun _ _ => 0)).2.2.2.2.2.2.2.1 (f_X4_init (fun _ => 0) (fun _ => 0) (fun _ => 0) (fun _ => 0) (fun _ => 0) (fun _ _ => 0) (fun _ _ => 0) (fun _ _ => 0) (fun _ => 0) (fun _ => 0) (fun _ _ => 0) (fun _ _ => 0) (fun _ _ => 0)).2.2.2.2.2.2.2.2.1 (f_X4_init (fun _ => 0) (fun _ => 0) (fun _ => 0) (fun _ => 0) (fun _ => 0) (fun _ _ => 0) (fun _ _ => 0) (fun _ _ => 0) (fun _ => 0) (fun _ => 0) (fun _ _ => 0) (fun _ _ => 0) (fun _ _ => 0)).2.2.2.2.2.2.2.2.2.1 (f_X4_init (fun _ => 0) (fun _ => 0) (fun _ => 0) (fun _ => 0) (fun _ => 0) (fun _ _ => 0) (fun _ _ => 0) (fun _ _ => 0) (fun _ => 0) (fun _ => 0) (fun _ _ => 0) (fun _ _ => 0) (fun _ _ => 0)).2.2.2.2.2.2.2.2.2.2.1 (f_X4_init (fun _ => 0) (fun _ => 0) (fun _ => 0) (fun _ => 0) (fun _ => 0) (fun _ _ => 0) (fun _ _ => 0) (fun _ _ => 0) (fun _ => 0) (fun _ => 0) (fun _ _ => 0) (fun _ _ => 0) (fun _ _ => 0)).2.2.2.2.2.2.2.2.2.2.2 (fun _ _ => 0) (fun _ _ => 0) (fun _ _ _ => 0) (fun _ _ _ => 0) (fun _ _ _ => 0) (fun _ => 0) (fun _ => 0) (fun _ => 0) (fun _ => 0) (f_X5_init (fun _ => 0) (fun _ => 0) (fun _ => 0)).1 (f_X5_init (fun _ => 0) (fun _ => 0) (fun _ => 0)).2.1 (f_X5_init (fun _ => 0) (fun _ => 0) (fun _ => 0)).2.2 (fun _ => 0) (fun _ => 0) (fun _ => 0) h4 rfl (by omega) (by omega) hI0 (tc (k := 0) rfl a1) (tc rfl a2) (tc rfl a3) (nk_fr (fun q u1 u2 => tn q (by omega)) a4) (nk_fr (fun q u1 u2 => tn q (by omega)) a5) (tc rfl a6) (ek_fr (fun q u1 u2 => tn q (by omega)) a7) (tc rfl a8) (tc rfl a9) (tc rfl a10) (tc rfl a11) b1 b2 b3 b4 b5 b6
  have hl := lv_entry ([.ref b]) (n := 4) (Nat.le_of_ble_eq_true rfl)
  rw [lg_entry_eq]
  generalize (lg_sl ([.ref b]) ++ List.replicate (4 - (lg_sl ([.ref b])).length) Slot.unset).toArray = ls at hl ⊢
  have hl : lv_has ls 4 [(0, .ref (xg_b G))] := by rw [e3]; exact hl
  have KW := K p e s m #[Value.ref b] below meth c s.heap [] ls hC hH0 va_S.rf hl
  rw [e1] at KW
  exact W.mono (fun t ht => ht e2.symm) KW
