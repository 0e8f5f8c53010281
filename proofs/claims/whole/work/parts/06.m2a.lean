def f_X5_in (v lo hi : Int32) : Int32 := ((if v < lo then (0 : Int32) else (if hi < v then (0 : Int32) else (1 : Int32))))
set_option maxRecDepth 100000 in
set_option maxHeartbeats 4000000 in
theorem C_X5_in (G : xG) (h : xH) (v lo hi : Int32) : Cd G 0 yX5_in cX5_in 3 (some .boolean) [.int v, .int lo, .int hi] h (some (.int (f_X5_in v lo hi))) h := by
  refine Ct.of (by decide) (by rfl) ?_
  refine Wp.eqs (L' := [(0, .int v), (1, .int lo), (2, .int hi)]) (st' := []) rfl rfl ?_
  obtain ⟨R, er⟩ : ∃ R, f_X5_in v lo hi = R := ⟨_, rfl⟩
  rw [er]
  unfold f_X5_in at er
  refine x_iload_n (pc := 0) dX5_in_0 rfl ?_
  refine x_iload_n (pc := 1) dX5_in_1 rfl ?_
  obtain ⟨F1, eF1⟩ : ∃ F, (if v < lo then (0 : Int32) else (if hi < v then (0 : Int32) else (1 : Int32))) = F := ⟨_, rfl⟩
  try rw [eF1] at er
  have bF1 : xB F1 := by rw [← eF1]; exact (xB_ite xB0 (xB_ite xB0 xB1))
  refine x_mrg (pc' := 15) (L' := [(0, .int v), (1, .int lo), (2, .int hi)]) (st' := [.int F1]) (h' := h) (fun J => ?_) ?_
  · refine x_icmp_lt (pc := 2) (tgt := 14) dX5_in_2 (by decide) (fun (c1 : v < lo) => ?_) (fun (c1 : ¬ (v < lo)) => ?_)
    · refine x_iconst (pc := 14) (v := (0 : Int32)) dX5_in_14 (by decide) ?_
      rw [if_pos c1] at eF1
      subst eF1
      exact J
    · refine x_iload_n (pc := 5) dX5_in_5 rfl ?_
      refine x_iload_n (pc := 6) dX5_in_6 rfl ?_
      refine x_icmp_gt (pc := 7) (tgt := 14) dX5_in_7 (by decide) (fun (c2 : hi < v) => ?_) (fun (c2 : ¬ (hi < v)) => ?_)
      · refine x_iconst (pc := 14) (v := (0 : Int32)) dX5_in_14 (by decide) ?_
        rw [if_neg c1, if_pos c2] at eF1
        subst eF1
        exact J
      · refine x_iconst (pc := 10) (v := (1 : Int32)) dX5_in_10 (by decide) ?_
        refine x_goto (pc := 11) (tgt := 15) dX5_in_11 (by decide) ?_
        rw [if_neg c1, if_neg c2] at eF1
        subst eF1
        exact J
  subst er
  exact x_iret (pc := 15) dX5_in_15 rfl (xb_nar bF1) rfl rfl ⟨rfl, rfl⟩
theorem B_X5_in (v lo hi : Int32) : xB (f_X5_in v lo hi) := by
  unfold f_X5_in
  exact (xB_ite xB0 (xB_ite xB0 xB1))

def f_X5_lesser (x y : Int32) : Int32 := ((if y ≤ x then y else x))
set_option maxRecDepth 100000 in
set_option maxHeartbeats 4000000 in
theorem C_X5_lesser (G : xG) (h : xH) (x y : Int32) : Cd G 0 yX5_lesser cX5_lesser 2 (some .int) [.int x, .int y] h (some (.int (f_X5_lesser x y))) h := by
  refine Ct.of (by decide) (by rfl) ?_
  refine Wp.eqs (L' := [(0, .int x), (1, .int y)]) (st' := []) rfl rfl ?_
  obtain ⟨R, er⟩ : ∃ R, f_X5_lesser x y = R := ⟨_, rfl⟩
  rw [er]
  unfold f_X5_lesser at er
  refine x_iload_n (pc := 0) dX5_lesser_0 rfl ?_
  refine x_iload_n (pc := 1) dX5_lesser_1 rfl ?_
  obtain ⟨F1, eF1⟩ : ∃ F, (if y ≤ x then y else x) = F := ⟨_, rfl⟩
  try rw [eF1] at er
  refine x_mrg (pc' := 10) (L' := [(0, .int x), (1, .int y)]) (st' := [.int F1]) (h' := h) (fun J => ?_) ?_
  · refine x_icmp_ge (pc := 2) (tgt := 9) dX5_lesser_2 (by decide) (fun (c1 : y ≤ x) => ?_) (fun (c1 : ¬ (y ≤ x)) => ?_)
    · refine x_iload_n (pc := 9) dX5_lesser_9 rfl ?_
      rw [if_pos c1] at eF1
      subst eF1
      exact J
    · refine x_iload_n (pc := 5) dX5_lesser_5 rfl ?_
      refine x_goto (pc := 6) (tgt := 10) dX5_lesser_6 (by decide) ?_
      rw [if_neg c1] at eF1
      subst eF1
      exact J
  subst er
  exact x_iret (pc := 10) dX5_lesser_10 rfl rfl rfl rfl ⟨rfl, rfl⟩

def f_X5_greater (x y : Int32) : Int32 := ((if x ≤ y then y else x))
set_option maxRecDepth 100000 in
set_option maxHeartbeats 4000000 in
theorem C_X5_greater (G : xG) (h : xH) (x y : Int32) : Cd G 0 yX5_greater cX5_greater 2 (some .int) [.int x, .int y] h (some (.int (f_X5_greater x y))) h := by
  refine Ct.of (by decide) (by rfl) ?_
  refine Wp.eqs (L' := [(0, .int x), (1, .int y)]) (st' := []) rfl rfl ?_
  obtain ⟨R, er⟩ : ∃ R, f_X5_greater x y = R := ⟨_, rfl⟩
  rw [er]
  unfold f_X5_greater at er
  refine x_iload_n (pc := 0) dX5_greater_0 rfl ?_
  refine x_iload_n (pc := 1) dX5_greater_1 rfl ?_
  obtain ⟨F1, eF1⟩ : ∃ F, (if x ≤ y then y else x) = F := ⟨_, rfl⟩
  try rw [eF1] at er
  refine x_mrg (pc' := 10) (L' := [(0, .int x), (1, .int y)]) (st' := [.int F1]) (h' := h) (fun J => ?_) ?_
  · refine x_icmp_le (pc := 2) (tgt := 9) dX5_greater_2 (by decide) (fun (c1 : x ≤ y) => ?_) (fun (c1 : ¬ (x ≤ y)) => ?_)
    · refine x_iload_n (pc := 9) dX5_greater_9 rfl ?_
      rw [if_pos c1] at eF1
      subst eF1
      exact J
    · refine x_iload_n (pc := 5) dX5_greater_5 rfl ?_
      refine x_goto (pc := 6) (tgt := 10) dX5_greater_6 (by decide) ?_
      rw [if_neg c1] at eF1
      subst eF1
      exact J
  subst er
  exact x_iret (pc := 10) dX5_greater_10 rfl rfl rfl rfl ⟨rfl, rfl⟩

def f_X5_at (i k : Int32) : Int32 := (((7 : Int32) + ((24 : Int32) * i)) + k)
set_option maxRecDepth 100000 in
set_option maxHeartbeats 4000000 in
theorem C_X5_at (G : xG) (h : xH) (i k : Int32) : Cd G 0 yX5_at cX5_at 2 (some .int) [.int i, .int k] h (some (.int (f_X5_at i k))) h := by
  refine Ct.of (by decide) (by rfl) ?_
  refine Wp.eqs (L' := [(0, .int i), (1, .int k)]) (st' := []) rfl rfl ?_
  obtain ⟨R, er⟩ : ∃ R, f_X5_at i k = R := ⟨_, rfl⟩
  rw [er]
  unfold f_X5_at at er
  refine x_bipush (pc := 0) (v := (7 : Int32)) dX5_at_0 (by decide) ?_
  refine x_bipush (pc := 2) (v := (24 : Int32)) dX5_at_2 (by decide) ?_
  refine x_iload_n (pc := 4) dX5_at_4 rfl ?_
  refine x_imul (pc := 5) dX5_at_5 ?_
  refine x_iadd (pc := 6) dX5_at_6 ?_
  refine x_iload_n (pc := 7) dX5_at_7 rfl ?_
  refine x_iadd (pc := 8) dX5_at_8 ?_
  subst er
  exact x_iret (pc := 9) dX5_at_9 rfl rfl rfl rfl ⟨rfl, rfl⟩
