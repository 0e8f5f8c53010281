def g_X4_way_5 (W : (Nat → Nat → Int32)) (LF : (Nat → Nat → Int32)) (i : Int32) (what : Int32) (y0 : Int32) : Int32 := (if y0 = 0 then (-1 : Int32) else (f_X3_tell (W (i.toNatClampNeg)) (LF (i.toNatClampNeg)) what))
def h_X4_way_5 (W : (Nat → Nat → Int32)) (LF : (Nat → Nat → Int32)) (i : Int32) (what : Int32) (y0 : Int32) : Prop := ((y0 = 0 → True) ∧ (¬ (y0 = 0) → (vp_in i 4 ∧ (p_X3_tell (W (i.toNatClampNeg)) (LF (i.toNatClampNeg)) what ∧ True))))
def f_X4_way (s : (Nat → Int32)) (r : (Nat → Int32)) (t : (Nat → Int32)) (W : (Nat → Nat → Int32)) (LF : (Nat → Nat → Int32)) (KF : (Nat → Nat → Int32)) (i what : Int32) : Int32 := (g_X4_way_5 W LF i what (f_X4_isWay s r t W LF KF i))
def p_X4_way (s : (Nat → Int32)) (r : (Nat → Int32)) (t : (Nat → Int32)) (W : (Nat → Nat → Int32)) (LF : (Nat → Nat → Int32)) (KF : (Nat → Nat → Int32)) (i what : Int32) : Prop := ((h_X4_way_5 W LF i what (f_X4_isWay s r t W LF KF i)) ∧ True)
set_option maxRecDepth 100000 in
set_option maxHeartbeats 4000000 in
theorem C_X4_way (G : xG) (h : xH) (g : Nat) (s : (Nat → Int32)) (r : (Nat → Int32)) (t : (Nat → Int32)) (W : (Nat → Nat → Int32)) (LF : (Nat → Nat → Int32)) (KF : (Nat → Nat → Int32)) (i what : Int32) (k_g : hAt h g = some (gpC (g + 1) (g + 3) (g + 18) (g + 33) (g + 34) (g + 37) s)) (k_g3 : nk h (g + 3) r t W LF KF) (hp : p_X4_way s r t W LF KF i what) : Ct G 3 0 0 yX4_way cX4_way 3 (some .int) [.ref g, .int i, .int what] h (fun v' h' => v' = (some (.int (f_X4_way s r t W LF KF i what))) ∧ h' = h) := by
  refine Ct.of (by decide) (by rfl) ?_
  refine Wp.eqs (L' := [(0, .ref g), (1, .int i), (2, .int what)]) (st' := []) rfl rfl ?_
  obtain ⟨R, er⟩ : ∃ R, f_X4_way s r t W LF KF i what = R := ⟨_, rfl⟩
  rw [er]
  unfold f_X4_way at er
  unfold p_X4_way at hp
  refine x_aload_n (pc := 0) dX4_way_0 rfl ?_
  refine x_iload_n (pc := 1) dX4_way_1 rfl ?_
  refine x_cV1i (pc := 2) dX4_way_2 xl_X4_101 xv_X4_isWay k_g rfl (C_X4_isWay G _ g s r t W LF KF i k_g k_g3) rfl rfl rfl ?_
  obtain ⟨F1, eF1⟩ : ∃ F, f_X4_isWay s r t W LF KF i = F := ⟨_, rfl⟩
  rw [eF1]
  try rw [eF1] at er
  try rw [eF1] at hp
  have bF1 : xB F1 := by rw [← eF1]; exact (B_X4_isWay _ _ _ _ _ _ _)
  obtain ⟨qr5, hp⟩ := hp
  obtain ⟨F4, eF4⟩ : ∃ F, g_X4_way_5 W LF i what F1 = F := ⟨_, rfl⟩
  try rw [eF4] at er
  try rw [eF4] at hp
  refine x_mrg (pc' := 25) (L' := [(0, .ref g), (1, .int i), (2, .int what)]) (st' := [.int F4]) (h' := h) (fun J => ?_) ?_
  · unfold g_X4_way_5 at eF4
    unfold h_X4_way_5 at qr5
    try rw [eF1] at eF4
    try rw [eF1] at qr5
    refine x_if_eq (pc := 5) (tgt := 24) dX4_way_5 (by decide) (fun (c2 : F1 = 0) => ?_) (fun (c2 : ¬ (F1 = 0)) => ?_)
    · rw [if_pos c2] at eF4
      replace qr5 := qr5.1 c2
      refine x_iconst (pc := 24) (v := (-1 : Int32)) dX4_way_24 (by decide) ?_
      subst eF4
      exact J
    · rw [if_neg c2] at eF4
      replace qr5 := qr5.2 c2
      refine x_aload_n (pc := 8) dX4_way_8 rfl ?_
      refine x_getf (pc := 9) (v := .ref (g + 3)) dX4_way_9 xf_X4_19 k_g rfl ?_
      refine x_getf (pc := 12) (v := .ref ((g + 3) + 2)) dX4_way_12 xf_X4_90 (nk_nt k_g3) rfl ?_
      refine x_iload_n (pc := 15) dX4_way_15 rfl ?_
      obtain ⟨q16, qr5⟩ := qr5
      have hj2 : (i.toNatClampNeg) < 4 := vp_lt q16
      refine x_aald (pc := 16) (t := 3) (Cn := RX3) (b := ((g + 3) + 3 + 3 * (i.toNatClampNeg))) rfl dX4_way_16 (nk_wy k_g3) q16 rfl ?_
      refine x_iload_n (pc := 17) dX4_way_17 rfl ?_
      obtain ⟨q18, qr5⟩ := qr5
      refine x_cV1i (pc := 18) dX4_way_18 xl_X4_133 xv_X3_tell (nk_wa k_g3 hj2) rfl (C_X3_tell G _ ((g + 3) + 3 + 3 * (i.toNatClampNeg)) ((g + 3) + 4 + 3 * (i.toNatClampNeg)) ((g + 3) + 5 + 3 * (i.toNatClampNeg)) (W (i.toNatClampNeg)) (LF (i.toNatClampNeg)) what (nk_wa k_g3 hj2) (nk_la k_g3 hj2) q18) rfl rfl rfl ?_
      obtain ⟨F3, eF3⟩ : ∃ F, f_X3_tell (W (i.toNatClampNeg)) (LF (i.toNatClampNeg)) what = F := ⟨_, rfl⟩
      rw [eF3]
      try rw [eF3] at eF4
      try rw [eF3] at qr5
      refine x_goto (pc := 21) (tgt := 25) dX4_way_21 (by decide) ?_
      subst eF4
      exact J
  subst er
  exact x_iret (pc := 25) dX4_way_25 rfl rfl rfl rfl ⟨rfl, rfl⟩

def g_X4_hop_21 (LF : (Nat → Nat → Int32)) (KF : (Nat → Nat → Int32)) (i : Int32) (hh_ : Int32) (what : Int32) : Int32 := (if what = 0 then ((LF (i.toNatClampNeg)) (hh_.toNatClampNeg)) else ((KF (i.toNatClampNeg)) (hh_.toNatClampNeg)))
def h_X4_hop_21 (LF : (Nat → Nat → Int32)) (KF : (Nat → Nat → Int32)) (i : Int32) (hh_ : Int32) (what : Int32) : Prop := ((what = 0 → (vp_in i 4 ∧ (vp_in hh_ 6 ∧ True))) ∧ (¬ (what = 0) → (vp_in i 4 ∧ (vp_in hh_ 6 ∧ True))))
def f_X4_hop (s : (Nat → Int32)) (r : (Nat → Int32)) (t : (Nat → Int32)) (W : (Nat → Nat → Int32)) (LF : (Nat → Nat → Int32)) (KF : (Nat → Nat → Int32)) (i hh_ what : Int32) : Int32 := (if (f_X4_isHop s r t W LF KF i hh_) = 0 then (-1 : Int32) else (if (f_X4_isBetween what (0 : Int32) (1 : Int32)) = 0 then (-1 : Int32) else (g_X4_hop_21 LF KF i hh_ what)))
def p_X4_hop (s : (Nat → Int32)) (r : (Nat → Int32)) (t : (Nat → Int32)) (W : (Nat → Nat → Int32)) (LF : (Nat → Nat → Int32)) (KF : (Nat → Nat → Int32)) (i hh_ what : Int32) : Prop := (p_X4_isHop s r t W LF KF i hh_ ∧ (((f_X4_isHop s r t W LF KF i hh_) = 0 → True) ∧ (¬ ((f_X4_isHop s r t W LF KF i hh_) = 0) → (((f_X4_isBetween what (0 : Int32) (1 : Int32)) = 0 → True) ∧ (¬ ((f_X4_isBetween what (0 : Int32) (1 : Int32)) = 0) → ((h_X4_hop_21 LF KF i hh_ what) ∧ True))))))
set_option maxRecDepth 100000 in
set_option maxHeartbeats 4000000 in
theorem C_X4_hop (G : xG) (h : xH) (g : Nat) (s : (Nat → Int32)) (r : (Nat → Int32)) (t : (Nat → Int32)) (W : (Nat → Nat → Int32)) (LF : (Nat → Nat → Int32)) (KF : (Nat → Nat → Int32)) (i hh_ what : Int32) (k_g : hAt h g = some (gpC (g + 1) (g + 3) (g + 18) (g + 33) (g + 34) (g + 37) s)) (k_g3 : nk h (g + 3) r t W LF KF) (hp : p_X4_hop s r t W LF KF i hh_ what) : Ct G 2 0 0 yX4_hop cX4_hop 4 (some .int) [.ref g, .int i, .int hh_, .int what] h (fun v' h' => v' = (some (.int (f_X4_hop s r t W LF KF i hh_ what))) ∧ h' = h) := by
  refine Ct.of (by decide) (by rfl) ?_
  refine Wp.eqs (L' := [(0, .ref g), (1, .int i), (2, .int hh_), (3, .int what)]) (st' := []) rfl rfl ?_
  obtain ⟨R, er⟩ : ∃ R, f_X4_hop s r t W LF KF i hh_ what = R := ⟨_, rfl⟩
  rw [er]
  unfold f_X4_hop at er
  unfold p_X4_hop at hp
  refine x_aload_n (pc := 0) dX4_hop_0 rfl ?_
  refine x_iload_n (pc := 1) dX4_hop_1 rfl ?_
  refine x_iload_n (pc := 2) dX4_hop_2 rfl ?_
  obtain ⟨q3, hp⟩ := hp
  refine x_cV2i (pc := 3) dX4_hop_3 xl_X4_113 xv_X4_isHop k_g rfl (C_X4_isHop G _ g s r t W LF KF i hh_ k_g k_g3 q3) rfl rfl rfl ?_
  obtain ⟨F1, eF1⟩ : ∃ F, f_X4_isHop s r t W LF KF i hh_ = F := ⟨_, rfl⟩
  rw [eF1]
  try rw [eF1] at er
  try rw [eF1] at hp
  have bF1 : xB F1 := by rw [← eF1]; exact (B_X4_isHop _ _ _ _ _ _ _ _)
  refine x_if_eq (pc := 6) (tgt := 18) dX4_hop_6 (by decide) (fun (c1 : F1 = 0) => ?_) (fun (c1 : ¬ (F1 = 0)) => ?_)
  · rw [if_pos c1] at er
    replace hp := hp.1 c1
    refine x_iconst (pc := 18) (v := (-1 : Int32)) dX4_hop_18 (by decide) ?_
    subst er
    exact x_iret (pc := 19) dX4_hop_19 rfl rfl rfl rfl ⟨rfl, rfl⟩
  · rw [if_neg c1] at er
    replace hp := hp.2 c1
    refine x_iload_n (pc := 9) dX4_hop_9 rfl ?_
    refine x_iconst (pc := 10) (v := (0 : Int32)) dX4_hop_10 (by decide) ?_
    refine x_iconst (pc := 11) (v := (1 : Int32)) dX4_hop_11 (by decide) ?_
    refine x_cS3i (pc := 12) dX4_hop_12 xl_X4_77 xs_X4_isBetween (C_X4_isBetween G _ what (0 : Int32) (1 : Int32)) rfl rfl rfl ?_
    obtain ⟨F2, eF2⟩ : ∃ F, f_X4_isBetween what (0 : Int32) (1 : Int32) = F := ⟨_, rfl⟩
    rw [eF2]
    try rw [eF2] at er
    try rw [eF2] at hp
    have bF2 : xB F2 := by rw [← eF2]; exact (B_X4_isBetween _ _ _)
    refine x_if_ne (pc := 15) (tgt := 20) dX4_hop_15 (by decide) (fun (c2 : ¬ (F2 = 0)) => ?_) (fun (c2 : F2 = 0) => ?_)
    · rw [if_neg c2] at er
      replace hp := hp.2 c2
      refine x_iload_n (pc := 20) dX4_hop_20 rfl ?_
      obtain ⟨qr21, hp⟩ := hp
      obtain ⟨F3, eF3⟩ : ∃ F, g_X4_hop_21 LF KF i hh_ what = F := ⟨_, rfl⟩
      try rw [eF3] at er
      try rw [eF3] at hp
      refine x_mrg (pc' := 55) (L' := [(0, .ref g), (1, .int i), (2, .int hh_), (3, .int what)]) (st' := [.int F3]) (h' := h) (fun J => ?_) ?_
      · unfold g_X4_hop_21 at eF3
        unfold h_X4_hop_21 at qr21
        try rw [eF1] at eF3
        try rw [eF1] at qr21
        try rw [eF2] at eF3
        try rw [eF2] at qr21
        refine x_if_ne (pc := 21) (tgt := 41) dX4_hop_21 (by decide) (fun (c4 : ¬ (what = 0)) => ?_) (fun (c4 : what = 0) => ?_)
        · rw [if_neg c4] at eF3
          replace qr21 := qr21.2 c4
          refine x_aload_n (pc := 41) dX4_hop_41 rfl ?_
          refine x_getf (pc := 42) (v := .ref (g + 3)) dX4_hop_42 xf_X4_19 k_g rfl ?_
          refine x_getf (pc := 45) (v := .ref ((g + 3) + 2)) dX4_hop_45 xf_X4_90 (nk_nt k_g3) rfl ?_
          refine x_iload_n (pc := 48) dX4_hop_48 rfl ?_
          obtain ⟨q49, qr21⟩ := qr21
          have hj3 : (i.toNatClampNeg) < 4 := vp_lt q49
          refine x_aald (pc := 49) (t := 3) (Cn := RX3) (b := ((g + 3) + 3 + 3 * (i.toNatClampNeg))) rfl dX4_hop_49 (nk_wy k_g3) q49 rfl ?_
          refine x_getf (pc := 50) (v := .ref ((g + 3) + 5 + 3 * (i.toNatClampNeg))) dX4_hop_50 xf_X4_121 (nk_wa k_g3 hj3) rfl ?_
          refine x_iload_n (pc := 53) dX4_hop_53 rfl ?_
          obtain ⟨q54, qr21⟩ := qr21
          refine x_iald (pc := 54) dX4_hop_54 (nk_ka k_g3 hj3) q54 (j := (hh_.toNatClampNeg)) rfl ?_
          subst eF3
          exact J
        · rw [if_pos c4] at eF3
          replace qr21 := qr21.1 c4
          refine x_aload_n (pc := 24) dX4_hop_24 rfl ?_
          refine x_getf (pc := 25) (v := .ref (g + 3)) dX4_hop_25 xf_X4_19 k_g rfl ?_
          refine x_getf (pc := 28) (v := .ref ((g + 3) + 2)) dX4_hop_28 xf_X4_90 (nk_nt k_g3) rfl ?_
          refine x_iload_n (pc := 31) dX4_hop_31 rfl ?_
          obtain ⟨q32, qr21⟩ := qr21
          have hj4 : (i.toNatClampNeg) < 4 := vp_lt q32
          refine x_aald (pc := 32) (t := 3) (Cn := RX3) (b := ((g + 3) + 3 + 3 * (i.toNatClampNeg))) rfl dX4_hop_32 (nk_wy k_g3) q32 rfl ?_
          refine x_getf (pc := 33) (v := .ref ((g + 3) + 4 + 3 * (i.toNatClampNeg))) dX4_hop_33 xf_X4_117 (nk_wa k_g3 hj4) rfl ?_
          refine x_iload_n (pc := 36) dX4_hop_36 rfl ?_
          obtain ⟨q37, qr21⟩ := qr21
          refine x_iald (pc := 37) dX4_hop_37 (nk_la k_g3 hj4) q37 (j := (hh_.toNatClampNeg)) rfl ?_
          refine x_goto (pc := 38) (tgt := 55) dX4_hop_38 (by decide) ?_
          subst eF3
          exact J
      subst er
      exact x_iret (pc := 55) dX4_hop_55 rfl rfl rfl rfl ⟨rfl, rfl⟩
    · rw [if_pos c2] at er
      replace hp := hp.1 c2
      refine x_iconst (pc := 18) (v := (-1 : Int32)) dX4_hop_18 (by decide) ?_
      subst er
      exact x_iret (pc := 19) dX4_hop_19 rfl rfl rfl rfl ⟨rfl, rfl⟩

def g_X4_probe_22 (W : (Nat → Nat → Int32)) (i : Int32) (y0 : Int32) : Int32 := (if y0 = 0 then (f_X3_probeSize (W (i.toNatClampNeg))) else (-4 : Int32))
def h_X4_probe_22 (W : (Nat → Nat → Int32)) (i : Int32) (y0 : Int32) : Prop := ((y0 = 0 → (vp_in i 4 ∧ True)) ∧ (¬ (y0 = 0) → True))
def f_X4_probe (s : (Nat → Int32)) (r : (Nat → Int32)) (t : (Nat → Int32)) (W : (Nat → Nat → Int32)) (LF : (Nat → Nat → Int32)) (KF : (Nat → Nat → Int32)) (i : Int32) : Int32 := (if (f_X4_isWay s r t W LF KF i) = 0 then (-1 : Int32) else (g_X4_probe_22 W i (f_X3_isNarrowed (W (i.toNatClampNeg)))))
def p_X4_probe (s : (Nat → Int32)) (r : (Nat → Int32)) (t : (Nat → Int32)) (W : (Nat → Nat → Int32)) (LF : (Nat → Nat → Int32)) (KF : (Nat → Nat → Int32)) (i : Int32) : Prop := (((f_X4_isWay s r t W LF KF i) = 0 → True) ∧ (¬ ((f_X4_isWay s r t W LF KF i) = 0) → (vp_in i 4 ∧ ((h_X4_probe_22 W i (f_X3_isNarrowed (W (i.toNatClampNeg)))) ∧ True))))
set_option maxRecDepth 100000 in
set_option maxHeartbeats 4000000 in
theorem C_X4_probe (G : xG) (h : xH) (g : Nat) (s : (Nat → Int32)) (r : (Nat → Int32)) (t : (Nat → Int32)) (W : (Nat → Nat → Int32)) (LF : (Nat → Nat → Int32)) (KF : (Nat → Nat → Int32)) (i : Int32) (k_g : hAt h g = some (gpC (g + 1) (g + 3) (g + 18) (g + 33) (g + 34) (g + 37) s)) (k_g3 : nk h (g + 3) r t W LF KF) (hp : p_X4_probe s r t W LF KF i) : Ct G 1 0 0 yX4_probe cX4_probe 2 (some .int) [.ref g, .int i] h (fun v' h' => v' = (some (.int (f_X4_probe s r t W LF KF i))) ∧ h' = h) := by
  refine Ct.of (by decide) (by rfl) ?_
  refine Wp.eqs (L' := [(0, .ref g), (1, .int i)]) (st' := []) rfl rfl ?_
  obtain ⟨R, er⟩ : ∃ R, f_X4_probe s r t W LF KF i = R := ⟨_, rfl⟩
  rw [er]
  unfold f_X4_probe at er
  unfold p_X4_probe at hp
  refine x_aload_n (pc := 0) dX4_probe_0 rfl ?_
  refine x_iload_n (pc := 1) dX4_probe_1 rfl ?_
  refine x_cV1i (pc := 2) dX4_probe_2 xl_X4_101 xv_X4_isWay k_g rfl (C_X4_isWay G _ g s r t W LF KF i k_g k_g3) rfl rfl rfl ?_
  obtain ⟨F1, eF1⟩ : ∃ F, f_X4_isWay s r t W LF KF i = F := ⟨_, rfl⟩
  rw [eF1]
  try rw [eF1] at er
  try rw [eF1] at hp
  have bF1 : xB F1 := by rw [← eF1]; exact (B_X4_isWay _ _ _ _ _ _ _)
  refine x_if_ne (pc := 5) (tgt := 10) dX4_probe_5 (by decide) (fun (c1 : ¬ (F1 = 0)) => ?_) (fun (c1 : F1 = 0) => ?_)
  · rw [if_neg c1] at er
    replace hp := hp.2 c1
    refine x_aload_n (pc := 10) dX4_probe_10 rfl ?_
    refine x_getf (pc := 11) (v := .ref (g + 3)) dX4_probe_11 xf_X4_19 k_g rfl ?_
    refine x_getf (pc := 14) (v := .ref ((g + 3) + 2)) dX4_probe_14 xf_X4_90 (nk_nt k_g3) rfl ?_
    refine x_iload_n (pc := 17) dX4_probe_17 rfl ?_
    obtain ⟨q18, hp⟩ := hp
    have hj1 : (i.toNatClampNeg) < 4 := vp_lt q18
    refine x_aald (pc := 18) (t := 3) (Cn := RX3) (b := ((g + 3) + 3 + 3 * (i.toNatClampNeg))) rfl dX4_probe_18 (nk_wy k_g3) q18 rfl ?_
    refine x_cV0i (pc := 19) dX4_probe_19 xl_X4_137 xv_X3_isNarrowed (nk_wa k_g3 hj1) rfl (C_X3_isNarrowed G _ ((g + 3) + 3 + 3 * (i.toNatClampNeg)) ((g + 3) + 4 + 3 * (i.toNatClampNeg)) ((g + 3) + 5 + 3 * (i.toNatClampNeg)) (W (i.toNatClampNeg)) (nk_wa k_g3 hj1)) rfl rfl rfl ?_
    obtain ⟨F2, eF2⟩ : ∃ F, f_X3_isNarrowed (W (i.toNatClampNeg)) = F := ⟨_, rfl⟩
    rw [eF2]
    try rw [eF2] at er
    try rw [eF2] at hp
    have bF2 : xB F2 := by rw [← eF2]; exact (B_X3_isNarrowed _)
    obtain ⟨qr22, hp⟩ := hp
    obtain ⟨F5, eF5⟩ : ∃ F, g_X4_probe_22 W i F2 = F := ⟨_, rfl⟩
    try rw [eF5] at er
    try rw [eF5] at hp
    refine x_mrg (pc' := 42) (L' := [(0, .ref g), (1, .int i)]) (st' := [.int F5]) (h' := h) (fun J => ?_) ?_
    · unfold g_X4_probe_22 at eF5
      unfold h_X4_probe_22 at qr22
      try rw [eF1] at eF5
      try rw [eF1] at qr22
      try rw [eF2] at eF5
      try rw [eF2] at qr22
      refine x_if_eq (pc := 22) (tgt := 30) dX4_probe_22 (by decide) (fun (c3 : F2 = 0) => ?_) (fun (c3 : ¬ (F2 = 0)) => ?_)
      · rw [if_pos c3] at eF5
        replace qr22 := qr22.1 c3
        refine x_aload_n (pc := 30) dX4_probe_30 rfl ?_
        refine x_getf (pc := 31) (v := .ref (g + 3)) dX4_probe_31 xf_X4_19 k_g rfl ?_
        refine x_getf (pc := 34) (v := .ref ((g + 3) + 2)) dX4_probe_34 xf_X4_90 (nk_nt k_g3) rfl ?_
        refine x_iload_n (pc := 37) dX4_probe_37 rfl ?_
        obtain ⟨q38, qr22⟩ := qr22
        have hj3 : (i.toNatClampNeg) < 4 := vp_lt q38
        refine x_aald (pc := 38) (t := 3) (Cn := RX3) (b := ((g + 3) + 3 + 3 * (i.toNatClampNeg))) rfl dX4_probe_38 (nk_wy k_g3) q38 rfl ?_
        refine x_cV0i (pc := 39) dX4_probe_39 xl_X4_141 xv_X3_probeSize (nk_wa k_g3 hj3) rfl (C_X3_probeSize G _ ((g + 3) + 3 + 3 * (i.toNatClampNeg)) ((g + 3) + 4 + 3 * (i.toNatClampNeg)) ((g + 3) + 5 + 3 * (i.toNatClampNeg)) (W (i.toNatClampNeg)) (nk_wa k_g3 hj3)) rfl rfl rfl ?_
        obtain ⟨F4, eF4⟩ : ∃ F, f_X3_probeSize (W (i.toNatClampNeg)) = F := ⟨_, rfl⟩
        rw [eF4]
        try rw [eF4] at eF5
        try rw [eF4] at qr22
        subst eF5
        exact J
      · rw [if_neg c3] at eF5
        replace qr22 := qr22.2 c3
        refine x_bipush (pc := 25) (v := (-4 : Int32)) dX4_probe_25 (by decide) ?_
        refine x_goto (pc := 27) (tgt := 42) dX4_probe_27 (by decide) ?_
        subst eF5
        exact J
    subst er
    exact x_iret (pc := 42) dX4_probe_42 rfl rfl rfl rfl ⟨rfl, rfl⟩
  · rw [if_pos c1] at er
    replace hp := hp.1 c1
    refine x_iconst (pc := 8) (v := (-1 : Int32)) dX4_probe_8 (by decide) ?_
    subst er
    exact x_iret (pc := 9) dX4_probe_9 rfl rfl rfl rfl ⟨rfl, rfl⟩

def f_X4_padding (s : (Nat → Int32)) (r : (Nat → Int32)) (t : (Nat → Int32)) (W : (Nat → Nat → Int32)) (LF : (Nat → Nat → Int32)) (KF : (Nat → Nat → Int32)) (i c : Int32) : Int32 := (if (f_X4_isWay s r t W LF KF i) = 0 then (-1 : Int32) else (if (f_X4_isBetween c (0 : Int32) (999 : Int32)) = 0 then (-1 : Int32) else (if (f_X3_isNarrowed (W (i.toNatClampNeg))) = 0 then ((if c ≤ (f_X3_probeSize (W (i.toNatClampNeg))) then ((f_X3_probeSize (W (i.toNatClampNeg))) - c) else (-2 : Int32))) else (-4 : Int32))))
def p_X4_padding (s : (Nat → Int32)) (r : (Nat → Int32)) (t : (Nat → Int32)) (W : (Nat → Nat → Int32)) (LF : (Nat → Nat → Int32)) (KF : (Nat → Nat → Int32)) (i c : Int32) : Prop := (((f_X4_isWay s r t W LF KF i) = 0 → True) ∧ (¬ ((f_X4_isWay s r t W LF KF i) = 0) → (((f_X4_isBetween c (0 : Int32) (999 : Int32)) = 0 → True) ∧ (¬ ((f_X4_isBetween c (0 : Int32) (999 : Int32)) = 0) → (vp_in i 4 ∧ (((f_X3_isNarrowed (W (i.toNatClampNeg))) = 0 → (vp_in i 4 ∧ True)) ∧ (¬ ((f_X3_isNarrowed (W (i.toNatClampNeg))) = 0) → True)))))))
set_option maxRecDepth 100000 in
set_option maxHeartbeats 4000000 in
theorem C_X4_padding (G : xG) (h : xH) (g : Nat) (s : (Nat → Int32)) (r : (Nat → Int32)) (t : (Nat → Int32)) (W : (Nat → Nat → Int32)) (LF : (Nat → Nat → Int32)) (KF : (Nat → Nat → Int32)) (i c : Int32) (k_g : hAt h g = some (gpC (g + 1) (g + 3) (g + 18) (g + 33) (g + 34) (g + 37) s)) (k_g3 : nk h (g + 3) r t W LF KF) (hp : p_X4_padding s r t W LF KF i c) : Ct G 1 0 0 yX4_padding cX4_padding 4 (some .int) [.ref g, .int i, .int c] h (fun v' h' => v' = (some (.int (f_X4_padding s r t W LF KF i c))) ∧ h' = h) := by
  refine Ct.of (by decide) (by rfl) ?_
  refine Wp.eqs (L' := [(0, .ref g), (1, .int i), (2, .int c)]) (st' := []) rfl rfl ?_
  obtain ⟨R, er⟩ : ∃ R, f_X4_padding s r t W LF KF i c = R := ⟨_, rfl⟩
  rw [er]
  unfold f_X4_padding at er
  unfold p_X4_padding at hp
  refine x_aload_n (pc := 0) dX4_padding_0 rfl ?_
  refine x_iload_n (pc := 1) dX4_padding_1 rfl ?_
  refine x_cV1i (pc := 2) dX4_padding_2 xl_X4_101 xv_X4_isWay k_g rfl (C_X4_isWay G _ g s r t W LF KF i k_g k_g3) rfl rfl rfl ?_
  obtain ⟨F1, eF1⟩ : ∃ F, f_X4_isWay s r t W LF KF i = F := ⟨_, rfl⟩
  rw [eF1]
  try rw [eF1] at er
  try rw [eF1] at hp
  have bF1 : xB F1 := by rw [← eF1]; exact (B_X4_isWay _ _ _ _ _ _ _)
  refine x_if_eq (pc := 5) (tgt := 19) dX4_padding_5 (by decide) (fun (c1 : F1 = 0) => ?_) (fun (c1 : ¬ (F1 = 0)) => ?_)
  · rw [if_pos c1] at er
    replace hp := hp.1 c1
    refine x_iconst (pc := 19) (v := (-1 : Int32)) dX4_padding_19 (by decide) ?_
    subst er
    exact x_iret (pc := 20) dX4_padding_20 rfl rfl rfl rfl ⟨rfl, rfl⟩
  · rw [if_neg c1] at er
    replace hp := hp.2 c1
    refine x_iload_n (pc := 8) dX4_padding_8 rfl ?_
    refine x_iconst (pc := 9) (v := (0 : Int32)) dX4_padding_9 (by decide) ?_
    refine x_sipush (pc := 10) (v := (999 : Int32)) dX4_padding_10 (by decide) ?_
    refine x_cS3i (pc := 13) dX4_padding_13 xl_X4_77 xs_X4_isBetween (C_X4_isBetween G _ c (0 : Int32) (999 : Int32)) rfl rfl rfl ?_
    obtain ⟨F2, eF2⟩ : ∃ F, f_X4_isBetween c (0 : Int32) (999 : Int32) = F := ⟨_, rfl⟩
    rw [eF2]
    try rw [eF2] at er
    try rw [eF2] at hp
    have bF2 : xB F2 := by rw [← eF2]; exact (B_X4_isBetween _ _ _)
    refine x_if_ne (pc := 16) (tgt := 21) dX4_padding_16 (by decide) (fun (c2 : ¬ (F2 = 0)) => ?_) (fun (c2 : F2 = 0) => ?_)
    · rw [if_neg c2] at er
      replace hp := hp.2 c2
      refine x_aload_n (pc := 21) dX4_padding_21 rfl ?_
      refine x_getf (pc := 22) (v := .ref (g + 3)) dX4_padding_22 xf_X4_19 k_g rfl ?_
      refine x_getf (pc := 25) (v := .ref ((g + 3) + 2)) dX4_padding_25 xf_X4_90 (nk_nt k_g3) rfl ?_
      refine x_iload_n (pc := 28) dX4_padding_28 rfl ?_
      obtain ⟨q29, hp⟩ := hp
      have hj1 : (i.toNatClampNeg) < 4 := vp_lt q29
      refine x_aald (pc := 29) (t := 3) (Cn := RX3) (b := ((g + 3) + 3 + 3 * (i.toNatClampNeg))) rfl dX4_padding_29 (nk_wy k_g3) q29 rfl ?_
      refine x_cV0i (pc := 30) dX4_padding_30 xl_X4_137 xv_X3_isNarrowed (nk_wa k_g3 hj1) rfl (C_X3_isNarrowed G _ ((g + 3) + 3 + 3 * (i.toNatClampNeg)) ((g + 3) + 4 + 3 * (i.toNatClampNeg)) ((g + 3) + 5 + 3 * (i.toNatClampNeg)) (W (i.toNatClampNeg)) (nk_wa k_g3 hj1)) rfl rfl rfl ?_
      obtain ⟨F3, eF3⟩ : ∃ F, f_X3_isNarrowed (W (i.toNatClampNeg)) = F := ⟨_, rfl⟩
      rw [eF3]
      try rw [eF3] at er
      try rw [eF3] at hp
      have bF3 : xB F3 := by rw [← eF3]; exact (B_X3_isNarrowed _)
      refine x_if_eq (pc := 33) (tgt := 39) dX4_padding_33 (by decide) (fun (c3 : F3 = 0) => ?_) (fun (c3 : ¬ (F3 = 0)) => ?_)
      · rw [if_pos c3] at er
        replace hp := hp.1 c3
        refine x_aload_n (pc := 39) dX4_padding_39 rfl ?_
        refine x_getf (pc := 40) (v := .ref (g + 3)) dX4_padding_40 xf_X4_19 k_g rfl ?_
        refine x_getf (pc := 43) (v := .ref ((g + 3) + 2)) dX4_padding_43 xf_X4_90 (nk_nt k_g3) rfl ?_
        refine x_iload_n (pc := 46) dX4_padding_46 rfl ?_
        obtain ⟨q47, hp⟩ := hp
        have hj2 : (i.toNatClampNeg) < 4 := vp_lt q47
        refine x_aald (pc := 47) (t := 3) (Cn := RX3) (b := ((g + 3) + 3 + 3 * (i.toNatClampNeg))) rfl dX4_padding_47 (nk_wy k_g3) q47 rfl ?_
        refine x_cV0i (pc := 48) dX4_padding_48 xl_X4_141 xv_X3_probeSize (nk_wa k_g3 hj2) rfl (C_X3_probeSize G _ ((g + 3) + 3 + 3 * (i.toNatClampNeg)) ((g + 3) + 4 + 3 * (i.toNatClampNeg)) ((g + 3) + 5 + 3 * (i.toNatClampNeg)) (W (i.toNatClampNeg)) (nk_wa k_g3 hj2)) rfl rfl rfl ?_
        obtain ⟨F4, eF4⟩ : ∃ F, f_X3_probeSize (W (i.toNatClampNeg)) = F := ⟨_, rfl⟩
        rw [eF4]
        try rw [eF4] at er
        try rw [eF4] at hp
        refine x_istore_n (pc := 51) (L' := [(3, .int F4), (0, .ref g), (1, .int i), (2, .int c)]) dX4_padding_51 rfl rfl ?_
        refine x_iload_n (pc := 52) dX4_padding_52 rfl ?_
        refine x_iload_n (pc := 53) dX4_padding_53 rfl ?_
        obtain ⟨F5, eF5⟩ : ∃ F, (if c ≤ F4 then (F4 - c) else (-2 : Int32)) = F := ⟨_, rfl⟩
        try rw [eF5] at er
        try rw [eF5] at hp
        refine x_mrg (pc' := 65) (L' := [(3, .int F4), (0, .ref g), (1, .int i), (2, .int c)]) (st' := [.int F5]) (h' := h) (fun J => ?_) ?_
        · refine x_icmp_le (pc := 54) (tgt := 62) dX4_padding_54 (by decide) (fun (c4 : c ≤ F4) => ?_) (fun (c4 : ¬ (c ≤ F4)) => ?_)
          · refine x_iload_n (pc := 62) dX4_padding_62 rfl ?_
            refine x_iload_n (pc := 63) dX4_padding_63 rfl ?_
            refine x_isub (pc := 64) dX4_padding_64 ?_
            rw [if_pos c4] at eF5
            subst eF5
            exact J
          · refine x_bipush (pc := 57) (v := (-2 : Int32)) dX4_padding_57 (by decide) ?_
            refine x_goto (pc := 59) (tgt := 65) dX4_padding_59 (by decide) ?_
            rw [if_neg c4] at eF5
            subst eF5
            exact J
        subst er
        exact x_iret (pc := 65) dX4_padding_65 rfl rfl rfl rfl ⟨rfl, rfl⟩
      · rw [if_neg c3] at er
        replace hp := hp.2 c3
        refine x_bipush (pc := 36) (v := (-4 : Int32)) dX4_padding_36 (by decide) ?_
        subst er
        exact x_iret (pc := 38) dX4_padding_38 rfl rfl rfl rfl ⟨rfl, rfl⟩
    · rw [if_pos c2] at er
      replace hp := hp.1 c2
      refine x_iconst (pc := 19) (v := (-1 : Int32)) dX4_padding_19 (by decide) ?_
      subst er
      exact x_iret (pc := 20) dX4_padding_20 rfl rfl rfl rfl ⟨rfl, rfl⟩

def g_X4_meets_31 (W : (Nat → Nat → Int32)) (LF : (Nat → Nat → Int32)) (KF : (Nat → Nat → Int32)) (i : Int32) (size : Int32) (what : Int32) : Int32 := (if what = 0 then (f_X3_meeting (W (i.toNatClampNeg)) (LF (i.toNatClampNeg)) (KF (i.toNatClampNeg)) size) else (f_X3_dropper (W (i.toNatClampNeg)) (LF (i.toNatClampNeg)) size))
def h_X4_meets_31 (W : (Nat → Nat → Int32)) (LF : (Nat → Nat → Int32)) (KF : (Nat → Nat → Int32)) (i : Int32) (size : Int32) (what : Int32) : Prop := ((what = 0 → (vp_in i 4 ∧ (p_X3_meeting (W (i.toNatClampNeg)) (LF (i.toNatClampNeg)) (KF (i.toNatClampNeg)) size ∧ True))) ∧ (¬ (what = 0) → (vp_in i 4 ∧ (p_X3_dropper (W (i.toNatClampNeg)) (LF (i.toNatClampNeg)) size ∧ True))))
def f_X4_meets (s : (Nat → Int32)) (r : (Nat → Int32)) (t : (Nat → Int32)) (W : (Nat → Nat → Int32)) (LF : (Nat → Nat → Int32)) (KF : (Nat → Nat → Int32)) (i size what : Int32) : Int32 := (if (f_X4_isWay s r t W LF KF i) = 0 then (-1 : Int32) else (if (f_X4_isBetween size (1 : Int32) (999 : Int32)) = 0 then (-1 : Int32) else (if (f_X4_isBetween what (0 : Int32) (1 : Int32)) = 0 then (-1 : Int32) else (g_X4_meets_31 W LF KF i size what))))
def p_X4_meets (s : (Nat → Int32)) (r : (Nat → Int32)) (t : (Nat → Int32)) (W : (Nat → Nat → Int32)) (LF : (Nat → Nat → Int32)) (KF : (Nat → Nat → Int32)) (i size what : Int32) : Prop := (((f_X4_isWay s r t W LF KF i) = 0 → True) ∧ (¬ ((f_X4_isWay s r t W LF KF i) = 0) → (((f_X4_isBetween size (1 : Int32) (999 : Int32)) = 0 → True) ∧ (¬ ((f_X4_isBetween size (1 : Int32) (999 : Int32)) = 0) → (((f_X4_isBetween what (0 : Int32) (1 : Int32)) = 0 → True) ∧ (¬ ((f_X4_isBetween what (0 : Int32) (1 : Int32)) = 0) → ((h_X4_meets_31 W LF KF i size what) ∧ True)))))))
set_option maxRecDepth 100000 in
set_option maxHeartbeats 4000000 in
theorem C_X4_meets (G : xG) (h : xH) (g : Nat) (s : (Nat → Int32)) (r : (Nat → Int32)) (t : (Nat → Int32)) (W : (Nat → Nat → Int32)) (LF : (Nat → Nat → Int32)) (KF : (Nat → Nat → Int32)) (i size what : Int32) (k_g : hAt h g = some (gpC (g + 1) (g + 3) (g + 18) (g + 33) (g + 34) (g + 37) s)) (k_g3 : nk h (g + 3) r t W LF KF) (hp : p_X4_meets s r t W LF KF i size what) : Ct G 2 0 0 yX4_meets cX4_meets 4 (some .int) [.ref g, .int i, .int size, .int what] h (fun v' h' => v' = (some (.int (f_X4_meets s r t W LF KF i size what))) ∧ h' = h) := by
  refine Ct.of (by decide) (by rfl) ?_
  refine Wp.eqs (L' := [(0, .ref g), (1, .int i), (2, .int size), (3, .int what)]) (st' := []) rfl rfl ?_
  obtain ⟨R, er⟩ : ∃ R, f_X4_meets s r t W LF KF i size what = R := ⟨_, rfl⟩
  rw [er]
  unfold f_X4_meets at er
  unfold p_X4_meets at hp
  refine x_aload_n (pc := 0) dX4_meets_0 rfl ?_
  refine x_iload_n (pc := 1) dX4_meets_1 rfl ?_
  refine x_cV1i (pc := 2) dX4_meets_2 xl_X4_101 xv_X4_isWay k_g rfl (C_X4_isWay G _ g s r t W LF KF i k_g k_g3) rfl rfl rfl ?_
  obtain ⟨F1, eF1⟩ : ∃ F, f_X4_isWay s r t W LF KF i = F := ⟨_, rfl⟩
  rw [eF1]
  try rw [eF1] at er
  try rw [eF1] at hp
  have bF1 : xB F1 := by rw [← eF1]; exact (B_X4_isWay _ _ _ _ _ _ _)
  refine x_if_eq (pc := 5) (tgt := 28) dX4_meets_5 (by decide) (fun (c1 : F1 = 0) => ?_) (fun (c1 : ¬ (F1 = 0)) => ?_)
  · rw [if_pos c1] at er
    replace hp := hp.1 c1
    refine x_iconst (pc := 28) (v := (-1 : Int32)) dX4_meets_28 (by decide) ?_
    subst er
    exact x_iret (pc := 29) dX4_meets_29 rfl rfl rfl rfl ⟨rfl, rfl⟩
  · rw [if_neg c1] at er
    replace hp := hp.2 c1
    refine x_iload_n (pc := 8) dX4_meets_8 rfl ?_
    refine x_iconst (pc := 9) (v := (1 : Int32)) dX4_meets_9 (by decide) ?_
    refine x_sipush (pc := 10) (v := (999 : Int32)) dX4_meets_10 (by decide) ?_
    refine x_cS3i (pc := 13) dX4_meets_13 xl_X4_77 xs_X4_isBetween (C_X4_isBetween G _ size (1 : Int32) (999 : Int32)) rfl rfl rfl ?_
    obtain ⟨F2, eF2⟩ : ∃ F, f_X4_isBetween size (1 : Int32) (999 : Int32) = F := ⟨_, rfl⟩
    rw [eF2]
    try rw [eF2] at er
    try rw [eF2] at hp
    have bF2 : xB F2 := by rw [← eF2]; exact (B_X4_isBetween _ _ _)
    refine x_if_eq (pc := 16) (tgt := 28) dX4_meets_16 (by decide) (fun (c2 : F2 = 0) => ?_) (fun (c2 : ¬ (F2 = 0)) => ?_)
    · rw [if_pos c2] at er
      replace hp := hp.1 c2
      refine x_iconst (pc := 28) (v := (-1 : Int32)) dX4_meets_28 (by decide) ?_
      subst er
      exact x_iret (pc := 29) dX4_meets_29 rfl rfl rfl rfl ⟨rfl, rfl⟩
    · rw [if_neg c2] at er
      replace hp := hp.2 c2
      refine x_iload_n (pc := 19) dX4_meets_19 rfl ?_
      refine x_iconst (pc := 20) (v := (0 : Int32)) dX4_meets_20 (by decide) ?_
      refine x_iconst (pc := 21) (v := (1 : Int32)) dX4_meets_21 (by decide) ?_
      refine x_cS3i (pc := 22) dX4_meets_22 xl_X4_77 xs_X4_isBetween (C_X4_isBetween G _ what (0 : Int32) (1 : Int32)) rfl rfl rfl ?_
      obtain ⟨F3, eF3⟩ : ∃ F, f_X4_isBetween what (0 : Int32) (1 : Int32) = F := ⟨_, rfl⟩
      rw [eF3]
      try rw [eF3] at er
      try rw [eF3] at hp
      have bF3 : xB F3 := by rw [← eF3]; exact (B_X4_isBetween _ _ _)
      refine x_if_ne (pc := 25) (tgt := 30) dX4_meets_25 (by decide) (fun (c3 : ¬ (F3 = 0)) => ?_) (fun (c3 : F3 = 0) => ?_)
      · rw [if_neg c3] at er
        replace hp := hp.2 c3
        refine x_iload_n (pc := 30) dX4_meets_30 rfl ?_
        obtain ⟨qr31, hp⟩ := hp
        obtain ⟨F8, eF8⟩ : ∃ F, g_X4_meets_31 W LF KF i size what = F := ⟨_, rfl⟩
        try rw [eF8] at er
        try rw [eF8] at hp
        refine x_mrg (pc' := 63) (L' := [(0, .ref g), (1, .int i), (2, .int size), (3, .int what)]) (st' := [.int F8]) (h' := h) (fun J => ?_) ?_
        · unfold g_X4_meets_31 at eF8
          unfold h_X4_meets_31 at qr31
          try rw [eF1] at eF8
          try rw [eF1] at qr31
          try rw [eF2] at eF8
          try rw [eF2] at qr31
          try rw [eF3] at eF8
          try rw [eF3] at qr31
          refine x_if_ne (pc := 31) (tgt := 50) dX4_meets_31 (by decide) (fun (c5 : ¬ (what = 0)) => ?_) (fun (c5 : what = 0) => ?_)
          · rw [if_neg c5] at eF8
            replace qr31 := qr31.2 c5
            refine x_aload_n (pc := 50) dX4_meets_50 rfl ?_
            refine x_getf (pc := 51) (v := .ref (g + 3)) dX4_meets_51 xf_X4_19 k_g rfl ?_
            refine x_getf (pc := 54) (v := .ref ((g + 3) + 2)) dX4_meets_54 xf_X4_90 (nk_nt k_g3) rfl ?_
            refine x_iload_n (pc := 57) dX4_meets_57 rfl ?_
            obtain ⟨q58, qr31⟩ := qr31
            have hj3 : (i.toNatClampNeg) < 4 := vp_lt q58
            refine x_aald (pc := 58) (t := 3) (Cn := RX3) (b := ((g + 3) + 3 + 3 * (i.toNatClampNeg))) rfl dX4_meets_58 (nk_wy k_g3) q58 rfl ?_
            refine x_iload_n (pc := 59) dX4_meets_59 rfl ?_
            obtain ⟨q60, qr31⟩ := qr31
            refine x_cV1i (pc := 60) dX4_meets_60 xl_X4_147 xv_X3_dropper (nk_wa k_g3 hj3) rfl (C_X3_dropper G _ ((g + 3) + 3 + 3 * (i.toNatClampNeg)) ((g + 3) + 4 + 3 * (i.toNatClampNeg)) ((g + 3) + 5 + 3 * (i.toNatClampNeg)) (W (i.toNatClampNeg)) (LF (i.toNatClampNeg)) size (nk_wa k_g3 hj3) (nk_la k_g3 hj3) q60) rfl rfl rfl ?_
            obtain ⟨F6, eF6⟩ : ∃ F, f_X3_dropper (W (i.toNatClampNeg)) (LF (i.toNatClampNeg)) size = F := ⟨_, rfl⟩
            rw [eF6]
            try rw [eF6] at eF8
            try rw [eF6] at qr31
            subst eF8
            exact J
          · rw [if_pos c5] at eF8
            replace qr31 := qr31.1 c5
            refine x_aload_n (pc := 34) dX4_meets_34 rfl ?_
            refine x_getf (pc := 35) (v := .ref (g + 3)) dX4_meets_35 xf_X4_19 k_g rfl ?_
            refine x_getf (pc := 38) (v := .ref ((g + 3) + 2)) dX4_meets_38 xf_X4_90 (nk_nt k_g3) rfl ?_
            refine x_iload_n (pc := 41) dX4_meets_41 rfl ?_
            obtain ⟨q42, qr31⟩ := qr31
            have hj4 : (i.toNatClampNeg) < 4 := vp_lt q42
            refine x_aald (pc := 42) (t := 3) (Cn := RX3) (b := ((g + 3) + 3 + 3 * (i.toNatClampNeg))) rfl dX4_meets_42 (nk_wy k_g3) q42 rfl ?_
            refine x_iload_n (pc := 43) dX4_meets_43 rfl ?_
            obtain ⟨q44, qr31⟩ := qr31
            refine x_cV1i (pc := 44) dX4_meets_44 xl_X4_144 xv_X3_meeting (nk_wa k_g3 hj4) rfl (C_X3_meeting G _ ((g + 3) + 3 + 3 * (i.toNatClampNeg)) ((g + 3) + 4 + 3 * (i.toNatClampNeg)) ((g + 3) + 5 + 3 * (i.toNatClampNeg)) (W (i.toNatClampNeg)) (LF (i.toNatClampNeg)) (KF (i.toNatClampNeg)) size (nk_wa k_g3 hj4) (nk_la k_g3 hj4) (nk_ka k_g3 hj4) q44) rfl rfl rfl ?_
            obtain ⟨F7, eF7⟩ : ∃ F, f_X3_meeting (W (i.toNatClampNeg)) (LF (i.toNatClampNeg)) (KF (i.toNatClampNeg)) size = F := ⟨_, rfl⟩
            rw [eF7]
            try rw [eF7] at eF8
            try rw [eF7] at qr31
            refine x_goto (pc := 47) (tgt := 63) dX4_meets_47 (by decide) ?_
            subst eF8
            exact J
        subst er
        exact x_iret (pc := 63) dX4_meets_63 rfl rfl rfl rfl ⟨rfl, rfl⟩
      · rw [if_pos c3] at er
        replace hp := hp.1 c3
        refine x_iconst (pc := 28) (v := (-1 : Int32)) dX4_meets_28 (by decide) ?_
        subst er
        exact x_iret (pc := 29) dX4_meets_29 rfl rfl rfl rfl ⟨rfl, rfl⟩

def f_X4_draw (s : (Nat → Int32)) (r : (Nat → Int32)) (t : (Nat → Int32)) (W : (Nat → Nat → Int32)) (LF : (Nat → Nat → Int32)) (KF : (Nat → Nat → Int32)) (i k : Int32) : Int32 := (if (f_X4_isWay s r t W LF KF i) = 0 then (-1 : Int32) else (if (f_X4_isBetween k (0 : Int32) (9999 : Int32)) = 0 then (-1 : Int32) else (f_X3_drawn (W (i.toNatClampNeg)) r k)))
def p_X4_draw (s : (Nat → Int32)) (r : (Nat → Int32)) (t : (Nat → Int32)) (W : (Nat → Nat → Int32)) (LF : (Nat → Nat → Int32)) (KF : (Nat → Nat → Int32)) (i k : Int32) : Prop := (((f_X4_isWay s r t W LF KF i) = 0 → True) ∧ (¬ ((f_X4_isWay s r t W LF KF i) = 0) → (((f_X4_isBetween k (0 : Int32) (9999 : Int32)) = 0 → True) ∧ (¬ ((f_X4_isBetween k (0 : Int32) (9999 : Int32)) = 0) → (vp_in i 4 ∧ True)))))
set_option maxRecDepth 100000 in
set_option maxHeartbeats 4000000 in
theorem C_X4_draw (G : xG) (h : xH) (g : Nat) (s : (Nat → Int32)) (r : (Nat → Int32)) (t : (Nat → Int32)) (W : (Nat → Nat → Int32)) (LF : (Nat → Nat → Int32)) (KF : (Nat → Nat → Int32)) (i k : Int32) (k_g : hAt h g = some (gpC (g + 1) (g + 3) (g + 18) (g + 33) (g + 34) (g + 37) s)) (k_g3 : nk h (g + 3) r t W LF KF) (hp : p_X4_draw s r t W LF KF i k) : Ct G 1 0 0 yX4_draw cX4_draw 3 (some .int) [.ref g, .int i, .int k] h (fun v' h' => v' = (some (.int (f_X4_draw s r t W LF KF i k))) ∧ h' = h) := by
  refine Ct.of (by decide) (by rfl) ?_
  refine Wp.eqs (L' := [(0, .ref g), (1, .int i), (2, .int k)]) (st' := []) rfl rfl ?_
  obtain ⟨R, er⟩ : ∃ R, f_X4_draw s r t W LF KF i k = R := ⟨_, rfl⟩
  rw [er]
  unfold f_X4_draw at er
  unfold p_X4_draw at hp
  refine x_aload_n (pc := 0) dX4_draw_0 rfl ?_
  refine x_iload_n (pc := 1) dX4_draw_1 rfl ?_
  refine x_cV1i (pc := 2) dX4_draw_2 xl_X4_101 xv_X4_isWay k_g rfl (C_X4_isWay G _ g s r t W LF KF i k_g k_g3) rfl rfl rfl ?_
  obtain ⟨F1, eF1⟩ : ∃ F, f_X4_isWay s r t W LF KF i = F := ⟨_, rfl⟩
  rw [eF1]
  try rw [eF1] at er
  try rw [eF1] at hp
  have bF1 : xB F1 := by rw [← eF1]; exact (B_X4_isWay _ _ _ _ _ _ _)
  refine x_if_eq (pc := 5) (tgt := 19) dX4_draw_5 (by decide) (fun (c1 : F1 = 0) => ?_) (fun (c1 : ¬ (F1 = 0)) => ?_)
  · rw [if_pos c1] at er
    replace hp := hp.1 c1
    refine x_iconst (pc := 19) (v := (-1 : Int32)) dX4_draw_19 (by decide) ?_
    subst er
    exact x_iret (pc := 20) dX4_draw_20 rfl rfl rfl rfl ⟨rfl, rfl⟩
  · rw [if_neg c1] at er
    replace hp := hp.2 c1
    refine x_iload_n (pc := 8) dX4_draw_8 rfl ?_
    refine x_iconst (pc := 9) (v := (0 : Int32)) dX4_draw_9 (by decide) ?_
    refine x_sipush (pc := 10) (v := (9999 : Int32)) dX4_draw_10 (by decide) ?_
    refine x_cS3i (pc := 13) dX4_draw_13 xl_X4_77 xs_X4_isBetween (C_X4_isBetween G _ k (0 : Int32) (9999 : Int32)) rfl rfl rfl ?_
    obtain ⟨F2, eF2⟩ : ∃ F, f_X4_isBetween k (0 : Int32) (9999 : Int32) = F := ⟨_, rfl⟩
    rw [eF2]
    try rw [eF2] at er
    try rw [eF2] at hp
    have bF2 : xB F2 := by rw [← eF2]; exact (B_X4_isBetween _ _ _)
    refine x_if_ne (pc := 16) (tgt := 21) dX4_draw_16 (by decide) (fun (c2 : ¬ (F2 = 0)) => ?_) (fun (c2 : F2 = 0) => ?_)
    · rw [if_neg c2] at er
      replace hp := hp.2 c2
      refine x_aload_n (pc := 21) dX4_draw_21 rfl ?_
      refine x_getf (pc := 22) (v := .ref (g + 3)) dX4_draw_22 xf_X4_19 k_g rfl ?_
      refine x_getf (pc := 25) (v := .ref ((g + 3) + 2)) dX4_draw_25 xf_X4_90 (nk_nt k_g3) rfl ?_
      refine x_iload_n (pc := 28) dX4_draw_28 rfl ?_
      obtain ⟨q29, hp⟩ := hp
      have hj1 : (i.toNatClampNeg) < 4 := vp_lt q29
      refine x_aald (pc := 29) (t := 3) (Cn := RX3) (b := ((g + 3) + 3 + 3 * (i.toNatClampNeg))) rfl dX4_draw_29 (nk_wy k_g3) q29 rfl ?_
      refine x_iload_n (pc := 30) dX4_draw_30 rfl ?_
      refine x_aload_n (pc := 31) dX4_draw_31 rfl ?_
      refine x_getf (pc := 32) (v := .ref (g + 3)) dX4_draw_32 xf_X4_19 k_g rfl ?_
      refine x_getf (pc := 35) (v := .ref ((g + 3) + 1)) dX4_draw_35 xf_X4_94 (nk_nt k_g3) rfl ?_
      refine x_cV2i (pc := 38) dX4_draw_38 xl_X4_150 xv_X3_drawn (nk_wa k_g3 hj1) rfl (C_X3_drawn G _ ((g + 3) + 3 + 3 * (i.toNatClampNeg)) ((g + 3) + 1) ((g + 3) + 4 + 3 * (i.toNatClampNeg)) ((g + 3) + 5 + 3 * (i.toNatClampNeg)) (W (i.toNatClampNeg)) r k (nk_wa k_g3 hj1) (nk_ru k_g3)) rfl rfl rfl ?_
      obtain ⟨F3, eF3⟩ : ∃ F, f_X3_drawn (W (i.toNatClampNeg)) r k = F := ⟨_, rfl⟩
      rw [eF3]
      try rw [eF3] at er
      try rw [eF3] at hp
      subst er
      exact x_iret (pc := 41) dX4_draw_41 rfl rfl rfl rfl ⟨rfl, rfl⟩
    · rw [if_pos c2] at er
      replace hp := hp.1 c2
      refine x_iconst (pc := 19) (v := (-1 : Int32)) dX4_draw_19 (by decide) ?_
      subst er
      exact x_iret (pc := 20) dX4_draw_20 rfl rfl rfl rfl ⟨rfl, rfl⟩

def f_X4_ahead (s : (Nat → Int32)) (r : (Nat → Int32)) (t : (Nat → Int32)) (W : (Nat → Nat → Int32)) (LF : (Nat → Nat → Int32)) (KF : (Nat → Nat → Int32)) (tw : (Nat → Int32)) (tl : (Nat → Int32)) (tk : (Nat → Int32)) (tu : (Nat → Int32)) (nn i what : Int32) : Int32 × (Nat → Int32) × (Nat → Int32) × (Nat → Int32) × (Nat → Int32) := (if (f_X4_isBetween nn (1 : Int32) (99 : Int32)) = 0 then ((-1 : Int32), tw, tl, tk, tu) else (if (f_X4_isWay s r t W LF KF i) = 0 then ((-1 : Int32), tw, tl, tk, tu) else (if (f_X4_isBetween what (0 : Int32) (4 : Int32)) = 0 then ((-1 : Int32), tw, tl, tk, tu) else (if what = (0 : Int32) then (((f_X3_goOn (f_X4_startTrial s r t W LF KF tw tl tk tu i (r 3)).1 (f_X4_startTrial s r t W LF KF tw tl tk tu i (r 3)).2.1 (f_X4_startTrial s r t W LF KF tw tl tk tu i (r 3)).2.2.1 (f_X4_startTrial s r t W LF KF tw tl tk tu i (r 3)).2.2.2 nn) 0), (f_X3_goOn (f_X4_startTrial s r t W LF KF tw tl tk tu i (r 3)).1 (f_X4_startTrial s r t W LF KF tw tl tk tu i (r 3)).2.1 (f_X4_startTrial s r t W LF KF tw tl tk tu i (r 3)).2.2.1 (f_X4_startTrial s r t W LF KF tw tl tk tu i (r 3)).2.2.2 nn), (f_X4_startTrial s r t W LF KF tw tl tk tu i (r 3)).2.1, (f_X4_startTrial s r t W LF KF tw tl tk tu i (r 3)).2.2.1, (f_X4_startTrial s r t W LF KF tw tl tk tu i (r 3)).2.2.2) else (if what = (1 : Int32) then (((f_X3_goOn (f_X4_startTrial s r t W LF KF tw tl tk tu i (r 3)).1 (f_X4_startTrial s r t W LF KF tw tl tk tu i (r 3)).2.1 (f_X4_startTrial s r t W LF KF tw tl tk tu i (r 3)).2.2.1 (f_X4_startTrial s r t W LF KF tw tl tk tu i (r 3)).2.2.2 nn) 1), (f_X3_goOn (f_X4_startTrial s r t W LF KF tw tl tk tu i (r 3)).1 (f_X4_startTrial s r t W LF KF tw tl tk tu i (r 3)).2.1 (f_X4_startTrial s r t W LF KF tw tl tk tu i (r 3)).2.2.1 (f_X4_startTrial s r t W LF KF tw tl tk tu i (r 3)).2.2.2 nn), (f_X4_startTrial s r t W LF KF tw tl tk tu i (r 3)).2.1, (f_X4_startTrial s r t W LF KF tw tl tk tu i (r 3)).2.2.1, (f_X4_startTrial s r t W LF KF tw tl tk tu i (r 3)).2.2.2) else (if what = (2 : Int32) then (((f_X3_goOn (f_X4_startTrial s r t W LF KF tw tl tk tu i (r 3)).1 (f_X4_startTrial s r t W LF KF tw tl tk tu i (r 3)).2.1 (f_X4_startTrial s r t W LF KF tw tl tk tu i (r 3)).2.2.1 (f_X4_startTrial s r t W LF KF tw tl tk tu i (r 3)).2.2.2 nn) 2), (f_X3_goOn (f_X4_startTrial s r t W LF KF tw tl tk tu i (r 3)).1 (f_X4_startTrial s r t W LF KF tw tl tk tu i (r 3)).2.1 (f_X4_startTrial s r t W LF KF tw tl tk tu i (r 3)).2.2.1 (f_X4_startTrial s r t W LF KF tw tl tk tu i (r 3)).2.2.2 nn), (f_X4_startTrial s r t W LF KF tw tl tk tu i (r 3)).2.1, (f_X4_startTrial s r t W LF KF tw tl tk tu i (r 3)).2.2.1, (f_X4_startTrial s r t W LF KF tw tl tk tu i (r 3)).2.2.2) else (if what = (3 : Int32) then ((((f_X3_goOn (f_X4_startTrial s r t W LF KF tw tl tk tu i (r 3)).1 (f_X4_startTrial s r t W LF KF tw tl tk tu i (r 3)).2.1 (f_X4_startTrial s r t W LF KF tw tl tk tu i (r 3)).2.2.1 (f_X4_startTrial s r t W LF KF tw tl tk tu i (r 3)).2.2.2 nn) 6) - ((W (i.toNatClampNeg)) 6)), (f_X3_goOn (f_X4_startTrial s r t W LF KF tw tl tk tu i (r 3)).1 (f_X4_startTrial s r t W LF KF tw tl tk tu i (r 3)).2.1 (f_X4_startTrial s r t W LF KF tw tl tk tu i (r 3)).2.2.1 (f_X4_startTrial s r t W LF KF tw tl tk tu i (r 3)).2.2.2 nn), (f_X4_startTrial s r t W LF KF tw tl tk tu i (r 3)).2.1, (f_X4_startTrial s r t W LF KF tw tl tk tu i (r 3)).2.2.1, (f_X4_startTrial s r t W LF KF tw tl tk tu i (r 3)).2.2.2) else ((((f_X3_goOn (f_X4_startTrial s r t W LF KF tw tl tk tu i (r 3)).1 (f_X4_startTrial s r t W LF KF tw tl tk tu i (r 3)).2.1 (f_X4_startTrial s r t W LF KF tw tl tk tu i (r 3)).2.2.1 (f_X4_startTrial s r t W LF KF tw tl tk tu i (r 3)).2.2.2 nn) 8) - ((W (i.toNatClampNeg)) 8)), (f_X3_goOn (f_X4_startTrial s r t W LF KF tw tl tk tu i (r 3)).1 (f_X4_startTrial s r t W LF KF tw tl tk tu i (r 3)).2.1 (f_X4_startTrial s r t W LF KF tw tl tk tu i (r 3)).2.2.1 (f_X4_startTrial s r t W LF KF tw tl tk tu i (r 3)).2.2.2 nn), (f_X4_startTrial s r t W LF KF tw tl tk tu i (r 3)).2.1, (f_X4_startTrial s r t W LF KF tw tl tk tu i (r 3)).2.2.1, (f_X4_startTrial s r t W LF KF tw tl tk tu i (r 3)).2.2.2))))))))
def p_X4_ahead (s : (Nat → Int32)) (r : (Nat → Int32)) (t : (Nat → Int32)) (W : (Nat → Nat → Int32)) (LF : (Nat → Nat → Int32)) (KF : (Nat → Nat → Int32)) (tw : (Nat → Int32)) (tl : (Nat → Int32)) (tk : (Nat → Int32)) (tu : (Nat → Int32)) (nn i what : Int32) : Prop := (((f_X4_isBetween nn (1 : Int32) (99 : Int32)) = 0 → True) ∧ (¬ ((f_X4_isBetween nn (1 : Int32) (99 : Int32)) = 0) → (((f_X4_isWay s r t W LF KF i) = 0 → True) ∧ (¬ ((f_X4_isWay s r t W LF KF i) = 0) → (((f_X4_isBetween what (0 : Int32) (4 : Int32)) = 0 → True) ∧ (¬ ((f_X4_isBetween what (0 : Int32) (4 : Int32)) = 0) → (p_X4_startTrial s r t W LF KF tw tl tk tu i (r 3) ∧ (p_X3_goOn (f_X4_startTrial s r t W LF KF tw tl tk tu i (r 3)).1 (f_X4_startTrial s r t W LF KF tw tl tk tu i (r 3)).2.1 (f_X4_startTrial s r t W LF KF tw tl tk tu i (r 3)).2.2.1 (f_X4_startTrial s r t W LF KF tw tl tk tu i (r 3)).2.2.2 nn ∧ ((what = (0 : Int32) → True) ∧ (¬ (what = (0 : Int32)) → ((what = (1 : Int32) → True) ∧ (¬ (what = (1 : Int32)) → ((what = (2 : Int32) → True) ∧ (¬ (what = (2 : Int32)) → ((what = (3 : Int32) → (vp_in i 4 ∧ True)) ∧ (¬ (what = (3 : Int32)) → (vp_in i 4 ∧ True)))))))))))))))))
set_option maxRecDepth 100000 in
set_option maxHeartbeats 4000000 in
theorem C_X4_ahead (G : xG) (h : xH) (g : Nat) (s : (Nat → Int32)) (r : (Nat → Int32)) (t : (Nat → Int32)) (W : (Nat → Nat → Int32)) (LF : (Nat → Nat → Int32)) (KF : (Nat → Nat → Int32)) (tw : (Nat → Int32)) (tl : (Nat → Int32)) (tk : (Nat → Int32)) (tu : (Nat → Int32)) (nn i what : Int32) (k_g : hAt h g = some (gpC (g + 1) (g + 3) (g + 18) (g + 33) (g + 34) (g + 37) s)) (k_g3 : nk h (g + 3) r t W LF KF) (k_g34 : hAt h (g + 34) = some (waC (g + 35) (g + 36) tw)) (k_g35 : hAt h (g + 35) = some (arI 6 tl)) (k_g36 : hAt h (g + 36) = some (arI 6 tk)) (k_g37 : hAt h (g + 37) = some (ruC tu)) (hp : p_X4_ahead s r t W LF KF tw tl tk tu nn i what) : Ct G 6 0 0 yX4_ahead cX4_ahead 4 (some .int) [.ref g, .int nn, .int i, .int what] h (fun v' h' => v' = (some (.int (f_X4_ahead s r t W LF KF tw tl tk tu nn i what).1)) ∧ (hAt h' (g + 34) = some (waC (g + 35) (g + 36) (f_X4_ahead s r t W LF KF tw tl tk tu nn i what).2.1)) ∧ (hAt h' (g + 35) = some (arI 6 (f_X4_ahead s r t W LF KF tw tl tk tu nn i what).2.2.1)) ∧ (hAt h' (g + 36) = some (arI 6 (f_X4_ahead s r t W LF KF tw tl tk tu nn i what).2.2.2.1)) ∧ (hAt h' (g + 37) = some (ruC (f_X4_ahead s r t W LF KF tw tl tk tu nn i what).2.2.2.2)) ∧ fr (fun q => q = (g + 34) ∨ q = (g + 35) ∨ q = (g + 36) ∨ q = (g + 37)) h h') := by
  have u_0_1 : g ≠ (g + 34) := hne_k k_g k_g34 rfl
  have u_0_2 : g ≠ (g + 35) := hne_k k_g k_g35 rfl
  have u_0_3 : g ≠ (g + 36) := hne_k k_g k_g36 rfl
  have u_0_4 : g ≠ (g + 37) := hne_k k_g k_g37 rfl
  have u_1_2 : (g + 34) ≠ (g + 35) := hne_k k_g34 k_g35 rfl
  have u_1_3 : (g + 34) ≠ (g + 36) := hne_k k_g34 k_g36 rfl
  have u_1_4 : (g + 34) ≠ (g + 37) := hne_k k_g34 k_g37 rfl
  have u_2_4 : (g + 35) ≠ (g + 37) := hne_k k_g35 k_g37 rfl
  have u_3_4 : (g + 36) ≠ (g + 37) := hne_k k_g36 k_g37 rfl
  refine Ct.of (by decide) (by rfl) ?_
  refine Wp.eqs (L' := [(0, .ref g), (1, .int nn), (2, .int i), (3, .int what)]) (st' := []) rfl rfl ?_
  obtain ⟨R, er⟩ : ∃ R, f_X4_ahead s r t W LF KF tw tl tk tu nn i what = R := ⟨_, rfl⟩
  rw [er]
  unfold f_X4_ahead at er
  unfold p_X4_ahead at hp
  refine x_iload_n (pc := 0) dX4_ahead_0 rfl ?_
  refine x_iconst (pc := 1) (v := (1 : Int32)) dX4_ahead_1 (by decide) ?_
  refine x_bipush (pc := 2) (v := (99 : Int32)) dX4_ahead_2 (by decide) ?_
  refine x_cS3i (pc := 4) dX4_ahead_4 xl_X4_77 xs_X4_isBetween (C_X4_isBetween G _ nn (1 : Int32) (99 : Int32)) rfl rfl rfl ?_
  obtain ⟨F1, eF1⟩ : ∃ F, f_X4_isBetween nn (1 : Int32) (99 : Int32) = F := ⟨_, rfl⟩
  rw [eF1]
  try rw [eF1] at er
  try rw [eF1] at hp
  have bF1 : xB F1 := by rw [← eF1]; exact (B_X4_isBetween _ _ _)
  refine x_if_eq (pc := 7) (tgt := 27) dX4_ahead_7 (by decide) (fun (c1 : F1 = 0) => ?_) (fun (c1 : ¬ (F1 = 0)) => ?_)
  · rw [if_pos c1] at er
    replace hp := hp.1 c1
    refine x_iconst (pc := 27) (v := (-1 : Int32)) dX4_ahead_27 (by decide) ?_
    subst er
    exact x_iret (pc := 28) dX4_ahead_28 rfl rfl rfl rfl ⟨rfl, k_g34, k_g35, k_g36, k_g37, fr_refl⟩
  · rw [if_neg c1] at er
    replace hp := hp.2 c1
    refine x_aload_n (pc := 10) dX4_ahead_10 rfl ?_
    refine x_iload_n (pc := 11) dX4_ahead_11 rfl ?_
    refine x_cV1i (pc := 12) dX4_ahead_12 xl_X4_101 xv_X4_isWay k_g rfl (C_X4_isWay G _ g s r t W LF KF i k_g k_g3) rfl rfl rfl ?_
    obtain ⟨F2, eF2⟩ : ∃ F, f_X4_isWay s r t W LF KF i = F := ⟨_, rfl⟩
    rw [eF2]
    try rw [eF2] at er
    try rw [eF2] at hp
    have bF2 : xB F2 := by rw [← eF2]; exact (B_X4_isWay _ _ _ _ _ _ _)
    refine x_if_eq (pc := 15) (tgt := 27) dX4_ahead_15 (by decide) (fun (c2 : F2 = 0) => ?_) (fun (c2 : ¬ (F2 = 0)) => ?_)
    · rw [if_pos c2] at er
      replace hp := hp.1 c2
      refine x_iconst (pc := 27) (v := (-1 : Int32)) dX4_ahead_27 (by decide) ?_
      subst er
      exact x_iret (pc := 28) dX4_ahead_28 rfl rfl rfl rfl ⟨rfl, k_g34, k_g35, k_g36, k_g37, fr_refl⟩
    · rw [if_neg c2] at er
      replace hp := hp.2 c2
      refine x_iload_n (pc := 18) dX4_ahead_18 rfl ?_
      refine x_iconst (pc := 19) (v := (0 : Int32)) dX4_ahead_19 (by decide) ?_
      refine x_iconst (pc := 20) (v := (4 : Int32)) dX4_ahead_20 (by decide) ?_
      refine x_cS3i (pc := 21) dX4_ahead_21 xl_X4_77 xs_X4_isBetween (C_X4_isBetween G _ what (0 : Int32) (4 : Int32)) rfl rfl rfl ?_
      obtain ⟨F3, eF3⟩ : ∃ F, f_X4_isBetween what (0 : Int32) (4 : Int32) = F := ⟨_, rfl⟩
      rw [eF3]
      try rw [eF3] at er
      try rw [eF3] at hp
      have bF3 : xB F3 := by rw [← eF3]; exact (B_X4_isBetween _ _ _)
      refine x_if_ne (pc := 24) (tgt := 29) dX4_ahead_24 (by decide) (fun (c3 : ¬ (F3 = 0)) => ?_) (fun (c3 : F3 = 0) => ?_)
      · rw [if_neg c3] at er
        replace hp := hp.2 c3
        refine x_aload_n (pc := 29) dX4_ahead_29 rfl ?_
        refine x_iload_n (pc := 30) dX4_ahead_30 rfl ?_
        refine x_aload_n (pc := 31) dX4_ahead_31 rfl ?_
        refine x_getf (pc := 32) (v := .ref (g + 3)) dX4_ahead_32 xf_X4_19 k_g rfl ?_
        refine x_getf (pc := 35) (v := .ref ((g + 3) + 1)) dX4_ahead_35 xf_X4_94 (nk_nt k_g3) rfl ?_
        refine x_getf (pc := 38) (v := .int (r 3)) dX4_ahead_38 xf_X4_127 (nk_ru k_g3) rfl ?_
        obtain ⟨q41, hp⟩ := hp
        refine x_cVQ (pc := 41) (As := [.int i, .int (r 3)]) (rest := []) dX4_ahead_41 xl_X4_153 xv_X4_startTrial k_g rfl rfl rfl rfl rfl rfl (C_X4_startTrial G _ g s r t W LF KF tw tl tk tu i (r 3) k_g k_g3 k_g34 k_g35 k_g36 k_g37 q41) (fun v h1 hq => ?_)
        obtain ⟨ev, z0_h1, z1_h1, z2_h1, z3_h1, g_h1⟩ := hq
        subst ev
        refine Wp.eqs (L' := [(0, .ref g), (1, .int nn), (2, .int i), (3, .int what)]) (st' := []) rfl rfl ?_
        obtain ⟨F4, eF4⟩ : ∃ F, f_X4_startTrial s r t W LF KF tw tl tk tu i (r 3) = F := ⟨_, rfl⟩
        try rw [eF4] at er
        try rw [eF4] at hp
        try rw [eF4]
        try rw [eF4] at z0_h1
        try rw [eF4] at z1_h1
        try rw [eF4] at z2_h1
        try rw [eF4] at z3_h1
        have k_g_h1 : hAt h1 g = some (gpC (g + 1) (g + 3) (g + 18) (g + 33) (g + 34) (g + 37) s) := (g_h1.2 g (show ¬ (g = (g + 34) ∨ g = (g + 35) ∨ g = (g + 36) ∨ g = (g + 37)) by omega)).trans k_g
        have k_g3_h1 : nk h1 (g + 3) r t W LF KF := nk_fr (fun q u1 u2 => g_h1.2 q (show ¬ (q = (g + 34) ∨ q = (g + 35) ∨ q = (g + 36) ∨ q = (g + 37)) by omega)) k_g3
        have k_g34_h1 : hAt h1 (g + 34) = some (waC (g + 35) (g + 36) F4.1) := z0_h1
        have k_g35_h1 : hAt h1 (g + 35) = some (arI 6 F4.2.1) := z1_h1
        have k_g36_h1 : hAt h1 (g + 36) = some (arI 6 F4.2.2.1) := z2_h1
        have k_g37_h1 : hAt h1 (g + 37) = some (ruC F4.2.2.2) := z3_h1
        have f_h1 : fr (fun q => q = (g + 34) ∨ q = (g + 35) ∨ q = (g + 36) ∨ q = (g + 37)) h h1 := fr_trans fr_refl (fr_mono (fun q (u : q = (g + 34) ∨ q = (g + 35) ∨ q = (g + 36) ∨ q = (g + 37)) => show q = (g + 34) ∨ q = (g + 35) ∨ q = (g + 36) ∨ q = (g + 37) by omega) g_h1)
        refine x_aload_n (pc := 44) dX4_ahead_44 rfl ?_
        refine x_getf (pc := 45) (v := .ref (g + 34)) dX4_ahead_45 xf_X4_33 k_g_h1 rfl ?_
        refine x_iload_n (pc := 48) dX4_ahead_48 rfl ?_
        refine x_aload_n (pc := 49) dX4_ahead_49 rfl ?_
        refine x_getf (pc := 50) (v := .ref (g + 37)) dX4_ahead_50 xf_X4_40 k_g_h1 rfl ?_
        obtain ⟨q53, hp⟩ := hp
        refine x_cV2v (pc := 53) dX4_ahead_53 xl_X4_97 xv_X3_goOn k_g34_h1 rfl (C_X3_goOn G _ (g + 34) (g + 37) (g + 35) (g + 36) F4.1 F4.2.1 F4.2.2.1 F4.2.2.2 nn k_g34_h1 k_g35_h1 k_g36_h1 k_g37_h1 q53) rfl rfl rfl ?_
        obtain ⟨F5, eF5⟩ : ∃ F, f_X3_goOn F4.1 F4.2.1 F4.2.2.1 F4.2.2.2 nn = F := ⟨_, rfl⟩
        rw [eF5]
        try rw [eF5] at er
        try rw [eF5] at hp
        obtain ⟨h2, eh2⟩ : ∃ z, z = hSet h1 (g + 34) (waC (g + 35) (g + 36) F5) := ⟨_, rfl⟩
        rw [← eh2]
        have k_g_h2 : hAt h2 g = some (gpC (g + 1) (g + 3) (g + 18) (g + 33) (g + 34) (g + 37) s) := by rw [eh2]; exact hAt_n (by omega) k_g_h1
        have k_g3_h2 : nk h2 (g + 3) r t W LF KF := by rw [eh2]; exact nk_fr1 (by omega) k_g3_h1
        have k_g34_h2 : hAt h2 (g + 34) = some (waC (g + 35) (g + 36) F5) := by rw [eh2]; exact hAt_same
        have k_g35_h2 : hAt h2 (g + 35) = some (arI 6 F4.2.1) := by rw [eh2]; exact hAt_n (by omega) k_g35_h1
        have k_g36_h2 : hAt h2 (g + 36) = some (arI 6 F4.2.2.1) := by rw [eh2]; exact hAt_n (by omega) k_g36_h1
        have k_g37_h2 : hAt h2 (g + 37) = some (ruC F4.2.2.2) := by rw [eh2]; exact hAt_n (by omega) k_g37_h1
        have f_h2 : fr (fun q => q = (g + 34) ∨ q = (g + 35) ∨ q = (g + 36) ∨ q = (g + 37)) h h2 := by rw [eh2]; exact fr_set f_h1 (show (g + 34) = (g + 34) ∨ (g + 34) = (g + 35) ∨ (g + 34) = (g + 36) ∨ (g + 34) = (g + 37) by omega)
        refine x_iload_n (pc := 56) dX4_ahead_56 rfl ?_
        by_cases c4 : what = (0 : Int32)
        · rw [if_pos c4] at er
          replace hp := hp.1 c4
          refine x_tabIn (pc := 57) (off := 31) (tgt := 88) dX4_ahead_57 (by rw [c4]; decide) (by rw [c4]; decide) (by rw [c4]; rfl) (by decide) ?_
          refine x_aload_n (pc := 88) dX4_ahead_88 rfl ?_
          refine x_getf (pc := 89) (v := .ref (g + 34)) dX4_ahead_89 xf_X4_33 k_g_h2 rfl ?_
          refine x_getf (pc := 92) (v := .int (F5 0)) dX4_ahead_92 xf_X4_157 k_g34_h2 rfl ?_
          subst er
          exact x_iret (pc := 95) dX4_ahead_95 rfl rfl rfl rfl ⟨rfl, k_g34_h2, k_g35_h2, k_g36_h2, k_g37_h2, f_h2⟩
        rw [if_neg c4] at er
        replace hp := hp.2 c4
        by_cases c5 : what = (1 : Int32)
        · rw [if_pos c5] at er
          replace hp := hp.1 c5
          refine x_tabIn (pc := 57) (off := 39) (tgt := 96) dX4_ahead_57 (by rw [c5]; decide) (by rw [c5]; decide) (by rw [c5]; rfl) (by decide) ?_
          refine x_aload_n (pc := 96) dX4_ahead_96 rfl ?_
          refine x_getf (pc := 97) (v := .ref (g + 34)) dX4_ahead_97 xf_X4_33 k_g_h2 rfl ?_
          refine x_getf (pc := 100) (v := .int (F5 1)) dX4_ahead_100 xf_X4_160 k_g34_h2 rfl ?_
          subst er
          exact x_iret (pc := 103) dX4_ahead_103 rfl rfl rfl rfl ⟨rfl, k_g34_h2, k_g35_h2, k_g36_h2, k_g37_h2, f_h2⟩
        rw [if_neg c5] at er
        replace hp := hp.2 c5
        by_cases c6 : what = (2 : Int32)
        · rw [if_pos c6] at er
          replace hp := hp.1 c6
          refine x_tabIn (pc := 57) (off := 47) (tgt := 104) dX4_ahead_57 (by rw [c6]; decide) (by rw [c6]; decide) (by rw [c6]; rfl) (by decide) ?_
          refine x_aload_n (pc := 104) dX4_ahead_104 rfl ?_
          refine x_getf (pc := 105) (v := .ref (g + 34)) dX4_ahead_105 xf_X4_33 k_g_h2 rfl ?_
          refine x_getf (pc := 108) (v := .int (F5 2)) dX4_ahead_108 xf_X4_163 k_g34_h2 rfl ?_
          subst er
          exact x_iret (pc := 111) dX4_ahead_111 rfl rfl rfl rfl ⟨rfl, k_g34_h2, k_g35_h2, k_g36_h2, k_g37_h2, f_h2⟩
        rw [if_neg c6] at er
        replace hp := hp.2 c6
        by_cases c7 : what = (3 : Int32)
        · rw [if_pos c7] at er
          replace hp := hp.1 c7
          refine x_tabIn (pc := 57) (off := 55) (tgt := 112) dX4_ahead_57 (by rw [c7]; decide) (by rw [c7]; decide) (by rw [c7]; rfl) (by decide) ?_
          refine x_aload_n (pc := 112) dX4_ahead_112 rfl ?_
          refine x_getf (pc := 113) (v := .ref (g + 34)) dX4_ahead_113 xf_X4_33 k_g_h2 rfl ?_
          refine x_getf (pc := 116) (v := .int (F5 6)) dX4_ahead_116 xf_X4_166 k_g34_h2 rfl ?_
          refine x_aload_n (pc := 119) dX4_ahead_119 rfl ?_
          refine x_getf (pc := 120) (v := .ref (g + 3)) dX4_ahead_120 xf_X4_19 k_g_h2 rfl ?_
          refine x_getf (pc := 123) (v := .ref ((g + 3) + 2)) dX4_ahead_123 xf_X4_90 (nk_nt k_g3_h2) rfl ?_
          refine x_iload_n (pc := 126) dX4_ahead_126 rfl ?_
          obtain ⟨q127, hp⟩ := hp
          have hj1 : (i.toNatClampNeg) < 4 := vp_lt q127
          refine x_aald (pc := 127) (t := 3) (Cn := RX3) (b := ((g + 3) + 3 + 3 * (i.toNatClampNeg))) rfl dX4_ahead_127 (nk_wy k_g3_h2) q127 rfl ?_
          refine x_getf (pc := 128) (v := .int ((W (i.toNatClampNeg)) 6)) dX4_ahead_128 xf_X4_166 (nk_wa k_g3_h2 hj1) rfl ?_
          refine x_isub (pc := 131) dX4_ahead_131 ?_
          subst er
          exact x_iret (pc := 132) dX4_ahead_132 rfl rfl rfl rfl ⟨rfl, k_g34_h2, k_g35_h2, k_g36_h2, k_g37_h2, f_h2⟩
        rw [if_neg c7] at er
        replace hp := hp.2 c7
        refine x_tabOut (pc := 57) (tgt := 133) dX4_ahead_57 (by have zc4 := xneL c4 (z := 0) rfl; have zc5 := xneL c5 (z := 1) rfl; have zc6 := xneL c6 (z := 2) rfl; have zc7 := xneL c7 (z := 3) rfl; omega) (by decide) ?_
        refine x_aload_n (pc := 133) dX4_ahead_133 rfl ?_
        refine x_getf (pc := 134) (v := .ref (g + 34)) dX4_ahead_134 xf_X4_33 k_g_h2 rfl ?_
        refine x_getf (pc := 137) (v := .int (F5 8)) dX4_ahead_137 xf_X4_169 k_g34_h2 rfl ?_
        refine x_aload_n (pc := 140) dX4_ahead_140 rfl ?_
        refine x_getf (pc := 141) (v := .ref (g + 3)) dX4_ahead_141 xf_X4_19 k_g_h2 rfl ?_
        refine x_getf (pc := 144) (v := .ref ((g + 3) + 2)) dX4_ahead_144 xf_X4_90 (nk_nt k_g3_h2) rfl ?_
        refine x_iload_n (pc := 147) dX4_ahead_147 rfl ?_
        obtain ⟨q148, hp⟩ := hp
        have hj2 : (i.toNatClampNeg) < 4 := vp_lt q148
        refine x_aald (pc := 148) (t := 3) (Cn := RX3) (b := ((g + 3) + 3 + 3 * (i.toNatClampNeg))) rfl dX4_ahead_148 (nk_wy k_g3_h2) q148 rfl ?_
        refine x_getf (pc := 149) (v := .int ((W (i.toNatClampNeg)) 8)) dX4_ahead_149 xf_X4_169 (nk_wa k_g3_h2 hj2) rfl ?_
        refine x_isub (pc := 152) dX4_ahead_152 ?_
        subst er
        exact x_iret (pc := 153) dX4_ahead_153 rfl rfl rfl rfl ⟨rfl, k_g34_h2, k_g35_h2, k_g36_h2, k_g37_h2, f_h2⟩
      · rw [if_pos c3] at er
        replace hp := hp.1 c3
        refine x_iconst (pc := 27) (v := (-1 : Int32)) dX4_ahead_27 (by decide) ?_
        subst er
        exact x_iret (pc := 28) dX4_ahead_28 rfl rfl rfl rfl ⟨rfl, k_g34, k_g35, k_g36, k_g37, fr_refl⟩

def f_X4_soon (s : (Nat → Int32)) (r : (Nat → Int32)) (t : (Nat → Int32)) (W : (Nat → Nat → Int32)) (LF : (Nat → Nat → Int32)) (KF : (Nat → Nat → Int32)) (tw : (Nat → Int32)) (tl : (Nat → Int32)) (tk : (Nat → Int32)) (tu : (Nat → Int32)) (i bel : Int32) : Int32 × (Nat → Int32) × (Nat → Int32) × (Nat → Int32) × (Nat → Int32) := (if (f_X4_isWay s r t W LF KF i) = 0 then ((-1 : Int32), tw, tl, tk, tu) else (if (f_X4_isBetween bel (0 : Int32) (2 : Int32)) = 0 then ((-1 : Int32), tw, tl, tk, tu) else ((f_X4_ticksUntilFound s r t W LF KF tw tl tk tu i bel).1, (f_X4_ticksUntilFound s r t W LF KF tw tl tk tu i bel).2.1, (f_X4_ticksUntilFound s r t W LF KF tw tl tk tu i bel).2.2.1, (f_X4_ticksUntilFound s r t W LF KF tw tl tk tu i bel).2.2.2.1, (f_X4_ticksUntilFound s r t W LF KF tw tl tk tu i bel).2.2.2.2)))
def p_X4_soon (s : (Nat → Int32)) (r : (Nat → Int32)) (t : (Nat → Int32)) (W : (Nat → Nat → Int32)) (LF : (Nat → Nat → Int32)) (KF : (Nat → Nat → Int32)) (tw : (Nat → Int32)) (tl : (Nat → Int32)) (tk : (Nat → Int32)) (tu : (Nat → Int32)) (i bel : Int32) : Prop := (((f_X4_isWay s r t W LF KF i) = 0 → True) ∧ (¬ ((f_X4_isWay s r t W LF KF i) = 0) → (((f_X4_isBetween bel (0 : Int32) (2 : Int32)) = 0 → True) ∧ (¬ ((f_X4_isBetween bel (0 : Int32) (2 : Int32)) = 0) → (p_X4_ticksUntilFound s r t W LF KF tw tl tk tu i bel ∧ True)))))
set_option maxRecDepth 100000 in
set_option maxHeartbeats 4000000 in
theorem C_X4_soon (G : xG) (h : xH) (g : Nat) (s : (Nat → Int32)) (r : (Nat → Int32)) (t : (Nat → Int32)) (W : (Nat → Nat → Int32)) (LF : (Nat → Nat → Int32)) (KF : (Nat → Nat → Int32)) (tw : (Nat → Int32)) (tl : (Nat → Int32)) (tk : (Nat → Int32)) (tu : (Nat → Int32)) (i bel : Int32) (k_g : hAt h g = some (gpC (g + 1) (g + 3) (g + 18) (g + 33) (g + 34) (g + 37) s)) (k_g3 : nk h (g + 3) r t W LF KF) (k_g34 : hAt h (g + 34) = some (waC (g + 35) (g + 36) tw)) (k_g35 : hAt h (g + 35) = some (arI 6 tl)) (k_g36 : hAt h (g + 36) = some (arI 6 tk)) (k_g37 : hAt h (g + 37) = some (ruC tu)) (hp : p_X4_soon s r t W LF KF tw tl tk tu i bel) : Ct G 6 0 0 yX4_soon cX4_soon 3 (some .int) [.ref g, .int i, .int bel] h (fun v' h' => v' = (some (.int (f_X4_soon s r t W LF KF tw tl tk tu i bel).1)) ∧ (hAt h' (g + 34) = some (waC (g + 35) (g + 36) (f_X4_soon s r t W LF KF tw tl tk tu i bel).2.1)) ∧ (hAt h' (g + 35) = some (arI 6 (f_X4_soon s r t W LF KF tw tl tk tu i bel).2.2.1)) ∧ (hAt h' (g + 36) = some (arI 6 (f_X4_soon s r t W LF KF tw tl tk tu i bel).2.2.2.1)) ∧ (hAt h' (g + 37) = some (ruC (f_X4_soon s r t W LF KF tw tl tk tu i bel).2.2.2.2)) ∧ fr (fun q => q = (g + 34) ∨ q = (g + 35) ∨ q = (g + 36) ∨ q = (g + 37)) h h') := by
  have u_0_1 : g ≠ (g + 34) := hne_k k_g k_g34 rfl
  have u_0_2 : g ≠ (g + 35) := hne_k k_g k_g35 rfl
  have u_0_3 : g ≠ (g + 36) := hne_k k_g k_g36 rfl
  have u_0_4 : g ≠ (g + 37) := hne_k k_g k_g37 rfl
  have u_1_2 : (g + 34) ≠ (g + 35) := hne_k k_g34 k_g35 rfl
  have u_1_3 : (g + 34) ≠ (g + 36) := hne_k k_g34 k_g36 rfl
  have u_1_4 : (g + 34) ≠ (g + 37) := hne_k k_g34 k_g37 rfl
  have u_2_4 : (g + 35) ≠ (g + 37) := hne_k k_g35 k_g37 rfl
  have u_3_4 : (g + 36) ≠ (g + 37) := hne_k k_g36 k_g37 rfl
  refine Ct.of (by decide) (by rfl) ?_
  refine Wp.eqs (L' := [(0, .ref g), (1, .int i), (2, .int bel)]) (st' := []) rfl rfl ?_
  obtain ⟨R, er⟩ : ∃ R, f_X4_soon s r t W LF KF tw tl tk tu i bel = R := ⟨_, rfl⟩
  rw [er]
  unfold f_X4_soon at er
  unfold p_X4_soon at hp
  refine x_aload_n (pc := 0) dX4_soon_0 rfl ?_
  refine x_iload_n (pc := 1) dX4_soon_1 rfl ?_
  refine x_cV1i (pc := 2) dX4_soon_2 xl_X4_101 xv_X4_isWay k_g rfl (C_X4_isWay G _ g s r t W LF KF i k_g k_g3) rfl rfl rfl ?_
  obtain ⟨F1, eF1⟩ : ∃ F, f_X4_isWay s r t W LF KF i = F := ⟨_, rfl⟩
  rw [eF1]
  try rw [eF1] at er
  try rw [eF1] at hp
  have bF1 : xB F1 := by rw [← eF1]; exact (B_X4_isWay _ _ _ _ _ _ _)
  refine x_if_eq (pc := 5) (tgt := 17) dX4_soon_5 (by decide) (fun (c1 : F1 = 0) => ?_) (fun (c1 : ¬ (F1 = 0)) => ?_)
  · rw [if_pos c1] at er
    replace hp := hp.1 c1
    refine x_iconst (pc := 17) (v := (-1 : Int32)) dX4_soon_17 (by decide) ?_
    subst er
    exact x_iret (pc := 18) dX4_soon_18 rfl rfl rfl rfl ⟨rfl, k_g34, k_g35, k_g36, k_g37, fr_refl⟩
  · rw [if_neg c1] at er
    replace hp := hp.2 c1
    refine x_iload_n (pc := 8) dX4_soon_8 rfl ?_
    refine x_iconst (pc := 9) (v := (0 : Int32)) dX4_soon_9 (by decide) ?_
    refine x_iconst (pc := 10) (v := (2 : Int32)) dX4_soon_10 (by decide) ?_
    refine x_cS3i (pc := 11) dX4_soon_11 xl_X4_77 xs_X4_isBetween (C_X4_isBetween G _ bel (0 : Int32) (2 : Int32)) rfl rfl rfl ?_
    obtain ⟨F2, eF2⟩ : ∃ F, f_X4_isBetween bel (0 : Int32) (2 : Int32) = F := ⟨_, rfl⟩
    rw [eF2]
    try rw [eF2] at er
    try rw [eF2] at hp
    have bF2 : xB F2 := by rw [← eF2]; exact (B_X4_isBetween _ _ _)
    refine x_if_ne (pc := 14) (tgt := 19) dX4_soon_14 (by decide) (fun (c2 : ¬ (F2 = 0)) => ?_) (fun (c2 : F2 = 0) => ?_)
    · rw [if_neg c2] at er
      replace hp := hp.2 c2
      refine x_aload_n (pc := 19) dX4_soon_19 rfl ?_
      refine x_iload_n (pc := 20) dX4_soon_20 rfl ?_
      refine x_iload_n (pc := 21) dX4_soon_21 rfl ?_
      obtain ⟨q22, hp⟩ := hp
      refine x_cVQ (pc := 22) (As := [.int i, .int bel]) (rest := []) dX4_soon_22 xl_X4_172 xv_X4_ticksUntilFound k_g rfl rfl rfl rfl rfl rfl (C_X4_ticksUntilFound G _ g s r t W LF KF tw tl tk tu i bel k_g k_g3 k_g34 k_g35 k_g36 k_g37 q22) (fun v h1 hq => ?_)
      obtain ⟨ev, z0_h1, z1_h1, z2_h1, z3_h1, g_h1⟩ := hq
      subst ev
      refine Wp.eqs (L' := [(0, .ref g), (1, .int i), (2, .int bel)]) (st' := [.int (f_X4_ticksUntilFound s r t W LF KF tw tl tk tu i bel).1]) rfl rfl ?_
      obtain ⟨F3, eF3⟩ : ∃ F, f_X4_ticksUntilFound s r t W LF KF tw tl tk tu i bel = F := ⟨_, rfl⟩
      try rw [eF3] at er
      try rw [eF3] at hp
      try rw [eF3]
      try rw [eF3] at z0_h1
      try rw [eF3] at z1_h1
      try rw [eF3] at z2_h1
      try rw [eF3] at z3_h1
      have k_g_h1 : hAt h1 g = some (gpC (g + 1) (g + 3) (g + 18) (g + 33) (g + 34) (g + 37) s) := (g_h1.2 g (show ¬ (g = (g + 34) ∨ g = (g + 35) ∨ g = (g + 36) ∨ g = (g + 37)) by omega)).trans k_g
      have k_g3_h1 : nk h1 (g + 3) r t W LF KF := nk_fr (fun q u1 u2 => g_h1.2 q (show ¬ (q = (g + 34) ∨ q = (g + 35) ∨ q = (g + 36) ∨ q = (g + 37)) by omega)) k_g3
      have k_g34_h1 : hAt h1 (g + 34) = some (waC (g + 35) (g + 36) F3.2.1) := z0_h1
      have k_g35_h1 : hAt h1 (g + 35) = some (arI 6 F3.2.2.1) := z1_h1
      have k_g36_h1 : hAt h1 (g + 36) = some (arI 6 F3.2.2.2.1) := z2_h1
      have k_g37_h1 : hAt h1 (g + 37) = some (ruC F3.2.2.2.2) := z3_h1
      have f_h1 : fr (fun q => q = (g + 34) ∨ q = (g + 35) ∨ q = (g + 36) ∨ q = (g + 37)) h h1 := fr_trans fr_refl (fr_mono (fun q (u : q = (g + 34) ∨ q = (g + 35) ∨ q = (g + 36) ∨ q = (g + 37)) => show q = (g + 34) ∨ q = (g + 35) ∨ q = (g + 36) ∨ q = (g + 37) by omega) g_h1)
      subst er
      exact x_iret (pc := 25) dX4_soon_25 rfl rfl rfl rfl ⟨rfl, k_g34_h1, k_g35_h1, k_g36_h1, k_g37_h1, f_h1⟩
    · rw [if_pos c2] at er
      replace hp := hp.1 c2
      refine x_iconst (pc := 17) (v := (-1 : Int32)) dX4_soon_17 (by decide) ?_
      subst er
      exact x_iret (pc := 18) dX4_soon_18 rfl rfl rfl rfl ⟨rfl, k_g34, k_g35, k_g36, k_g37, fr_refl⟩

def g_X4_best_38 (v5 : Int32) (v4 : Int32) (v3 : Int32) (v2 : Int32) : Int32 × Int32 := (if v5 = (-4 : Int32) then (v3, v2) else (if v3 ≤ v5 then (v3, v2) else (v5, v4)))
def l_X4_best_19 : Nat → (Nat → Int32) → (Nat → Int32) → (Nat → Int32) → (Nat → Nat → Int32) → (Nat → Nat → Int32) → (Nat → Nat → Int32) → (Nat → Int32) → (Nat → Int32) → (Nat → Int32) → (Nat → Int32) → Int32 → Int32 → Int32 → Int32 → (Nat → Int32) → (Nat → Int32) → (Nat → Int32) → (Nat → Int32) → Int32 × Int32 × Int32 × (Nat → Int32) × (Nat → Int32) × (Nat → Int32) × (Nat → Int32)
  | 0, _, _, _, _, _, _, _, _, _, _, _, _, _, _, _, _, _, _ => (0, 0, 0, (fun _ => 0), (fun _ => 0), (fun _ => 0), (fun _ => 0))
  | n + 1, s, r, t, W, LF, KF, tw, tl, tk, tu, i, v4, v3, v2, x_g34, x_g35, x_g36, x_g37 => (if (2 : Int32) < v4 then (v4, v3, v2, x_g34, x_g35, x_g36, x_g37) else (l_X4_best_19 n s r t W LF KF tw tl tk tu i (v4 + (1 : Int32)) (g_X4_best_38 (f_X4_ticksUntilFound s r t W LF KF x_g34 x_g35 x_g36 x_g37 i v4).1 v4 v3 v2).1 (g_X4_best_38 (f_X4_ticksUntilFound s r t W LF KF x_g34 x_g35 x_g36 x_g37 i v4).1 v4 v3 v2).2 (f_X4_ticksUntilFound s r t W LF KF x_g34 x_g35 x_g36 x_g37 i v4).2.1 (f_X4_ticksUntilFound s r t W LF KF x_g34 x_g35 x_g36 x_g37 i v4).2.2.1 (f_X4_ticksUntilFound s r t W LF KF x_g34 x_g35 x_g36 x_g37 i v4).2.2.2.1 (f_X4_ticksUntilFound s r t W LF KF x_g34 x_g35 x_g36 x_g37 i v4).2.2.2.2))
def q_X4_best_19 : Nat → (Nat → Int32) → (Nat → Int32) → (Nat → Int32) → (Nat → Nat → Int32) → (Nat → Nat → Int32) → (Nat → Nat → Int32) → (Nat → Int32) → (Nat → Int32) → (Nat → Int32) → (Nat → Int32) → Int32 → Int32 → Int32 → Int32 → (Nat → Int32) → (Nat → Int32) → (Nat → Int32) → (Nat → Int32) → Prop
  | 0, _, _, _, _, _, _, _, _, _, _, _, _, _, _, _, _, _, _ => False
  | n + 1, s, r, t, W, LF, KF, tw, tl, tk, tu, i, v4, v3, v2, x_g34, x_g35, x_g36, x_g37 => (((2 : Int32) < v4 → True) ∧ (¬ ((2 : Int32) < v4) → (p_X4_ticksUntilFound s r t W LF KF x_g34 x_g35 x_g36 x_g37 i v4 ∧ (q_X4_best_19 n s r t W LF KF tw tl tk tu i (v4 + (1 : Int32)) (g_X4_best_38 (f_X4_ticksUntilFound s r t W LF KF x_g34 x_g35 x_g36 x_g37 i v4).1 v4 v3 v2).1 (g_X4_best_38 (f_X4_ticksUntilFound s r t W LF KF x_g34 x_g35 x_g36 x_g37 i v4).1 v4 v3 v2).2 (f_X4_ticksUntilFound s r t W LF KF x_g34 x_g35 x_g36 x_g37 i v4).2.1 (f_X4_ticksUntilFound s r t W LF KF x_g34 x_g35 x_g36 x_g37 i v4).2.2.1 (f_X4_ticksUntilFound s r t W LF KF x_g34 x_g35 x_g36 x_g37 i v4).2.2.2.1 (f_X4_ticksUntilFound s r t W LF KF x_g34 x_g35 x_g36 x_g37 i v4).2.2.2.2))))
set_option maxRecDepth 100000 in
set_option maxHeartbeats 4000000 in
theorem L_X4_best_19 (G : xG) (h : xH) (g : Nat) (s : (Nat → Int32)) (r : (Nat → Int32)) (t : (Nat → Int32)) (W : (Nat → Nat → Int32)) (LF : (Nat → Nat → Int32)) (KF : (Nat → Nat → Int32)) (tw : (Nat → Int32)) (tl : (Nat → Int32)) (tk : (Nat → Int32)) (tu : (Nat → Int32)) (i : Int32) (k_g : hAt h g = some (gpC (g + 1) (g + 3) (g + 18) (g + 33) (g + 34) (g + 37) s)) (k_g3 : nk h (g + 3) r t W LF KF) (k_g34 : hAt h (g + 34) = some (waC (g + 35) (g + 36) tw)) (k_g35 : hAt h (g + 35) = some (arI 6 tl)) (k_g36 : hAt h (g + 36) = some (arI 6 tk)) (k_g37 : hAt h (g + 37) = some (ruC tu)) {Z : xZ} : ∀ (n : Nat) (v4 : Int32) (v3 : Int32) (v2 : Int32) (x_g34 : (Nat → Int32)) (x_g35 : (Nat → Int32)) (x_g36 : (Nat → Int32)) (x_g37 : (Nat → Int32)), ∀ (hh : xH), q_X4_best_19 n s r t W LF KF tw tl tk tu i v4 v3 v2 x_g34 x_g35 x_g36 x_g37 → hAt hh g = some (gpC (g + 1) (g + 3) (g + 18) (g + 33) (g + 34) (g + 37) s) → nk hh (g + 3) r t W LF KF → hAt hh (g + 34) = some (waC (g + 35) (g + 36) x_g34) → hAt hh (g + 35) = some (arI 6 x_g35) → hAt hh (g + 36) = some (arI 6 x_g36) → hAt hh (g + 37) = some (ruC x_g37) → fr (fun q => q = (g + 34) ∨ q = (g + 35) ∨ q = (g + 36) ∨ q = (g + 37)) h hh → (∀ h2 : xH, hAt h2 g = some (gpC (g + 1) (g + 3) (g + 18) (g + 33) (g + 34) (g + 37) s) → nk h2 (g + 3) r t W LF KF → hAt h2 (g + 34) = some (waC (g + 35) (g + 36) (l_X4_best_19 n s r t W LF KF tw tl tk tu i v4 v3 v2 x_g34 x_g35 x_g36 x_g37).2.2.2.1) → hAt h2 (g + 35) = some (arI 6 (l_X4_best_19 n s r t W LF KF tw tl tk tu i v4 v3 v2 x_g34 x_g35 x_g36 x_g37).2.2.2.2.1) → hAt h2 (g + 36) = some (arI 6 (l_X4_best_19 n s r t W LF KF tw tl tk tu i v4 v3 v2 x_g34 x_g35 x_g36 x_g37).2.2.2.2.2.1) → hAt h2 (g + 37) = some (ruC (l_X4_best_19 n s r t W LF KF tw tl tk tu i v4 v3 v2 x_g34 x_g35 x_g36 x_g37).2.2.2.2.2.2) → fr (fun q => q = (g + 34) ∨ q = (g + 35) ∨ q = (g + 36) ∨ q = (g + 37)) h h2 → Wp G yX4_best.cls cX4_best 6 yX4_best.name (some .int) (xR 6 0 0) Z 0 0 59 [(4, .int (l_X4_best_19 n s r t W LF KF tw tl tk tu i v4 v3 v2 x_g34 x_g35 x_g36 x_g37).1), (3, .int (l_X4_best_19 n s r t W LF KF tw tl tk tu i v4 v3 v2 x_g34 x_g35 x_g36 x_g37).2.1), (2, .int (l_X4_best_19 n s r t W LF KF tw tl tk tu i v4 v3 v2 x_g34 x_g35 x_g36 x_g37).2.2.1), (0, .ref g), (1, .int i)] [] h2) → Wp G yX4_best.cls cX4_best 6 yX4_best.name (some .int) (xR 6 0 0) Z 0 0 19 [(4, .int v4), (3, .int v3), (2, .int v2), (0, .ref g), (1, .int i)] [] hh := by
  have u_0_1 : g ≠ (g + 34) := hne_k k_g k_g34 rfl
  have u_0_2 : g ≠ (g + 35) := hne_k k_g k_g35 rfl
  have u_0_3 : g ≠ (g + 36) := hne_k k_g k_g36 rfl
  have u_0_4 : g ≠ (g + 37) := hne_k k_g k_g37 rfl
  have u_1_2 : (g + 34) ≠ (g + 35) := hne_k k_g34 k_g35 rfl
  have u_1_3 : (g + 34) ≠ (g + 36) := hne_k k_g34 k_g36 rfl
  have u_1_4 : (g + 34) ≠ (g + 37) := hne_k k_g34 k_g37 rfl
  have u_2_4 : (g + 35) ≠ (g + 37) := hne_k k_g35 k_g37 rfl
  have u_3_4 : (g + 36) ≠ (g + 37) := hne_k k_g36 k_g37 rfl
  intro n
  induction n with
  | zero => intro v4 v3 v2 x_g34 x_g35 x_g36 x_g37 hh hp; exact absurd hp id
  | succ n ih =>
    intro v4 v3 v2 x_g34 x_g35 x_g36 x_g37 hh hp k_g_hh k_g3_hh k_g34_hh k_g35_hh k_g36_hh k_g37_hh f_hh kk
    obtain ⟨R, er⟩ : ∃ R, l_X4_best_19 (n + 1) s r t W LF KF tw tl tk tu i v4 v3 v2 x_g34 x_g35 x_g36 x_g37 = R := ⟨_, rfl⟩
    rw [er] at kk
    rw [l_X4_best_19] at er
    rw [q_X4_best_19] at hp
    refine x_iload (pc := 19) dX4_best_19 rfl ?_
    refine x_iconst (pc := 21) (v := (2 : Int32)) dX4_best_21 (by decide) ?_
    refine x_icmp_gt (pc := 22) (tgt := 59) dX4_best_22 (by decide) (fun (c2 : (2 : Int32) < v4) => ?_) (fun (c2 : ¬ ((2 : Int32) < v4)) => ?_)
    · rw [if_pos c2] at er
      replace hp := hp.1 c2
      subst er
      exact kk hh k_g_hh k_g3_hh k_g34_hh k_g35_hh k_g36_hh k_g37_hh f_hh
    · rw [if_neg c2] at er
      replace hp := hp.2 c2
      refine x_aload_n (pc := 25) dX4_best_25 rfl ?_
      refine x_iload_n (pc := 26) dX4_best_26 rfl ?_
      refine x_iload (pc := 27) dX4_best_27 rfl ?_
      obtain ⟨q29, hp⟩ := hp
      refine x_cVQ (pc := 29) (As := [.int i, .int v4]) (rest := []) dX4_best_29 xl_X4_172 xv_X4_ticksUntilFound k_g_hh rfl rfl rfl rfl rfl rfl (C_X4_ticksUntilFound G _ g s r t W LF KF x_g34 x_g35 x_g36 x_g37 i v4 k_g_hh k_g3_hh k_g34_hh k_g35_hh k_g36_hh k_g37_hh q29) (fun v h2 hq => ?_)
      obtain ⟨ev, z0_h2, z1_h2, z2_h2, z3_h2, g_h2⟩ := hq
      subst ev
      refine Wp.eqs (L' := [(4, .int v4), (3, .int v3), (2, .int v2), (0, .ref g), (1, .int i)]) (st' := [.int (f_X4_ticksUntilFound s r t W LF KF x_g34 x_g35 x_g36 x_g37 i v4).1]) rfl rfl ?_
      obtain ⟨F4, eF4⟩ : ∃ F, f_X4_ticksUntilFound s r t W LF KF x_g34 x_g35 x_g36 x_g37 i v4 = F := ⟨_, rfl⟩
      try rw [eF4] at er
      try rw [eF4] at hp
      try rw [eF4]
      try rw [eF4] at z0_h2
      try rw [eF4] at z1_h2
      try rw [eF4] at z2_h2
      try rw [eF4] at z3_h2
      have k_g_h2 : hAt h2 g = some (gpC (g + 1) (g + 3) (g + 18) (g + 33) (g + 34) (g + 37) s) := (g_h2.2 g (show ¬ (g = (g + 34) ∨ g = (g + 35) ∨ g = (g + 36) ∨ g = (g + 37)) by omega)).trans k_g_hh
      have k_g3_h2 : nk h2 (g + 3) r t W LF KF := nk_fr (fun q u1 u2 => g_h2.2 q (show ¬ (q = (g + 34) ∨ q = (g + 35) ∨ q = (g + 36) ∨ q = (g + 37)) by omega)) k_g3_hh
      have k_g34_h2 : hAt h2 (g + 34) = some (waC (g + 35) (g + 36) F4.2.1) := z0_h2
      have k_g35_h2 : hAt h2 (g + 35) = some (arI 6 F4.2.2.1) := z1_h2
      have k_g36_h2 : hAt h2 (g + 36) = some (arI 6 F4.2.2.2.1) := z2_h2
      have k_g37_h2 : hAt h2 (g + 37) = some (ruC F4.2.2.2.2) := z3_h2
      have f_h2 : fr (fun q => q = (g + 34) ∨ q = (g + 35) ∨ q = (g + 36) ∨ q = (g + 37)) h h2 := fr_trans f_hh (fr_mono (fun q (u : q = (g + 34) ∨ q = (g + 35) ∨ q = (g + 36) ∨ q = (g + 37)) => show q = (g + 34) ∨ q = (g + 35) ∨ q = (g + 36) ∨ q = (g + 37) by omega) g_h2)
      refine x_istore (pc := 32) (L' := [(5, .int F4.1), (4, .int v4), (3, .int v3), (2, .int v2), (0, .ref g), (1, .int i)]) dX4_best_32 rfl rfl ?_
      refine x_iload (pc := 34) dX4_best_34 rfl ?_
      refine x_bipush (pc := 36) (v := (-4 : Int32)) dX4_best_36 (by decide) ?_
      obtain ⟨F5, eF5⟩ : ∃ F, g_X4_best_38 F4.1 v4 v3 v2 = F := ⟨_, rfl⟩
      try rw [eF5] at er
      try rw [eF5] at hp
      refine x_mrg (pc' := 53) (L' := [(5, .int F4.1), (4, .int v4), (3, .int F5.1), (2, .int F5.2), (0, .ref g), (1, .int i)]) (st' := []) (h' := h2) (fun J => ?_) ?_
      · unfold g_X4_best_38 at eF5
        try rw [eF4] at eF5
        refine x_icmp_eq (pc := 38) (tgt := 53) dX4_best_38 (by decide) (fun (c5 : F4.1 = (-4 : Int32)) => ?_) (fun (c5 : ¬ (F4.1 = (-4 : Int32))) => ?_)
        · rw [if_pos c5] at eF5
          subst eF5
          exact J
        · rw [if_neg c5] at eF5
          refine x_iload (pc := 41) dX4_best_41 rfl ?_
          refine x_iload_n (pc := 43) dX4_best_43 rfl ?_
          refine x_icmp_ge (pc := 44) (tgt := 53) dX4_best_44 (by decide) (fun (c6 : v3 ≤ F4.1) => ?_) (fun (c6 : ¬ (v3 ≤ F4.1)) => ?_)
          · rw [if_pos c6] at eF5
            subst eF5
            exact J
          · rw [if_neg c6] at eF5
            refine x_iload (pc := 47) dX4_best_47 rfl ?_
            refine x_istore_n (pc := 49) (L' := [(3, .int F4.1), (5, .int F4.1), (4, .int v4), (2, .int v2), (0, .ref g), (1, .int i)]) dX4_best_49 rfl rfl ?_
            refine x_iload (pc := 50) dX4_best_50 rfl ?_
            refine x_istore_n (pc := 52) (L' := [(2, .int v4), (3, .int F4.1), (5, .int F4.1), (4, .int v4), (0, .ref g), (1, .int i)]) dX4_best_52 rfl rfl ?_
            subst eF5
            refine Wp.sub [2, 3, 1, 0, 4, 5] (L' := [(5, .int F4.1), (4, .int v4), (3, .int F4.1), (2, .int v4), (0, .ref g), (1, .int i)]) rfl ?_
            exact J
      refine x_iinc (pc := 53) (v := (v4 + (1 : Int32))) (L' := [(4, .int (v4 + (1 : Int32))), (5, .int F4.1), (3, .int F5.1), (2, .int F5.2), (0, .ref g), (1, .int i)]) dX4_best_53 rfl rfl rfl rfl ?_
      refine x_goto (pc := 56) (tgt := 19) dX4_best_56 (by decide) ?_
      subst er
      refine Wp.sub [0, 2, 3, 4, 5] (L' := [(4, .int (v4 + (1 : Int32))), (3, .int F5.1), (2, .int F5.2), (0, .ref g), (1, .int i)]) rfl ?_
      exact ih (v4 + (1 : Int32)) F5.1 F5.2 F4.2.1 F4.2.2.1 F4.2.2.2.1 F4.2.2.2.2 h2 hp k_g_h2 k_g3_h2 k_g34_h2 k_g35_h2 k_g36_h2 k_g37_h2 f_h2 kk
def f_X4_best (s : (Nat → Int32)) (r : (Nat → Int32)) (t : (Nat → Int32)) (W : (Nat → Nat → Int32)) (LF : (Nat → Nat → Int32)) (KF : (Nat → Nat → Int32)) (tw : (Nat → Int32)) (tl : (Nat → Int32)) (tk : (Nat → Int32)) (tu : (Nat → Int32)) (i : Int32) : Int32 × (Nat → Int32) × (Nat → Int32) × (Nat → Int32) × (Nat → Int32) := (if (f_X4_isWay s r t W LF KF i) = 0 then ((-1 : Int32), tw, tl, tk, tu) else ((l_X4_best_19 xK s r t W LF KF tw tl tk tu i (0 : Int32) (100 : Int32) (-4 : Int32) tw tl tk tu).2.2.1, (l_X4_best_19 xK s r t W LF KF tw tl tk tu i (0 : Int32) (100 : Int32) (-4 : Int32) tw tl tk tu).2.2.2.1, (l_X4_best_19 xK s r t W LF KF tw tl tk tu i (0 : Int32) (100 : Int32) (-4 : Int32) tw tl tk tu).2.2.2.2.1, (l_X4_best_19 xK s r t W LF KF tw tl tk tu i (0 : Int32) (100 : Int32) (-4 : Int32) tw tl tk tu).2.2.2.2.2.1, (l_X4_best_19 xK s r t W LF KF tw tl tk tu i (0 : Int32) (100 : Int32) (-4 : Int32) tw tl tk tu).2.2.2.2.2.2))
def p_X4_best (s : (Nat → Int32)) (r : (Nat → Int32)) (t : (Nat → Int32)) (W : (Nat → Nat → Int32)) (LF : (Nat → Nat → Int32)) (KF : (Nat → Nat → Int32)) (tw : (Nat → Int32)) (tl : (Nat → Int32)) (tk : (Nat → Int32)) (tu : (Nat → Int32)) (i : Int32) : Prop := (((f_X4_isWay s r t W LF KF i) = 0 → True) ∧ (¬ ((f_X4_isWay s r t W LF KF i) = 0) → ((q_X4_best_19 xK s r t W LF KF tw tl tk tu i (0 : Int32) (100 : Int32) (-4 : Int32) tw tl tk tu) ∧ True)))
set_option maxRecDepth 100000 in
set_option maxHeartbeats 4000000 in
theorem C_X4_best (G : xG) (h : xH) (g : Nat) (s : (Nat → Int32)) (r : (Nat → Int32)) (t : (Nat → Int32)) (W : (Nat → Nat → Int32)) (LF : (Nat → Nat → Int32)) (KF : (Nat → Nat → Int32)) (tw : (Nat → Int32)) (tl : (Nat → Int32)) (tk : (Nat → Int32)) (tu : (Nat → Int32)) (i : Int32) (k_g : hAt h g = some (gpC (g + 1) (g + 3) (g + 18) (g + 33) (g + 34) (g + 37) s)) (k_g3 : nk h (g + 3) r t W LF KF) (k_g34 : hAt h (g + 34) = some (waC (g + 35) (g + 36) tw)) (k_g35 : hAt h (g + 35) = some (arI 6 tl)) (k_g36 : hAt h (g + 36) = some (arI 6 tk)) (k_g37 : hAt h (g + 37) = some (ruC tu)) (hp : p_X4_best s r t W LF KF tw tl tk tu i) : Ct G 6 0 0 yX4_best cX4_best 6 (some .int) [.ref g, .int i] h (fun v' h' => v' = (some (.int (f_X4_best s r t W LF KF tw tl tk tu i).1)) ∧ (hAt h' (g + 34) = some (waC (g + 35) (g + 36) (f_X4_best s r t W LF KF tw tl tk tu i).2.1)) ∧ (hAt h' (g + 35) = some (arI 6 (f_X4_best s r t W LF KF tw tl tk tu i).2.2.1)) ∧ (hAt h' (g + 36) = some (arI 6 (f_X4_best s r t W LF KF tw tl tk tu i).2.2.2.1)) ∧ (hAt h' (g + 37) = some (ruC (f_X4_best s r t W LF KF tw tl tk tu i).2.2.2.2)) ∧ fr (fun q => q = (g + 34) ∨ q = (g + 35) ∨ q = (g + 36) ∨ q = (g + 37)) h h') := by
  have u_0_1 : g ≠ (g + 34) := hne_k k_g k_g34 rfl
  have u_0_2 : g ≠ (g + 35) := hne_k k_g k_g35 rfl
  have u_0_3 : g ≠ (g + 36) := hne_k k_g k_g36 rfl
  have u_0_4 : g ≠ (g + 37) := hne_k k_g k_g37 rfl
  have u_1_2 : (g + 34) ≠ (g + 35) := hne_k k_g34 k_g35 rfl
  have u_1_3 : (g + 34) ≠ (g + 36) := hne_k k_g34 k_g36 rfl
  have u_1_4 : (g + 34) ≠ (g + 37) := hne_k k_g34 k_g37 rfl
  have u_2_4 : (g + 35) ≠ (g + 37) := hne_k k_g35 k_g37 rfl
  have u_3_4 : (g + 36) ≠ (g + 37) := hne_k k_g36 k_g37 rfl
  refine Ct.of (by decide) (by rfl) ?_
  refine Wp.eqs (L' := [(0, .ref g), (1, .int i)]) (st' := []) rfl rfl ?_
  obtain ⟨R, er⟩ : ∃ R, f_X4_best s r t W LF KF tw tl tk tu i = R := ⟨_, rfl⟩
  rw [er]
  unfold f_X4_best at er
  unfold p_X4_best at hp
  refine x_aload_n (pc := 0) dX4_best_0 rfl ?_
  refine x_iload_n (pc := 1) dX4_best_1 rfl ?_
  refine x_cV1i (pc := 2) dX4_best_2 xl_X4_101 xv_X4_isWay k_g rfl (C_X4_isWay G _ g s r t W LF KF i k_g k_g3) rfl rfl rfl ?_
  obtain ⟨F1, eF1⟩ : ∃ F, f_X4_isWay s r t W LF KF i = F := ⟨_, rfl⟩
  rw [eF1]
  try rw [eF1] at er
  try rw [eF1] at hp
  have bF1 : xB F1 := by rw [← eF1]; exact (B_X4_isWay _ _ _ _ _ _ _)
  refine x_if_ne (pc := 5) (tgt := 10) dX4_best_5 (by decide) (fun (c1 : ¬ (F1 = 0)) => ?_) (fun (c1 : F1 = 0) => ?_)
  · rw [if_neg c1] at er
    replace hp := hp.2 c1
    refine x_bipush (pc := 10) (v := (-4 : Int32)) dX4_best_10 (by decide) ?_
    refine x_istore_n (pc := 12) (L' := [(2, .int (-4 : Int32)), (0, .ref g), (1, .int i)]) dX4_best_12 rfl rfl ?_
    refine x_bipush (pc := 13) (v := (100 : Int32)) dX4_best_13 (by decide) ?_
    refine x_istore_n (pc := 15) (L' := [(3, .int (100 : Int32)), (2, .int (-4 : Int32)), (0, .ref g), (1, .int i)]) dX4_best_15 rfl rfl ?_
    refine x_iconst (pc := 16) (v := (0 : Int32)) dX4_best_16 (by decide) ?_
    refine x_istore (pc := 17) (L' := [(4, .int (0 : Int32)), (3, .int (100 : Int32)), (2, .int (-4 : Int32)), (0, .ref g), (1, .int i)]) dX4_best_17 rfl rfl ?_
    obtain ⟨ql19, hp⟩ := hp
    refine L_X4_best_19 G h g s r t W LF KF tw tl tk tu i k_g k_g3 k_g34 k_g35 k_g36 k_g37  xK (0 : Int32) (100 : Int32) (-4 : Int32) tw tl tk tu h ql19 k_g k_g3 k_g34 k_g35 k_g36 k_g37 fr_refl (fun h3 k_g_h3 k_g3_h3 k_g34_h3 k_g35_h3 k_g36_h3 k_g37_h3 f_h3 => ?_)
    obtain ⟨F6, eF6⟩ : ∃ F, l_X4_best_19 xK s r t W LF KF tw tl tk tu i (0 : Int32) (100 : Int32) (-4 : Int32) tw tl tk tu = F := ⟨_, rfl⟩
    try rw [eF6]
    try rw [eF6] at er
    try rw [eF6] at hp
    try rw [eF6] at k_g_h3
    try rw [eF6] at k_g3_h3
    try rw [eF6] at k_g34_h3
    try rw [eF6] at k_g35_h3
    try rw [eF6] at k_g36_h3
    try rw [eF6] at k_g37_h3
    refine x_iload_n (pc := 59) dX4_best_59 rfl ?_
    subst er
    exact x_iret (pc := 60) dX4_best_60 rfl rfl rfl rfl ⟨rfl, k_g34_h3, k_g35_h3, k_g36_h3, k_g37_h3, f_h3⟩
  · rw [if_pos c1] at er
    replace hp := hp.1 c1
    refine x_iconst (pc := 8) (v := (-1 : Int32)) dX4_best_8 (by decide) ?_
    subst er
    exact x_iret (pc := 9) dX4_best_9 rfl rfl rfl rfl ⟨rfl, k_g34, k_g35, k_g36, k_g37, fr_refl⟩

def f_X4_count (s : (Nat → Int32)) (r : (Nat → Int32)) (t : (Nat → Int32)) (W : (Nat → Nat → Int32)) (LF : (Nat → Nat → Int32)) (KF : (Nat → Nat → Int32)) (x : (Nat → Int32)) (what : Int32) : Int32 := (if what = (0 : Int32) then (t 0) else (if what = (1 : Int32) then (t 1) else (if what = (2 : Int32) then (r 0) else (if what = (3 : Int32) then (r 1) else (if what = (4 : Int32) then (r 2) else (if what = (5 : Int32) then (r 3) else (if what = (6 : Int32) then (f_X0_leastLow r t W LF KF) else (if what = (7 : Int32) then (f_X0_allDone r t W LF KF) else (if what = (8 : Int32) then (f_X0_allSent r t W LF KF) else (if what = (9 : Int32) then (f_X0_allLost r t W LF KF) else (if what = (10 : Int32) then (s 1) else (if what = (11 : Int32) then (x 0) else (-1 : Int32)))))))))))))
def p_X4_count (s : (Nat → Int32)) (r : (Nat → Int32)) (t : (Nat → Int32)) (W : (Nat → Nat → Int32)) (LF : (Nat → Nat → Int32)) (KF : (Nat → Nat → Int32)) (x : (Nat → Int32)) (what : Int32) : Prop := ((what = (0 : Int32) → True) ∧ (¬ (what = (0 : Int32)) → ((what = (1 : Int32) → True) ∧ (¬ (what = (1 : Int32)) → ((what = (2 : Int32) → True) ∧ (¬ (what = (2 : Int32)) → ((what = (3 : Int32) → True) ∧ (¬ (what = (3 : Int32)) → ((what = (4 : Int32) → True) ∧ (¬ (what = (4 : Int32)) → ((what = (5 : Int32) → True) ∧ (¬ (what = (5 : Int32)) → ((what = (6 : Int32) → (p_X0_leastLow r t W LF KF ∧ True)) ∧ (¬ (what = (6 : Int32)) → ((what = (7 : Int32) → (p_X0_allDone r t W LF KF ∧ True)) ∧ (¬ (what = (7 : Int32)) → ((what = (8 : Int32) → (p_X0_allSent r t W LF KF ∧ True)) ∧ (¬ (what = (8 : Int32)) → ((what = (9 : Int32) → (p_X0_allLost r t W LF KF ∧ True)) ∧ (¬ (what = (9 : Int32)) → ((what = (10 : Int32) → True) ∧ (¬ (what = (10 : Int32)) → ((what = (11 : Int32) → True) ∧ (¬ (what = (11 : Int32)) → True))))))))))))))))))))))))
set_option maxRecDepth 100000 in
set_option maxHeartbeats 4000000 in
theorem C_X4_count (G : xG) (h : xH) (g : Nat) (s : (Nat → Int32)) (r : (Nat → Int32)) (t : (Nat → Int32)) (W : (Nat → Nat → Int32)) (LF : (Nat → Nat → Int32)) (KF : (Nat → Nat → Int32)) (x : (Nat → Int32)) (what : Int32) (k_g : hAt h g = some (gpC (g + 1) (g + 3) (g + 18) (g + 33) (g + 34) (g + 37) s)) (k_g3 : nk h (g + 3) r t W LF KF) (k_g1 : hAt h (g + 1) = some (txC (g + 2) x)) (hp : p_X4_count s r t W LF KF x what) : Ct G 2 0 0 yX4_count cX4_count 2 (some .int) [.ref g, .int what] h (fun v' h' => v' = (some (.int (f_X4_count s r t W LF KF x what))) ∧ h' = h) := by
  have u_0_1 : g ≠ (g + 1) := hne_k k_g k_g1 rfl
  refine Ct.of (by decide) (by rfl) ?_
  refine Wp.eqs (L' := [(0, .ref g), (1, .int what)]) (st' := []) rfl rfl ?_
  obtain ⟨R, er⟩ : ∃ R, f_X4_count s r t W LF KF x what = R := ⟨_, rfl⟩
  rw [er]
  unfold f_X4_count at er
  unfold p_X4_count at hp
  refine x_iload_n (pc := 0) dX4_count_0 rfl ?_
  by_cases c1 : what = (0 : Int32)
  · rw [if_pos c1] at er
    replace hp := hp.1 c1
    refine x_tabIn (pc := 1) (off := 63) (tgt := 64) dX4_count_1 (by rw [c1]; decide) (by rw [c1]; decide) (by rw [c1]; rfl) (by decide) ?_
    refine x_aload_n (pc := 64) dX4_count_64 rfl ?_
    refine x_getf (pc := 65) (v := .ref (g + 3)) dX4_count_65 xf_X4_19 k_g rfl ?_
    refine x_getf (pc := 68) (v := .int (t 0)) dX4_count_68 xf_X4_71 (nk_nt k_g3) rfl ?_
    subst er
    exact x_iret (pc := 71) dX4_count_71 rfl rfl rfl rfl ⟨rfl, rfl⟩
  rw [if_neg c1] at er
  replace hp := hp.2 c1
  by_cases c2 : what = (1 : Int32)
  · rw [if_pos c2] at er
    replace hp := hp.1 c2
    refine x_tabIn (pc := 1) (off := 71) (tgt := 72) dX4_count_1 (by rw [c2]; decide) (by rw [c2]; decide) (by rw [c2]; rfl) (by decide) ?_
    refine x_aload_n (pc := 72) dX4_count_72 rfl ?_
    refine x_getf (pc := 73) (v := .ref (g + 3)) dX4_count_73 xf_X4_19 k_g rfl ?_
    refine x_getf (pc := 76) (v := .int (t 1)) dX4_count_76 xf_X4_81 (nk_nt k_g3) rfl ?_
    subst er
    exact x_iret (pc := 79) dX4_count_79 rfl rfl rfl rfl ⟨rfl, rfl⟩
  rw [if_neg c2] at er
  replace hp := hp.2 c2
  by_cases c3 : what = (2 : Int32)
  · rw [if_pos c3] at er
    replace hp := hp.1 c3
    refine x_tabIn (pc := 1) (off := 79) (tgt := 80) dX4_count_1 (by rw [c3]; decide) (by rw [c3]; decide) (by rw [c3]; rfl) (by decide) ?_
    refine x_aload_n (pc := 80) dX4_count_80 rfl ?_
    refine x_getf (pc := 81) (v := .ref (g + 3)) dX4_count_81 xf_X4_19 k_g rfl ?_
    refine x_getf (pc := 84) (v := .ref ((g + 3) + 1)) dX4_count_84 xf_X4_94 (nk_nt k_g3) rfl ?_
    refine x_getf (pc := 87) (v := .int (r 0)) dX4_count_87 xf_X4_176 (nk_ru k_g3) rfl ?_
    subst er
    exact x_iret (pc := 90) dX4_count_90 rfl rfl rfl rfl ⟨rfl, rfl⟩
  rw [if_neg c3] at er
  replace hp := hp.2 c3
  by_cases c4 : what = (3 : Int32)
  · rw [if_pos c4] at er
    replace hp := hp.1 c4
    refine x_tabIn (pc := 1) (off := 90) (tgt := 91) dX4_count_1 (by rw [c4]; decide) (by rw [c4]; decide) (by rw [c4]; rfl) (by decide) ?_
    refine x_aload_n (pc := 91) dX4_count_91 rfl ?_
    refine x_getf (pc := 92) (v := .ref (g + 3)) dX4_count_92 xf_X4_19 k_g rfl ?_
    refine x_getf (pc := 95) (v := .ref ((g + 3) + 1)) dX4_count_95 xf_X4_94 (nk_nt k_g3) rfl ?_
    refine x_getf (pc := 98) (v := .int (r 1)) dX4_count_98 xf_X4_179 (nk_ru k_g3) rfl ?_
    subst er
    exact x_iret (pc := 101) dX4_count_101 rfl rfl rfl rfl ⟨rfl, rfl⟩
  rw [if_neg c4] at er
  replace hp := hp.2 c4
  by_cases c5 : what = (4 : Int32)
  · rw [if_pos c5] at er
    replace hp := hp.1 c5
    refine x_tabIn (pc := 1) (off := 101) (tgt := 102) dX4_count_1 (by rw [c5]; decide) (by rw [c5]; decide) (by rw [c5]; rfl) (by decide) ?_
    refine x_aload_n (pc := 102) dX4_count_102 rfl ?_
    refine x_getf (pc := 103) (v := .ref (g + 3)) dX4_count_103 xf_X4_19 k_g rfl ?_
    refine x_getf (pc := 106) (v := .ref ((g + 3) + 1)) dX4_count_106 xf_X4_94 (nk_nt k_g3) rfl ?_
    refine x_getf (pc := 109) (v := .int (r 2)) dX4_count_109 xf_X4_182 (nk_ru k_g3) rfl ?_
    subst er
    exact x_iret (pc := 112) dX4_count_112 rfl rfl rfl rfl ⟨rfl, rfl⟩
  rw [if_neg c5] at er
  replace hp := hp.2 c5
  by_cases c6 : what = (5 : Int32)
  · rw [if_pos c6] at er
    replace hp := hp.1 c6
    refine x_tabIn (pc := 1) (off := 112) (tgt := 113) dX4_count_1 (by rw [c6]; decide) (by rw [c6]; decide) (by rw [c6]; rfl) (by decide) ?_
    refine x_aload_n (pc := 113) dX4_count_113 rfl ?_
    refine x_getf (pc := 114) (v := .ref (g + 3)) dX4_count_114 xf_X4_19 k_g rfl ?_
    refine x_getf (pc := 117) (v := .ref ((g + 3) + 1)) dX4_count_117 xf_X4_94 (nk_nt k_g3) rfl ?_
    refine x_getf (pc := 120) (v := .int (r 3)) dX4_count_120 xf_X4_127 (nk_ru k_g3) rfl ?_
    subst er
    exact x_iret (pc := 123) dX4_count_123 rfl rfl rfl rfl ⟨rfl, rfl⟩
  rw [if_neg c6] at er
  replace hp := hp.2 c6
  by_cases c7 : what = (6 : Int32)
  · rw [if_pos c7] at er
    replace hp := hp.1 c7
    refine x_tabIn (pc := 1) (off := 123) (tgt := 124) dX4_count_1 (by rw [c7]; decide) (by rw [c7]; decide) (by rw [c7]; rfl) (by decide) ?_
    refine x_aload_n (pc := 124) dX4_count_124 rfl ?_
    refine x_getf (pc := 125) (v := .ref (g + 3)) dX4_count_125 xf_X4_19 k_g rfl ?_
    obtain ⟨q128, hp⟩ := hp
    refine x_cV0i (pc := 128) dX4_count_128 xl_X4_185 xv_X0_leastLow (nk_nt k_g3) rfl (C_X0_leastLow G _ (g + 3) r t W LF KF k_g3 q128) rfl rfl rfl ?_
    obtain ⟨F1, eF1⟩ : ∃ F, f_X0_leastLow r t W LF KF = F := ⟨_, rfl⟩
    rw [eF1]
    try rw [eF1] at er
    try rw [eF1] at hp
    subst er
    exact x_iret (pc := 131) dX4_count_131 rfl rfl rfl rfl ⟨rfl, rfl⟩
  rw [if_neg c7] at er
  replace hp := hp.2 c7
  by_cases c8 : what = (7 : Int32)
  · rw [if_pos c8] at er
    replace hp := hp.1 c8
    refine x_tabIn (pc := 1) (off := 131) (tgt := 132) dX4_count_1 (by rw [c8]; decide) (by rw [c8]; decide) (by rw [c8]; rfl) (by decide) ?_
    refine x_aload_n (pc := 132) dX4_count_132 rfl ?_
    refine x_getf (pc := 133) (v := .ref (g + 3)) dX4_count_133 xf_X4_19 k_g rfl ?_
    obtain ⟨q136, hp⟩ := hp
    refine x_cV0i (pc := 136) dX4_count_136 xl_X4_188 xv_X0_allDone (nk_nt k_g3) rfl (C_X0_allDone G _ (g + 3) r t W LF KF k_g3 q136) rfl rfl rfl ?_
    obtain ⟨F2, eF2⟩ : ∃ F, f_X0_allDone r t W LF KF = F := ⟨_, rfl⟩
    rw [eF2]
    try rw [eF2] at er
    try rw [eF2] at hp
    subst er
    exact x_iret (pc := 139) dX4_count_139 rfl rfl rfl rfl ⟨rfl, rfl⟩
  rw [if_neg c8] at er
  replace hp := hp.2 c8
  by_cases c9 : what = (8 : Int32)
  · rw [if_pos c9] at er
    replace hp := hp.1 c9
    refine x_tabIn (pc := 1) (off := 139) (tgt := 140) dX4_count_1 (by rw [c9]; decide) (by rw [c9]; decide) (by rw [c9]; rfl) (by decide) ?_
    refine x_aload_n (pc := 140) dX4_count_140 rfl ?_
    refine x_getf (pc := 141) (v := .ref (g + 3)) dX4_count_141 xf_X4_19 k_g rfl ?_
    obtain ⟨q144, hp⟩ := hp
    refine x_cV0i (pc := 144) dX4_count_144 xl_X4_191 xv_X0_allSent (nk_nt k_g3) rfl (C_X0_allSent G _ (g + 3) r t W LF KF k_g3 q144) rfl rfl rfl ?_
    obtain ⟨F3, eF3⟩ : ∃ F, f_X0_allSent r t W LF KF = F := ⟨_, rfl⟩
    rw [eF3]
    try rw [eF3] at er
    try rw [eF3] at hp
    subst er
    exact x_iret (pc := 147) dX4_count_147 rfl rfl rfl rfl ⟨rfl, rfl⟩
  rw [if_neg c9] at er
  replace hp := hp.2 c9
  by_cases c10 : what = (9 : Int32)
  · rw [if_pos c10] at er
    replace hp := hp.1 c10
    refine x_tabIn (pc := 1) (off := 147) (tgt := 148) dX4_count_1 (by rw [c10]; decide) (by rw [c10]; decide) (by rw [c10]; rfl) (by decide) ?_
    refine x_aload_n (pc := 148) dX4_count_148 rfl ?_
    refine x_getf (pc := 149) (v := .ref (g + 3)) dX4_count_149 xf_X4_19 k_g rfl ?_
    obtain ⟨q152, hp⟩ := hp
    refine x_cV0i (pc := 152) dX4_count_152 xl_X4_87 xv_X0_allLost (nk_nt k_g3) rfl (C_X0_allLost G _ (g + 3) r t W LF KF k_g3 q152) rfl rfl rfl ?_
    obtain ⟨F4, eF4⟩ : ∃ F, f_X0_allLost r t W LF KF = F := ⟨_, rfl⟩
    rw [eF4]
    try rw [eF4] at er
    try rw [eF4] at hp
    subst er
    exact x_iret (pc := 155) dX4_count_155 rfl rfl rfl rfl ⟨rfl, rfl⟩
  rw [if_neg c10] at er
  replace hp := hp.2 c10
  by_cases c11 : what = (10 : Int32)
  · rw [if_pos c11] at er
    replace hp := hp.1 c11
    refine x_tabIn (pc := 1) (off := 155) (tgt := 156) dX4_count_1 (by rw [c11]; decide) (by rw [c11]; decide) (by rw [c11]; rfl) (by decide) ?_
    refine x_aload_n (pc := 156) dX4_count_156 rfl ?_
    refine x_getf (pc := 157) (v := .int (s 1)) dX4_count_157 xf_X4_74 k_g rfl ?_
    subst er
    exact x_iret (pc := 160) dX4_count_160 rfl rfl rfl rfl ⟨rfl, rfl⟩
  rw [if_neg c11] at er
  replace hp := hp.2 c11
  by_cases c12 : what = (11 : Int32)
  · rw [if_pos c12] at er
    replace hp := hp.1 c12
    refine x_tabIn (pc := 1) (off := 160) (tgt := 161) dX4_count_1 (by rw [c12]; decide) (by rw [c12]; decide) (by rw [c12]; rfl) (by decide) ?_
    refine x_aload_n (pc := 161) dX4_count_161 rfl ?_
    refine x_getf (pc := 162) (v := .ref (g + 1)) dX4_count_162 xf_X4_10 k_g rfl ?_
    refine x_getf (pc := 165) (v := .int (x 0)) dX4_count_165 xf_X4_68 k_g1 rfl ?_
    subst er
    exact x_iret (pc := 168) dX4_count_168 rfl rfl rfl rfl ⟨rfl, rfl⟩
  rw [if_neg c12] at er
  replace hp := hp.2 c12
  refine x_tabOut (pc := 1) (tgt := 169) dX4_count_1 (by have zc1 := xneL c1 (z := 0) rfl; have zc2 := xneL c2 (z := 1) rfl; have zc3 := xneL c3 (z := 2) rfl; have zc4 := xneL c4 (z := 3) rfl; have zc5 := xneL c5 (z := 4) rfl; have zc6 := xneL c6 (z := 5) rfl; have zc7 := xneL c7 (z := 6) rfl; have zc8 := xneL c8 (z := 7) rfl; have zc9 := xneL c9 (z := 8) rfl; have zc10 := xneL c10 (z := 9) rfl; have zc11 := xneL c11 (z := 10) rfl; have zc12 := xneL c12 (z := 11) rfl; omega) (by decide) ?_
  refine x_iconst (pc := 169) (v := (-1 : Int32)) dX4_count_169 (by decide) ?_
  subst er
  exact x_iret (pc := 170) dX4_count_170 rfl rfl rfl rfl ⟨rfl, rfl⟩
