def g_X5_way_23 (tn : (Nat → Int32)) (i : Int32) (what : Int32) : Int32 := (if (10 : Int32) ≤ what then (if what = (10 : Int32) then (f_X5_passes tn i) else (if what = (11 : Int32) then (tn ((f_X5_at i (11 : Int32)).toNatClampNeg)) else (tn ((f_X5_at i (10 : Int32)).toNatClampNeg)))) else (tn ((f_X5_at i what).toNatClampNeg)))
def h_X5_way_23 (tn : (Nat → Int32)) (i : Int32) (what : Int32) : Prop := (((10 : Int32) ≤ what → ((what = (10 : Int32) → (p_X5_passes tn i ∧ True)) ∧ (¬ (what = (10 : Int32)) → ((what = (11 : Int32) → (vp_in (f_X5_at i (11 : Int32)) 103 ∧ True)) ∧ (¬ (what = (11 : Int32)) → (vp_in (f_X5_at i (10 : Int32)) 103 ∧ True)))))) ∧ (¬ ((10 : Int32) ≤ what) → (vp_in (f_X5_at i what) 103 ∧ True)))
def f_X5_way (m tn : Nat → Int32) (i what : Int32) : Int32 := (if (f_X5_isWay m tn i) = 0 then (-1 : Int32) else (if (f_X5_in what (0 : Int32) (12 : Int32)) = 0 then (-1 : Int32) else (g_X5_way_23 tn i what)))
def p_X5_way (m tn : Nat → Int32) (i what : Int32) : Prop := (((f_X5_isWay m tn i) = 0 → True) ∧ (¬ ((f_X5_isWay m tn i) = 0) → (((f_X5_in what (0 : Int32) (12 : Int32)) = 0 → True) ∧ (¬ ((f_X5_in what (0 : Int32) (12 : Int32)) = 0) → ((h_X5_way_23 tn i what) ∧ True)))))
set_option maxRecDepth 100000 in
set_option maxHeartbeats 4000000 in
theorem C_X5_way (G : xG) (h : xH) (o nw rd sd pa xt : Nat) (m tn : Nat → Int32) (i what : Int32) (k_o : hAt h o = some (moC nw rd sd pa xt m)) (k_nw : hAt h nw = some (arI 103 tn)) (hp : p_X5_way m tn i what) : Cd G 2 yX5_way cX5_way 3 (some .int) [.ref o, .int i, .int what] h (some (.int (f_X5_way m tn i what))) h := by
  refine Ct.of (by decide) (by rfl) ?_
  refine Wp.eqs (L' := [(0, .ref o), (1, .int i), (2, .int what)]) (st' := []) rfl rfl ?_
  obtain ⟨R, er⟩ : ∃ R, f_X5_way m tn i what = R := ⟨_, rfl⟩
  rw [er]
  unfold f_X5_way at er
  unfold p_X5_way at hp
  refine x_aload_n (pc := 0) dX5_way_0 rfl ?_
  refine x_iload_n (pc := 1) dX5_way_1 rfl ?_
  refine x_cV1i (pc := 2) dX5_way_2 xl_X5_193 xv_X5_isWay k_o rfl (C_X5_isWay G _ o nw rd sd pa xt m tn i k_o k_nw) rfl rfl rfl ?_
  obtain ⟨F1, eF1⟩ : ∃ F, f_X5_isWay m tn i = F := ⟨_, rfl⟩
  rw [eF1]
  try rw [eF1] at er
  try rw [eF1] at hp
  have bF1 : xB F1 := by rw [← eF1]; exact (B_X5_isWay _ _ _)
  refine x_if_eq (pc := 5) (tgt := 18) dX5_way_5 (by decide) (fun (c1 : F1 = 0) => ?_) (fun (c1 : ¬ (F1 = 0)) => ?_)
  · rw [if_pos c1] at er
    replace hp := hp.1 c1
    refine x_iconst (pc := 18) (v := (-1 : Int32)) dX5_way_18 (by decide) ?_
    subst er
    exact x_iret (pc := 19) dX5_way_19 rfl rfl rfl rfl ⟨rfl, rfl⟩
  · rw [if_neg c1] at er
    replace hp := hp.2 c1
    refine x_iload_n (pc := 8) dX5_way_8 rfl ?_
    refine x_iconst (pc := 9) (v := (0 : Int32)) dX5_way_9 (by decide) ?_
    refine x_bipush (pc := 10) (v := (12 : Int32)) dX5_way_10 (by decide) ?_
    refine x_cS3i (pc := 12) dX5_way_12 xl_X5_57 xs_X5_in (C_X5_in G _ what (0 : Int32) (12 : Int32)) rfl rfl rfl ?_
    obtain ⟨F2, eF2⟩ : ∃ F, f_X5_in what (0 : Int32) (12 : Int32) = F := ⟨_, rfl⟩
    rw [eF2]
    try rw [eF2] at er
    try rw [eF2] at hp
    have bF2 : xB F2 := by rw [← eF2]; exact (B_X5_in _ _ _)
    refine x_if_ne (pc := 15) (tgt := 20) dX5_way_15 (by decide) (fun (c2 : ¬ (F2 = 0)) => ?_) (fun (c2 : F2 = 0) => ?_)
    · rw [if_neg c2] at er
      replace hp := hp.2 c2
      refine x_iload_n (pc := 20) dX5_way_20 rfl ?_
      refine x_bipush (pc := 21) (v := (10 : Int32)) dX5_way_21 (by decide) ?_
      obtain ⟨qr23, hp⟩ := hp
      obtain ⟨F11, eF11⟩ : ∃ F, g_X5_way_23 tn i what = F := ⟨_, rfl⟩
      try rw [eF11] at er
      try rw [eF11] at hp
      refine x_mrg (pc' := 87) (L' := [(0, .ref o), (1, .int i), (2, .int what)]) (st' := [.int F11]) (h' := h) (fun J => ?_) ?_
      · unfold g_X5_way_23 at eF11
        unfold h_X5_way_23 at qr23
        try rw [eF1] at eF11
        try rw [eF1] at qr23
        try rw [eF2] at eF11
        try rw [eF2] at qr23
        refine x_icmp_ge (pc := 23) (tgt := 39) dX5_way_23 (by decide) (fun (c6 : (10 : Int32) ≤ what) => ?_) (fun (c6 : ¬ ((10 : Int32) ≤ what)) => ?_)
        · rw [if_pos c6] at eF11
          replace qr23 := qr23.1 c6
          refine x_iload_n (pc := 39) dX5_way_39 rfl ?_
          refine x_bipush (pc := 40) (v := (10 : Int32)) dX5_way_40 (by decide) ?_
          refine x_icmp_ne (pc := 42) (tgt := 56) dX5_way_42 (by decide) (fun (c7 : ¬ (what = (10 : Int32))) => ?_) (fun (c7 : what = (10 : Int32)) => ?_)
          · rw [if_neg c7] at eF11
            replace qr23 := qr23.2 c7
            refine x_iload_n (pc := 56) dX5_way_56 rfl ?_
            refine x_bipush (pc := 57) (v := (11 : Int32)) dX5_way_57 (by decide) ?_
            refine x_icmp_ne (pc := 59) (tgt := 76) dX5_way_59 (by decide) (fun (c8 : ¬ (what = (11 : Int32))) => ?_) (fun (c8 : what = (11 : Int32)) => ?_)
            · rw [if_neg c8] at eF11
              replace qr23 := qr23.2 c8
              refine x_aload_n (pc := 76) dX5_way_76 rfl ?_
              refine x_getf (pc := 77) (v := .ref nw) dX5_way_77 xf_X5_7 k_o rfl ?_
              refine x_iload_n (pc := 80) dX5_way_80 rfl ?_
              refine x_bipush (pc := 81) (v := (10 : Int32)) dX5_way_81 (by decide) ?_
              refine x_cS2i (pc := 83) dX5_way_83 xl_X5_36 xs_X5_at (C_X5_at G _ i (10 : Int32)) rfl rfl rfl ?_
              obtain ⟨F7, eF7⟩ : ∃ F, f_X5_at i (10 : Int32) = F := ⟨_, rfl⟩
              rw [eF7]
              try rw [eF7] at eF11
              try rw [eF7] at qr23
              obtain ⟨q86, qr23⟩ := qr23
              refine x_iald (pc := 86) dX5_way_86 k_nw q86 (j := (F7.toNatClampNeg)) rfl ?_
              subst eF11
              exact J
            · rw [if_pos c8] at eF11
              replace qr23 := qr23.1 c8
              refine x_aload_n (pc := 62) dX5_way_62 rfl ?_
              refine x_getf (pc := 63) (v := .ref nw) dX5_way_63 xf_X5_7 k_o rfl ?_
              refine x_iload_n (pc := 66) dX5_way_66 rfl ?_
              refine x_bipush (pc := 67) (v := (11 : Int32)) dX5_way_67 (by decide) ?_
              refine x_cS2i (pc := 69) dX5_way_69 xl_X5_36 xs_X5_at (C_X5_at G _ i (11 : Int32)) rfl rfl rfl ?_
              obtain ⟨F8, eF8⟩ : ∃ F, f_X5_at i (11 : Int32) = F := ⟨_, rfl⟩
              rw [eF8]
              try rw [eF8] at eF11
              try rw [eF8] at qr23
              obtain ⟨q72, qr23⟩ := qr23
              refine x_iald (pc := 72) dX5_way_72 k_nw q72 (j := (F8.toNatClampNeg)) rfl ?_
              refine x_goto (pc := 73) (tgt := 87) dX5_way_73 (by decide) ?_
              subst eF11
              exact J
          · rw [if_pos c7] at eF11
            replace qr23 := qr23.1 c7
            refine x_aload_n (pc := 45) dX5_way_45 rfl ?_
            refine x_getf (pc := 46) (v := .ref nw) dX5_way_46 xf_X5_7 k_o rfl ?_
            refine x_iload_n (pc := 49) dX5_way_49 rfl ?_
            obtain ⟨q50, qr23⟩ := qr23
            refine x_cS2i (pc := 50) dX5_way_50 xl_X5_203 xs_X5_passes (C_X5_passes G _ nw tn i k_nw q50) rfl rfl rfl ?_
            obtain ⟨F9, eF9⟩ : ∃ F, f_X5_passes tn i = F := ⟨_, rfl⟩
            rw [eF9]
            try rw [eF9] at eF11
            try rw [eF9] at qr23
            refine x_goto (pc := 53) (tgt := 87) dX5_way_53 (by decide) ?_
            subst eF11
            exact J
        · rw [if_neg c6] at eF11
          replace qr23 := qr23.2 c6
          refine x_aload_n (pc := 26) dX5_way_26 rfl ?_
          refine x_getf (pc := 27) (v := .ref nw) dX5_way_27 xf_X5_7 k_o rfl ?_
          refine x_iload_n (pc := 30) dX5_way_30 rfl ?_
          refine x_iload_n (pc := 31) dX5_way_31 rfl ?_
          refine x_cS2i (pc := 32) dX5_way_32 xl_X5_36 xs_X5_at (C_X5_at G _ i what) rfl rfl rfl ?_
          obtain ⟨F10, eF10⟩ : ∃ F, f_X5_at i what = F := ⟨_, rfl⟩
          rw [eF10]
          try rw [eF10] at eF11
          try rw [eF10] at qr23
          obtain ⟨q35, qr23⟩ := qr23
          refine x_iald (pc := 35) dX5_way_35 k_nw q35 (j := (F10.toNatClampNeg)) rfl ?_
          refine x_goto (pc := 36) (tgt := 87) dX5_way_36 (by decide) ?_
          subst eF11
          exact J
      subst er
      exact x_iret (pc := 87) dX5_way_87 rfl rfl rfl rfl ⟨rfl, rfl⟩
    · rw [if_pos c2] at er
      replace hp := hp.1 c2
      refine x_iconst (pc := 18) (v := (-1 : Int32)) dX5_way_18 (by decide) ?_
      subst er
      exact x_iret (pc := 19) dX5_way_19 rfl rfl rfl rfl ⟨rfl, rfl⟩

def g_X5_hop_6 (tn : (Nat → Int32)) (i : Int32) (hh : Int32) (what : Int32) (y0 : Int32) : Int32 := (if y0 = 0 then (-1 : Int32) else (if (f_X5_in what (0 : Int32) (1 : Int32)) = 0 then (-1 : Int32) else (tn ((f_X5_at i (((if what = 0 then (12 : Int32) else (18 : Int32))) + hh)).toNatClampNeg))))
def h_X5_hop_6 (tn : (Nat → Int32)) (i : Int32) (hh : Int32) (what : Int32) (y0 : Int32) : Prop := ((y0 = 0 → True) ∧ (¬ (y0 = 0) → (((f_X5_in what (0 : Int32) (1 : Int32)) = 0 → True) ∧ (¬ ((f_X5_in what (0 : Int32) (1 : Int32)) = 0) → (vp_in (f_X5_at i (((if what = 0 then (12 : Int32) else (18 : Int32))) + hh)) 103 ∧ True)))))
def f_X5_hop (m tn : Nat → Int32) (i hh what : Int32) : Int32 := (g_X5_hop_6 tn i hh what (f_X5_isHop m tn i hh))
def p_X5_hop (m tn : Nat → Int32) (i hh what : Int32) : Prop := (p_X5_isHop m tn i hh ∧ ((h_X5_hop_6 tn i hh what (f_X5_isHop m tn i hh)) ∧ True))
set_option maxRecDepth 100000 in
set_option maxHeartbeats 4000000 in
theorem C_X5_hop (G : xG) (h : xH) (o nw rd sd pa xt : Nat) (m tn : Nat → Int32) (i hh what : Int32) (k_o : hAt h o = some (moC nw rd sd pa xt m)) (k_nw : hAt h nw = some (arI 103 tn)) (hp : p_X5_hop m tn i hh what) : Cd G 3 yX5_hop cX5_hop 4 (some .int) [.ref o, .int i, .int hh, .int what] h (some (.int (f_X5_hop m tn i hh what))) h := by
  refine Ct.of (by decide) (by rfl) ?_
  refine Wp.eqs (L' := [(0, .ref o), (1, .int i), (2, .int hh), (3, .int what)]) (st' := []) rfl rfl ?_
  obtain ⟨R, er⟩ : ∃ R, f_X5_hop m tn i hh what = R := ⟨_, rfl⟩
  rw [er]
  unfold f_X5_hop at er
  unfold p_X5_hop at hp
  refine x_aload_n (pc := 0) dX5_hop_0 rfl ?_
  refine x_iload_n (pc := 1) dX5_hop_1 rfl ?_
  refine x_iload_n (pc := 2) dX5_hop_2 rfl ?_
  obtain ⟨q3, hp⟩ := hp
  refine x_cV2i (pc := 3) dX5_hop_3 xl_X5_197 xv_X5_isHop k_o rfl (C_X5_isHop G _ o nw rd sd pa xt m tn i hh k_o k_nw q3) rfl rfl rfl ?_
  obtain ⟨F1, eF1⟩ : ∃ F, f_X5_isHop m tn i hh = F := ⟨_, rfl⟩
  rw [eF1]
  try rw [eF1] at er
  try rw [eF1] at hp
  have bF1 : xB F1 := by rw [← eF1]; exact (B_X5_isHop _ _ _ _)
  obtain ⟨qr6, hp⟩ := hp
  obtain ⟨F8, eF8⟩ : ∃ F, g_X5_hop_6 tn i hh what F1 = F := ⟨_, rfl⟩
  try rw [eF8] at er
  try rw [eF8] at hp
  refine x_mrg (pc' := 44) (L' := [(0, .ref o), (1, .int i), (2, .int hh), (3, .int what)]) (st' := [.int F8]) (h' := h) (fun J => ?_) ?_
  · unfold g_X5_hop_6 at eF8
    unfold h_X5_hop_6 at qr6
    try rw [eF1] at eF8
    try rw [eF1] at qr6
    refine x_if_eq (pc := 6) (tgt := 43) dX5_hop_6 (by decide) (fun (c4 : F1 = 0) => ?_) (fun (c4 : ¬ (F1 = 0)) => ?_)
    · rw [if_pos c4] at eF8
      replace qr6 := qr6.1 c4
      refine x_iconst (pc := 43) (v := (-1 : Int32)) dX5_hop_43 (by decide) ?_
      subst eF8
      exact J
    · rw [if_neg c4] at eF8
      replace qr6 := qr6.2 c4
      refine x_iload_n (pc := 9) dX5_hop_9 rfl ?_
      refine x_iconst (pc := 10) (v := (0 : Int32)) dX5_hop_10 (by decide) ?_
      refine x_iconst (pc := 11) (v := (1 : Int32)) dX5_hop_11 (by decide) ?_
      refine x_cS3i (pc := 12) dX5_hop_12 xl_X5_57 xs_X5_in (C_X5_in G _ what (0 : Int32) (1 : Int32)) rfl rfl rfl ?_
      obtain ⟨F5, eF5⟩ : ∃ F, f_X5_in what (0 : Int32) (1 : Int32) = F := ⟨_, rfl⟩
      rw [eF5]
      try rw [eF5] at eF8
      try rw [eF5] at qr6
      have bF5 : xB F5 := by rw [← eF5]; exact (B_X5_in _ _ _)
      refine x_if_eq (pc := 15) (tgt := 43) dX5_hop_15 (by decide) (fun (c5 : F5 = 0) => ?_) (fun (c5 : ¬ (F5 = 0)) => ?_)
      · rw [if_pos c5] at eF8
        replace qr6 := qr6.1 c5
        refine x_iconst (pc := 43) (v := (-1 : Int32)) dX5_hop_43 (by decide) ?_
        subst eF8
        exact J
      · rw [if_neg c5] at eF8
        replace qr6 := qr6.2 c5
        refine x_aload_n (pc := 18) dX5_hop_18 rfl ?_
        refine x_getf (pc := 19) (v := .ref nw) dX5_hop_19 xf_X5_7 k_o rfl ?_
        refine x_iload_n (pc := 22) dX5_hop_22 rfl ?_
        refine x_iload_n (pc := 23) dX5_hop_23 rfl ?_
        obtain ⟨F6, eF6⟩ : ∃ F, (if what = 0 then (12 : Int32) else (18 : Int32)) = F := ⟨_, rfl⟩
        try rw [eF6] at eF8
        try rw [eF6] at qr6
        refine x_mrg (pc' := 34) (L' := [(0, .ref o), (1, .int i), (2, .int hh), (3, .int what)]) (st' := [.int F6, .int i, .ref nw]) (h' := h) (fun J => ?_) ?_
        · refine x_if_ne (pc := 24) (tgt := 32) dX5_hop_24 (by decide) (fun (c6 : ¬ (what = 0)) => ?_) (fun (c6 : what = 0) => ?_)
          · refine x_bipush (pc := 32) (v := (18 : Int32)) dX5_hop_32 (by decide) ?_
            rw [if_neg c6] at eF6
            subst eF6
            exact J
          · refine x_bipush (pc := 27) (v := (12 : Int32)) dX5_hop_27 (by decide) ?_
            refine x_goto (pc := 29) (tgt := 34) dX5_hop_29 (by decide) ?_
            rw [if_pos c6] at eF6
            subst eF6
            exact J
        refine x_iload_n (pc := 34) dX5_hop_34 rfl ?_
        refine x_iadd (pc := 35) dX5_hop_35 ?_
        refine x_cS2i (pc := 36) dX5_hop_36 xl_X5_36 xs_X5_at (C_X5_at G _ i (F6 + hh)) rfl rfl rfl ?_
        obtain ⟨F7, eF7⟩ : ∃ F, f_X5_at i (F6 + hh) = F := ⟨_, rfl⟩
        rw [eF7]
        try rw [eF7] at eF8
        try rw [eF7] at qr6
        obtain ⟨q39, qr6⟩ := qr6
        refine x_iald (pc := 39) dX5_hop_39 k_nw q39 (j := (F7.toNatClampNeg)) rfl ?_
        refine x_goto (pc := 40) (tgt := 44) dX5_hop_40 (by decide) ?_
        subst eF8
        exact J
  subst er
  exact x_iret (pc := 44) dX5_hop_44 rfl rfl rfl rfl ⟨rfl, rfl⟩

def g_X5_probe_30 (tn : (Nat → Int32)) (i : Int32) (y0 : Int32) (y1 : Int32) : Int32 := (if y0 = y1 then (-4 : Int32) else (f_X5_probed tn i))
def h_X5_probe_30 (tn : (Nat → Int32)) (i : Int32) (y0 : Int32) (y1 : Int32) : Prop := ((y0 = y1 → True) ∧ (¬ (y0 = y1) → (p_X5_probed tn i ∧ True)))
def f_X5_probe (m tn : Nat → Int32) (i : Int32) : Int32 := (if (f_X5_isWay m tn i) = 0 then (-1 : Int32) else (g_X5_probe_30 tn i (tn ((f_X5_at i (0 : Int32)).toNatClampNeg)) (tn ((f_X5_at i (1 : Int32)).toNatClampNeg))))
def p_X5_probe (m tn : Nat → Int32) (i : Int32) : Prop := (((f_X5_isWay m tn i) = 0 → True) ∧ (¬ ((f_X5_isWay m tn i) = 0) → (vp_in (f_X5_at i (0 : Int32)) 103 ∧ (vp_in (f_X5_at i (1 : Int32)) 103 ∧ ((h_X5_probe_30 tn i (tn ((f_X5_at i (0 : Int32)).toNatClampNeg)) (tn ((f_X5_at i (1 : Int32)).toNatClampNeg))) ∧ True)))))
set_option maxRecDepth 100000 in
set_option maxHeartbeats 4000000 in
theorem C_X5_probe (G : xG) (h : xH) (o nw rd sd pa xt : Nat) (m tn : Nat → Int32) (i : Int32) (k_o : hAt h o = some (moC nw rd sd pa xt m)) (k_nw : hAt h nw = some (arI 103 tn)) (hp : p_X5_probe m tn i) : Cd G 2 yX5_probe cX5_probe 2 (some .int) [.ref o, .int i] h (some (.int (f_X5_probe m tn i))) h := by
  refine Ct.of (by decide) (by rfl) ?_
  refine Wp.eqs (L' := [(0, .ref o), (1, .int i)]) (st' := []) rfl rfl ?_
  obtain ⟨R, er⟩ : ∃ R, f_X5_probe m tn i = R := ⟨_, rfl⟩
  rw [er]
  unfold f_X5_probe at er
  unfold p_X5_probe at hp
  refine x_aload_n (pc := 0) dX5_probe_0 rfl ?_
  refine x_iload_n (pc := 1) dX5_probe_1 rfl ?_
  refine x_cV1i (pc := 2) dX5_probe_2 xl_X5_193 xv_X5_isWay k_o rfl (C_X5_isWay G _ o nw rd sd pa xt m tn i k_o k_nw) rfl rfl rfl ?_
  obtain ⟨F1, eF1⟩ : ∃ F, f_X5_isWay m tn i = F := ⟨_, rfl⟩
  rw [eF1]
  try rw [eF1] at er
  try rw [eF1] at hp
  have bF1 : xB F1 := by rw [← eF1]; exact (B_X5_isWay _ _ _)
  refine x_if_ne (pc := 5) (tgt := 10) dX5_probe_5 (by decide) (fun (c1 : ¬ (F1 = 0)) => ?_) (fun (c1 : F1 = 0) => ?_)
  · rw [if_neg c1] at er
    replace hp := hp.2 c1
    refine x_aload_n (pc := 10) dX5_probe_10 rfl ?_
    refine x_getf (pc := 11) (v := .ref nw) dX5_probe_11 xf_X5_7 k_o rfl ?_
    refine x_iload_n (pc := 14) dX5_probe_14 rfl ?_
    refine x_iconst (pc := 15) (v := (0 : Int32)) dX5_probe_15 (by decide) ?_
    refine x_cS2i (pc := 16) dX5_probe_16 xl_X5_36 xs_X5_at (C_X5_at G _ i (0 : Int32)) rfl rfl rfl ?_
    obtain ⟨F2, eF2⟩ : ∃ F, f_X5_at i (0 : Int32) = F := ⟨_, rfl⟩
    rw [eF2]
    try rw [eF2] at er
    try rw [eF2] at hp
    obtain ⟨q19, hp⟩ := hp
    refine x_iald (pc := 19) dX5_probe_19 k_nw q19 (j := (F2.toNatClampNeg)) rfl ?_
    refine x_aload_n (pc := 20) dX5_probe_20 rfl ?_
    refine x_getf (pc := 21) (v := .ref nw) dX5_probe_21 xf_X5_7 k_o rfl ?_
    refine x_iload_n (pc := 24) dX5_probe_24 rfl ?_
    refine x_iconst (pc := 25) (v := (1 : Int32)) dX5_probe_25 (by decide) ?_
    refine x_cS2i (pc := 26) dX5_probe_26 xl_X5_36 xs_X5_at (C_X5_at G _ i (1 : Int32)) rfl rfl rfl ?_
    obtain ⟨F3, eF3⟩ : ∃ F, f_X5_at i (1 : Int32) = F := ⟨_, rfl⟩
    rw [eF3]
    try rw [eF3] at er
    try rw [eF3] at hp
    obtain ⟨q29, hp⟩ := hp
    refine x_iald (pc := 29) dX5_probe_29 k_nw q29 (j := (F3.toNatClampNeg)) rfl ?_
    obtain ⟨qr30, hp⟩ := hp
    obtain ⟨F6, eF6⟩ : ∃ F, g_X5_probe_30 tn i (tn (F2.toNatClampNeg)) (tn (F3.toNatClampNeg)) = F := ⟨_, rfl⟩
    try rw [eF6] at er
    try rw [eF6] at hp
    refine x_mrg (pc' := 46) (L' := [(0, .ref o), (1, .int i)]) (st' := [.int F6]) (h' := h) (fun J => ?_) ?_
    · unfold g_X5_probe_30 at eF6
      unfold h_X5_probe_30 at qr30
      try rw [eF1] at eF6
      try rw [eF1] at qr30
      try rw [eF2] at eF6
      try rw [eF2] at qr30
      try rw [eF3] at eF6
      try rw [eF3] at qr30
      refine x_icmp_ne (pc := 30) (tgt := 38) dX5_probe_30 (by decide) (fun (c3 : ¬ ((tn (F2.toNatClampNeg)) = (tn (F3.toNatClampNeg)))) => ?_) (fun (c3 : (tn (F2.toNatClampNeg)) = (tn (F3.toNatClampNeg))) => ?_)
      · rw [if_neg c3] at eF6
        replace qr30 := qr30.2 c3
        refine x_aload_n (pc := 38) dX5_probe_38 rfl ?_
        refine x_getf (pc := 39) (v := .ref nw) dX5_probe_39 xf_X5_7 k_o rfl ?_
        refine x_iload_n (pc := 42) dX5_probe_42 rfl ?_
        obtain ⟨q43, qr30⟩ := qr30
        refine x_cS2i (pc := 43) dX5_probe_43 xl_X5_172 xs_X5_probed (C_X5_probed G _ nw tn i k_nw q43) rfl rfl rfl ?_
        obtain ⟨F5, eF5⟩ : ∃ F, f_X5_probed tn i = F := ⟨_, rfl⟩
        rw [eF5]
        try rw [eF5] at eF6
        try rw [eF5] at qr30
        subst eF6
        exact J
      · rw [if_pos c3] at eF6
        replace qr30 := qr30.1 c3
        refine x_bipush (pc := 33) (v := (-4 : Int32)) dX5_probe_33 (by decide) ?_
        refine x_goto (pc := 35) (tgt := 46) dX5_probe_35 (by decide) ?_
        subst eF6
        exact J
    subst er
    exact x_iret (pc := 46) dX5_probe_46 rfl rfl rfl rfl ⟨rfl, rfl⟩
  · rw [if_pos c1] at er
    replace hp := hp.1 c1
    refine x_iconst (pc := 8) (v := (-1 : Int32)) dX5_probe_8 (by decide) ?_
    subst er
    exact x_iret (pc := 9) dX5_probe_9 rfl rfl rfl rfl ⟨rfl, rfl⟩

def f_X5_padding (m tn : Nat → Int32) (i c : Int32) : Int32 := (if (f_X5_isWay m tn i) = 0 then (-1 : Int32) else (if (f_X5_in c (0 : Int32) (999 : Int32)) = 0 then (-1 : Int32) else (if (tn ((f_X5_at i (0 : Int32)).toNatClampNeg)) = (tn ((f_X5_at i (1 : Int32)).toNatClampNeg)) then (-4 : Int32) else ((if c ≤ (f_X5_probed tn i) then ((f_X5_probed tn i) - c) else (-2 : Int32))))))
def p_X5_padding (m tn : Nat → Int32) (i c : Int32) : Prop := (((f_X5_isWay m tn i) = 0 → True) ∧ (¬ ((f_X5_isWay m tn i) = 0) → (((f_X5_in c (0 : Int32) (999 : Int32)) = 0 → True) ∧ (¬ ((f_X5_in c (0 : Int32) (999 : Int32)) = 0) → (vp_in (f_X5_at i (0 : Int32)) 103 ∧ (vp_in (f_X5_at i (1 : Int32)) 103 ∧ (((tn ((f_X5_at i (0 : Int32)).toNatClampNeg)) = (tn ((f_X5_at i (1 : Int32)).toNatClampNeg)) → True) ∧ (¬ ((tn ((f_X5_at i (0 : Int32)).toNatClampNeg)) = (tn ((f_X5_at i (1 : Int32)).toNatClampNeg))) → (p_X5_probed tn i ∧ True)))))))))
set_option maxRecDepth 100000 in
set_option maxHeartbeats 4000000 in
theorem C_X5_padding (G : xG) (h : xH) (o nw rd sd pa xt : Nat) (m tn : Nat → Int32) (i c : Int32) (k_o : hAt h o = some (moC nw rd sd pa xt m)) (k_nw : hAt h nw = some (arI 103 tn)) (hp : p_X5_padding m tn i c) : Cd G 2 yX5_padding cX5_padding 4 (some .int) [.ref o, .int i, .int c] h (some (.int (f_X5_padding m tn i c))) h := by
  refine Ct.of (by decide) (by rfl) ?_
  refine Wp.eqs (L' := [(0, .ref o), (1, .int i), (2, .int c)]) (st' := []) rfl rfl ?_
  obtain ⟨R, er⟩ : ∃ R, f_X5_padding m tn i c = R := ⟨_, rfl⟩
  rw [er]
  unfold f_X5_padding at er
  unfold p_X5_padding at hp
  refine x_aload_n (pc := 0) dX5_padding_0 rfl ?_
  refine x_iload_n (pc := 1) dX5_padding_1 rfl ?_
  refine x_cV1i (pc := 2) dX5_padding_2 xl_X5_193 xv_X5_isWay k_o rfl (C_X5_isWay G _ o nw rd sd pa xt m tn i k_o k_nw) rfl rfl rfl ?_
  obtain ⟨F1, eF1⟩ : ∃ F, f_X5_isWay m tn i = F := ⟨_, rfl⟩
  rw [eF1]
  try rw [eF1] at er
  try rw [eF1] at hp
  have bF1 : xB F1 := by rw [← eF1]; exact (B_X5_isWay _ _ _)
  refine x_if_eq (pc := 5) (tgt := 19) dX5_padding_5 (by decide) (fun (c1 : F1 = 0) => ?_) (fun (c1 : ¬ (F1 = 0)) => ?_)
  · rw [if_pos c1] at er
    replace hp := hp.1 c1
    refine x_iconst (pc := 19) (v := (-1 : Int32)) dX5_padding_19 (by decide) ?_
    subst er
    exact x_iret (pc := 20) dX5_padding_20 rfl rfl rfl rfl ⟨rfl, rfl⟩
  · rw [if_neg c1] at er
    replace hp := hp.2 c1
    refine x_iload_n (pc := 8) dX5_padding_8 rfl ?_
    refine x_iconst (pc := 9) (v := (0 : Int32)) dX5_padding_9 (by decide) ?_
    refine x_sipush (pc := 10) (v := (999 : Int32)) dX5_padding_10 (by decide) ?_
    refine x_cS3i (pc := 13) dX5_padding_13 xl_X5_57 xs_X5_in (C_X5_in G _ c (0 : Int32) (999 : Int32)) rfl rfl rfl ?_
    obtain ⟨F2, eF2⟩ : ∃ F, f_X5_in c (0 : Int32) (999 : Int32) = F := ⟨_, rfl⟩
    rw [eF2]
    try rw [eF2] at er
    try rw [eF2] at hp
    have bF2 : xB F2 := by rw [← eF2]; exact (B_X5_in _ _ _)
    refine x_if_ne (pc := 16) (tgt := 21) dX5_padding_16 (by decide) (fun (c2 : ¬ (F2 = 0)) => ?_) (fun (c2 : F2 = 0) => ?_)
    · rw [if_neg c2] at er
      replace hp := hp.2 c2
      refine x_aload_n (pc := 21) dX5_padding_21 rfl ?_
      refine x_getf (pc := 22) (v := .ref nw) dX5_padding_22 xf_X5_7 k_o rfl ?_
      refine x_iload_n (pc := 25) dX5_padding_25 rfl ?_
      refine x_iconst (pc := 26) (v := (0 : Int32)) dX5_padding_26 (by decide) ?_
      refine x_cS2i (pc := 27) dX5_padding_27 xl_X5_36 xs_X5_at (C_X5_at G _ i (0 : Int32)) rfl rfl rfl ?_
      obtain ⟨F3, eF3⟩ : ∃ F, f_X5_at i (0 : Int32) = F := ⟨_, rfl⟩
      rw [eF3]
      try rw [eF3] at er
      try rw [eF3] at hp
      obtain ⟨q30, hp⟩ := hp
      refine x_iald (pc := 30) dX5_padding_30 k_nw q30 (j := (F3.toNatClampNeg)) rfl ?_
      refine x_aload_n (pc := 31) dX5_padding_31 rfl ?_
      refine x_getf (pc := 32) (v := .ref nw) dX5_padding_32 xf_X5_7 k_o rfl ?_
      refine x_iload_n (pc := 35) dX5_padding_35 rfl ?_
      refine x_iconst (pc := 36) (v := (1 : Int32)) dX5_padding_36 (by decide) ?_
      refine x_cS2i (pc := 37) dX5_padding_37 xl_X5_36 xs_X5_at (C_X5_at G _ i (1 : Int32)) rfl rfl rfl ?_
      obtain ⟨F4, eF4⟩ : ∃ F, f_X5_at i (1 : Int32) = F := ⟨_, rfl⟩
      rw [eF4]
      try rw [eF4] at er
      try rw [eF4] at hp
      obtain ⟨q40, hp⟩ := hp
      refine x_iald (pc := 40) dX5_padding_40 k_nw q40 (j := (F4.toNatClampNeg)) rfl ?_
      refine x_icmp_ne (pc := 41) (tgt := 47) dX5_padding_41 (by decide) (fun (c3 : ¬ ((tn (F3.toNatClampNeg)) = (tn (F4.toNatClampNeg)))) => ?_) (fun (c3 : (tn (F3.toNatClampNeg)) = (tn (F4.toNatClampNeg))) => ?_)
      · rw [if_neg c3] at er
        replace hp := hp.2 c3
        refine x_aload_n (pc := 47) dX5_padding_47 rfl ?_
        refine x_getf (pc := 48) (v := .ref nw) dX5_padding_48 xf_X5_7 k_o rfl ?_
        refine x_iload_n (pc := 51) dX5_padding_51 rfl ?_
        obtain ⟨q52, hp⟩ := hp
        refine x_cS2i (pc := 52) dX5_padding_52 xl_X5_172 xs_X5_probed (C_X5_probed G _ nw tn i k_nw q52) rfl rfl rfl ?_
        obtain ⟨F5, eF5⟩ : ∃ F, f_X5_probed tn i = F := ⟨_, rfl⟩
        rw [eF5]
        try rw [eF5] at er
        try rw [eF5] at hp
        refine x_istore_n (pc := 55) (L' := [(3, .int F5), (0, .ref o), (1, .int i), (2, .int c)]) dX5_padding_55 rfl rfl ?_
        refine x_iload_n (pc := 56) dX5_padding_56 rfl ?_
        refine x_iload_n (pc := 57) dX5_padding_57 rfl ?_
        obtain ⟨F6, eF6⟩ : ∃ F, (if c ≤ F5 then (F5 - c) else (-2 : Int32)) = F := ⟨_, rfl⟩
        try rw [eF6] at er
        try rw [eF6] at hp
        refine x_mrg (pc' := 69) (L' := [(3, .int F5), (0, .ref o), (1, .int i), (2, .int c)]) (st' := [.int F6]) (h' := h) (fun J => ?_) ?_
        · refine x_icmp_le (pc := 58) (tgt := 66) dX5_padding_58 (by decide) (fun (c4 : c ≤ F5) => ?_) (fun (c4 : ¬ (c ≤ F5)) => ?_)
          · refine x_iload_n (pc := 66) dX5_padding_66 rfl ?_
            refine x_iload_n (pc := 67) dX5_padding_67 rfl ?_
            refine x_isub (pc := 68) dX5_padding_68 ?_
            rw [if_pos c4] at eF6
            subst eF6
            exact J
          · refine x_bipush (pc := 61) (v := (-2 : Int32)) dX5_padding_61 (by decide) ?_
            refine x_goto (pc := 63) (tgt := 69) dX5_padding_63 (by decide) ?_
            rw [if_neg c4] at eF6
            subst eF6
            exact J
        subst er
        exact x_iret (pc := 69) dX5_padding_69 rfl rfl rfl rfl ⟨rfl, rfl⟩
      · rw [if_pos c3] at er
        replace hp := hp.1 c3
        refine x_bipush (pc := 44) (v := (-4 : Int32)) dX5_padding_44 (by decide) ?_
        subst er
        exact x_iret (pc := 46) dX5_padding_46 rfl rfl rfl rfl ⟨rfl, rfl⟩
    · rw [if_pos c2] at er
      replace hp := hp.1 c2
      refine x_iconst (pc := 19) (v := (-1 : Int32)) dX5_padding_19 (by decide) ?_
      subst er
      exact x_iret (pc := 20) dX5_padding_20 rfl rfl rfl rfl ⟨rfl, rfl⟩

def g_X5_meets_31 (tn : (Nat → Int32)) (i : Int32) (size : Int32) (what : Int32) : Int32 := (if what = 0 then (f_X5_met tn i size) else (f_X5_dropper tn i size))
def h_X5_meets_31 (tn : (Nat → Int32)) (i : Int32) (size : Int32) (what : Int32) : Prop := ((what = 0 → (p_X5_met tn i size ∧ True)) ∧ (¬ (what = 0) → (p_X5_dropper tn i size ∧ True)))
def f_X5_meets (m tn : Nat → Int32) (i size what : Int32) : Int32 := (if (f_X5_isWay m tn i) = 0 then (-1 : Int32) else (if (f_X5_in size (1 : Int32) (999 : Int32)) = 0 then (-1 : Int32) else (if (f_X5_in what (0 : Int32) (1 : Int32)) = 0 then (-1 : Int32) else (g_X5_meets_31 tn i size what))))
def p_X5_meets (m tn : Nat → Int32) (i size what : Int32) : Prop := (((f_X5_isWay m tn i) = 0 → True) ∧ (¬ ((f_X5_isWay m tn i) = 0) → (((f_X5_in size (1 : Int32) (999 : Int32)) = 0 → True) ∧ (¬ ((f_X5_in size (1 : Int32) (999 : Int32)) = 0) → (((f_X5_in what (0 : Int32) (1 : Int32)) = 0 → True) ∧ (¬ ((f_X5_in what (0 : Int32) (1 : Int32)) = 0) → ((h_X5_meets_31 tn i size what) ∧ True)))))))
set_option maxRecDepth 100000 in
set_option maxHeartbeats 4000000 in
theorem C_X5_meets (G : xG) (h : xH) (o nw rd sd pa xt : Nat) (m tn : Nat → Int32) (i size what : Int32) (k_o : hAt h o = some (moC nw rd sd pa xt m)) (k_nw : hAt h nw = some (arI 103 tn)) (hp : p_X5_meets m tn i size what) : Cd G 3 yX5_meets cX5_meets 4 (some .int) [.ref o, .int i, .int size, .int what] h (some (.int (f_X5_meets m tn i size what))) h := by
  refine Ct.of (by decide) (by rfl) ?_
  refine Wp.eqs (L' := [(0, .ref o), (1, .int i), (2, .int size), (3, .int what)]) (st' := []) rfl rfl ?_
  obtain ⟨R, er⟩ : ∃ R, f_X5_meets m tn i size what = R := ⟨_, rfl⟩
  rw [er]
  unfold f_X5_meets at er
  unfold p_X5_meets at hp
  refine x_aload_n (pc := 0) dX5_meets_0 rfl ?_
  refine x_iload_n (pc := 1) dX5_meets_1 rfl ?_
  refine x_cV1i (pc := 2) dX5_meets_2 xl_X5_193 xv_X5_isWay k_o rfl (C_X5_isWay G _ o nw rd sd pa xt m tn i k_o k_nw) rfl rfl rfl ?_
  obtain ⟨F1, eF1⟩ : ∃ F, f_X5_isWay m tn i = F := ⟨_, rfl⟩
  rw [eF1]
  try rw [eF1] at er
  try rw [eF1] at hp
  have bF1 : xB F1 := by rw [← eF1]; exact (B_X5_isWay _ _ _)
  refine x_if_eq (pc := 5) (tgt := 28) dX5_meets_5 (by decide) (fun (c1 : F1 = 0) => ?_) (fun (c1 : ¬ (F1 = 0)) => ?_)
  · rw [if_pos c1] at er
    replace hp := hp.1 c1
    refine x_iconst (pc := 28) (v := (-1 : Int32)) dX5_meets_28 (by decide) ?_
    subst er
    exact x_iret (pc := 29) dX5_meets_29 rfl rfl rfl rfl ⟨rfl, rfl⟩
  · rw [if_neg c1] at er
    replace hp := hp.2 c1
    refine x_iload_n (pc := 8) dX5_meets_8 rfl ?_
    refine x_iconst (pc := 9) (v := (1 : Int32)) dX5_meets_9 (by decide) ?_
    refine x_sipush (pc := 10) (v := (999 : Int32)) dX5_meets_10 (by decide) ?_
    refine x_cS3i (pc := 13) dX5_meets_13 xl_X5_57 xs_X5_in (C_X5_in G _ size (1 : Int32) (999 : Int32)) rfl rfl rfl ?_
    obtain ⟨F2, eF2⟩ : ∃ F, f_X5_in size (1 : Int32) (999 : Int32) = F := ⟨_, rfl⟩
    rw [eF2]
    try rw [eF2] at er
    try rw [eF2] at hp
    have bF2 : xB F2 := by rw [← eF2]; exact (B_X5_in _ _ _)
    refine x_if_eq (pc := 16) (tgt := 28) dX5_meets_16 (by decide) (fun (c2 : F2 = 0) => ?_) (fun (c2 : ¬ (F2 = 0)) => ?_)
    · rw [if_pos c2] at er
      replace hp := hp.1 c2
      refine x_iconst (pc := 28) (v := (-1 : Int32)) dX5_meets_28 (by decide) ?_
      subst er
      exact x_iret (pc := 29) dX5_meets_29 rfl rfl rfl rfl ⟨rfl, rfl⟩
    · rw [if_neg c2] at er
      replace hp := hp.2 c2
      refine x_iload_n (pc := 19) dX5_meets_19 rfl ?_
      refine x_iconst (pc := 20) (v := (0 : Int32)) dX5_meets_20 (by decide) ?_
      refine x_iconst (pc := 21) (v := (1 : Int32)) dX5_meets_21 (by decide) ?_
      refine x_cS3i (pc := 22) dX5_meets_22 xl_X5_57 xs_X5_in (C_X5_in G _ what (0 : Int32) (1 : Int32)) rfl rfl rfl ?_
      obtain ⟨F3, eF3⟩ : ∃ F, f_X5_in what (0 : Int32) (1 : Int32) = F := ⟨_, rfl⟩
      rw [eF3]
      try rw [eF3] at er
      try rw [eF3] at hp
      have bF3 : xB F3 := by rw [← eF3]; exact (B_X5_in _ _ _)
      refine x_if_ne (pc := 25) (tgt := 30) dX5_meets_25 (by decide) (fun (c3 : ¬ (F3 = 0)) => ?_) (fun (c3 : F3 = 0) => ?_)
      · rw [if_neg c3] at er
        replace hp := hp.2 c3
        refine x_iload_n (pc := 30) dX5_meets_30 rfl ?_
        obtain ⟨qr31, hp⟩ := hp
        obtain ⟨F8, eF8⟩ : ∃ F, g_X5_meets_31 tn i size what = F := ⟨_, rfl⟩
        try rw [eF8] at er
        try rw [eF8] at hp
        refine x_mrg (pc' := 55) (L' := [(0, .ref o), (1, .int i), (2, .int size), (3, .int what)]) (st' := [.int F8]) (h' := h) (fun J => ?_) ?_
        · unfold g_X5_meets_31 at eF8
          unfold h_X5_meets_31 at qr31
          try rw [eF1] at eF8
          try rw [eF1] at qr31
          try rw [eF2] at eF8
          try rw [eF2] at qr31
          try rw [eF3] at eF8
          try rw [eF3] at qr31
          refine x_if_ne (pc := 31) (tgt := 46) dX5_meets_31 (by decide) (fun (c5 : ¬ (what = 0)) => ?_) (fun (c5 : what = 0) => ?_)
          · rw [if_neg c5] at eF8
            replace qr31 := qr31.2 c5
            refine x_aload_n (pc := 46) dX5_meets_46 rfl ?_
            refine x_getf (pc := 47) (v := .ref nw) dX5_meets_47 xf_X5_7 k_o rfl ?_
            refine x_iload_n (pc := 50) dX5_meets_50 rfl ?_
            refine x_iload_n (pc := 51) dX5_meets_51 rfl ?_
            obtain ⟨q52, qr31⟩ := qr31
            refine x_cS3i (pc := 52) dX5_meets_52 xl_X5_138 xs_X5_dropper (C_X5_dropper G _ nw tn i size k_nw q52) rfl rfl rfl ?_
            obtain ⟨F6, eF6⟩ : ∃ F, f_X5_dropper tn i size = F := ⟨_, rfl⟩
            rw [eF6]
            try rw [eF6] at eF8
            try rw [eF6] at qr31
            subst eF8
            exact J
          · rw [if_pos c5] at eF8
            replace qr31 := qr31.1 c5
            refine x_aload_n (pc := 34) dX5_meets_34 rfl ?_
            refine x_getf (pc := 35) (v := .ref nw) dX5_meets_35 xf_X5_7 k_o rfl ?_
            refine x_iload_n (pc := 38) dX5_meets_38 rfl ?_
            refine x_iload_n (pc := 39) dX5_meets_39 rfl ?_
            obtain ⟨q40, qr31⟩ := qr31
            refine x_cS3i (pc := 40) dX5_meets_40 xl_X5_148 xs_X5_met (C_X5_met G _ nw tn i size k_nw q40) rfl rfl rfl ?_
            obtain ⟨F7, eF7⟩ : ∃ F, f_X5_met tn i size = F := ⟨_, rfl⟩
            rw [eF7]
            try rw [eF7] at eF8
            try rw [eF7] at qr31
            refine x_goto (pc := 43) (tgt := 55) dX5_meets_43 (by decide) ?_
            subst eF8
            exact J
        subst er
        exact x_iret (pc := 55) dX5_meets_55 rfl rfl rfl rfl ⟨rfl, rfl⟩
      · rw [if_pos c3] at er
        replace hp := hp.1 c3
        refine x_iconst (pc := 28) (v := (-1 : Int32)) dX5_meets_28 (by decide) ?_
        subst er
        exact x_iret (pc := 29) dX5_meets_29 rfl rfl rfl rfl ⟨rfl, rfl⟩

def g_X5_draw_5 (tn : (Nat → Int32)) (i : Int32) (k : Int32) (y0 : Int32) : Int32 := (if y0 = 0 then (-1 : Int32) else (if (f_X5_in k (0 : Int32) (9999 : Int32)) = 0 then (-1 : Int32) else (f_X5_drawn tn i k)))
def f_X5_draw (m tn : Nat → Int32) (i k : Int32) : Int32 := (g_X5_draw_5 tn i k (f_X5_isWay m tn i))
set_option maxRecDepth 100000 in
set_option maxHeartbeats 4000000 in
theorem C_X5_draw (G : xG) (h : xH) (o nw rd sd pa xt : Nat) (m tn : Nat → Int32) (i k : Int32) (k_o : hAt h o = some (moC nw rd sd pa xt m)) (k_nw : hAt h nw = some (arI 103 tn)) : Cd G 2 yX5_draw cX5_draw 3 (some .int) [.ref o, .int i, .int k] h (some (.int (f_X5_draw m tn i k))) h := by
  refine Ct.of (by decide) (by rfl) ?_
  refine Wp.eqs (L' := [(0, .ref o), (1, .int i), (2, .int k)]) (st' := []) rfl rfl ?_
  obtain ⟨R, er⟩ : ∃ R, f_X5_draw m tn i k = R := ⟨_, rfl⟩
  rw [er]
  unfold f_X5_draw at er
  refine x_aload_n (pc := 0) dX5_draw_0 rfl ?_
  refine x_iload_n (pc := 1) dX5_draw_1 rfl ?_
  refine x_cV1i (pc := 2) dX5_draw_2 xl_X5_193 xv_X5_isWay k_o rfl (C_X5_isWay G _ o nw rd sd pa xt m tn i k_o k_nw) rfl rfl rfl ?_
  obtain ⟨F1, eF1⟩ : ∃ F, f_X5_isWay m tn i = F := ⟨_, rfl⟩
  rw [eF1]
  try rw [eF1] at er
  have bF1 : xB F1 := by rw [← eF1]; exact (B_X5_isWay _ _ _)
  obtain ⟨F6, eF6⟩ : ∃ F, g_X5_draw_5 tn i k F1 = F := ⟨_, rfl⟩
  try rw [eF6] at er
  refine x_mrg (pc' := 32) (L' := [(0, .ref o), (1, .int i), (2, .int k)]) (st' := [.int F6]) (h' := h) (fun J => ?_) ?_
  · unfold g_X5_draw_5 at eF6
    try rw [eF1] at eF6
    refine x_if_eq (pc := 5) (tgt := 31) dX5_draw_5 (by decide) (fun (c3 : F1 = 0) => ?_) (fun (c3 : ¬ (F1 = 0)) => ?_)
    · rw [if_pos c3] at eF6
      refine x_iconst (pc := 31) (v := (-1 : Int32)) dX5_draw_31 (by decide) ?_
      subst eF6
      exact J
    · rw [if_neg c3] at eF6
      refine x_iload_n (pc := 8) dX5_draw_8 rfl ?_
      refine x_iconst (pc := 9) (v := (0 : Int32)) dX5_draw_9 (by decide) ?_
      refine x_sipush (pc := 10) (v := (9999 : Int32)) dX5_draw_10 (by decide) ?_
      refine x_cS3i (pc := 13) dX5_draw_13 xl_X5_57 xs_X5_in (C_X5_in G _ k (0 : Int32) (9999 : Int32)) rfl rfl rfl ?_
      obtain ⟨F4, eF4⟩ : ∃ F, f_X5_in k (0 : Int32) (9999 : Int32) = F := ⟨_, rfl⟩
      rw [eF4]
      try rw [eF4] at eF6
      have bF4 : xB F4 := by rw [← eF4]; exact (B_X5_in _ _ _)
      refine x_if_eq (pc := 16) (tgt := 31) dX5_draw_16 (by decide) (fun (c4 : F4 = 0) => ?_) (fun (c4 : ¬ (F4 = 0)) => ?_)
      · rw [if_pos c4] at eF6
        refine x_iconst (pc := 31) (v := (-1 : Int32)) dX5_draw_31 (by decide) ?_
        subst eF6
        exact J
      · rw [if_neg c4] at eF6
        refine x_aload_n (pc := 19) dX5_draw_19 rfl ?_
        refine x_getf (pc := 20) (v := .ref nw) dX5_draw_20 xf_X5_7 k_o rfl ?_
        refine x_iload_n (pc := 23) dX5_draw_23 rfl ?_
        refine x_iload_n (pc := 24) dX5_draw_24 rfl ?_
        refine x_cS3i (pc := 25) dX5_draw_25 xl_X5_145 xs_X5_drawn (C_X5_drawn G _ nw tn i k k_nw) rfl rfl rfl ?_
        obtain ⟨F5, eF5⟩ : ∃ F, f_X5_drawn tn i k = F := ⟨_, rfl⟩
        rw [eF5]
        try rw [eF5] at eF6
        refine x_goto (pc := 28) (tgt := 32) dX5_draw_28 (by decide) ?_
        subst eF6
        exact J
  subst er
  exact x_iret (pc := 32) dX5_draw_32 rfl rfl rfl rfl ⟨rfl, rfl⟩

def l_X5_ahead_45 : Nat → (Nat → Int32) → (Nat → Int32) → (Nat → Int32) → Int32 → Int32 → Int32 → (Nat → Int32) → Int32 → (Nat → Int32) → (Nat → Int32) × Int32 × (Nat → Int32)
  | 0, _, _, _, _, _, _, _, _, _ => ((fun _ => 0), 0, (fun _ => 0))
  | n + 1, m, tn, ts, nn, i, what, x_sd, v4, x_o => (if nn ≤ v4 then (x_sd, v4, x_o) else (l_X5_ahead_45 n m tn ts nn i what (f_X5_ticks x_o x_sd i).2 (v4 + (1 : Int32)) (f_X5_ticks x_o x_sd i).1))
def q_X5_ahead_45 : Nat → (Nat → Int32) → (Nat → Int32) → (Nat → Int32) → Int32 → Int32 → Int32 → (Nat → Int32) → Int32 → (Nat → Int32) → Prop
  | 0, _, _, _, _, _, _, _, _, _ => False
  | n + 1, m, tn, ts, nn, i, what, x_sd, v4, x_o => ((nn ≤ v4 → True) ∧ (¬ (nn ≤ v4) → (p_X5_ticks x_o x_sd i ∧ (q_X5_ahead_45 n m tn ts nn i what (f_X5_ticks x_o x_sd i).2 (v4 + (1 : Int32)) (f_X5_ticks x_o x_sd i).1))))
set_option maxRecDepth 100000 in
set_option maxHeartbeats 4000000 in
theorem L_X5_ahead_45 (G : xG) (h : xH) (o nw rd sd pa xt : Nat) (m tn ts : Nat → Int32) (nn i what : Int32) (k_o : hAt h o = some (moC nw rd sd pa xt m)) (k_nw : hAt h nw = some (arI 103 tn)) (k_sd : hAt h sd = some (arI 103 ts)) (n_nw_sd : nw ≠ sd) {Z : xZ} : ∀ (n : Nat) (x_sd : (Nat → Int32)) (v4 : Int32) (x_o : (Nat → Int32)), q_X5_ahead_45 n m tn ts nn i what x_sd v4 x_o → Wp G yX5_ahead.cls cX5_ahead 5 yX5_ahead.name (some .int) (xR 6 0 0) Z 0 0 66 [(4, .int (l_X5_ahead_45 n m tn ts nn i what x_sd v4 x_o).2.1), (0, .ref o), (1, .int nn), (2, .int i), (3, .int what)] [] (hSet (hSet h o (moC nw rd sd pa xt (l_X5_ahead_45 n m tn ts nn i what x_sd v4 x_o).2.2)) sd (arI 103 (l_X5_ahead_45 n m tn ts nn i what x_sd v4 x_o).1)) → Wp G yX5_ahead.cls cX5_ahead 5 yX5_ahead.name (some .int) (xR 6 0 0) Z 0 0 45 [(4, .int v4), (0, .ref o), (1, .int nn), (2, .int i), (3, .int what)] [] (hSet (hSet h o (moC nw rd sd pa xt x_o)) sd (arI 103 x_sd)) := by
  have n_nw_o : nw ≠ o := hne_k k_nw k_o rfl
  have n_o_sd : o ≠ sd := hne_k k_o k_sd rfl
  intro n
  induction n with
  | zero => intro x_sd v4 x_o hp; exact absurd hp id
  | succ n ih =>
    intro x_sd v4 x_o hp kk
    obtain ⟨R, er⟩ : ∃ R, l_X5_ahead_45 (n + 1) m tn ts nn i what x_sd v4 x_o = R := ⟨_, rfl⟩
    rw [er] at kk
    rw [l_X5_ahead_45] at er
    rw [q_X5_ahead_45] at hp
    refine x_iload (pc := 45) dX5_ahead_45 rfl ?_
    refine x_iload_n (pc := 47) dX5_ahead_47 rfl ?_
    refine x_icmp_ge (pc := 48) (tgt := 66) dX5_ahead_48 (by decide) (fun (c4 : nn ≤ v4) => ?_) (fun (c4 : ¬ (nn ≤ v4)) => ?_)
    · rw [if_pos c4] at er
      replace hp := hp.1 c4
      subst er
      exact kk
    · rw [if_neg c4] at er
      replace hp := hp.2 c4
      refine x_aload_n (pc := 51) dX5_ahead_51 rfl ?_
      refine x_aload_n (pc := 52) dX5_ahead_52 rfl ?_
      refine x_getf (pc := 53) (v := .ref sd) dX5_ahead_53 xf_X5_16 (hAt_n n_o_sd hAt_same) rfl ?_
      refine x_iload_n (pc := 56) dX5_ahead_56 rfl ?_
      obtain ⟨q57, hp⟩ := hp
      refine x_cV2v (pc := 57) dX5_ahead_57 xl_X5_190 xv_X5_ticks (hAt_n n_o_sd hAt_same) rfl (C_X5_ticks G _ o sd nw rd sd pa xt x_o x_sd i (hAt_n n_o_sd hAt_same) hAt_same q57) rfl rfl rfl ?_
      obtain ⟨F6, eF6⟩ : ∃ F, f_X5_ticks x_o x_sd i = F := ⟨_, rfl⟩
      rw [eF6]
      try rw [eF6] at er
      try rw [eF6] at hp
      refine Wp.eqh (h' := (hSet (hSet h o (moC nw rd sd pa xt F6.1)) sd (arI 103 F6.2))) ((congrArg (fun z => hSet z sd _) (hSet_sw1 n_o_sd)).trans (hSet_set)) ?_
      refine x_iinc (pc := 60) (v := (v4 + (1 : Int32))) (L' := [(4, .int (v4 + (1 : Int32))), (0, .ref o), (1, .int nn), (2, .int i), (3, .int what)]) dX5_ahead_60 rfl rfl rfl rfl ?_
      refine x_goto (pc := 63) (tgt := 45) dX5_ahead_63 (by decide) ?_
      subst er
      exact ih F6.2 (v4 + (1 : Int32)) F6.1 hp kk
def f_X5_ahead (m tn ts : Nat → Int32) (nn i what : Int32) : Int32 × (Nat → Int32) × (Nat → Int32) := (if (f_X5_in nn (1 : Int32) (99 : Int32)) = 0 then ((-1 : Int32), m, ts) else (if (f_X5_isWay m tn i) = 0 then ((-1 : Int32), m, ts) else (if (f_X5_in what (0 : Int32) (4 : Int32)) = 0 then ((-1 : Int32), m, ts) else (if (3 : Int32) ≤ what then ((((l_X5_ahead_45 xK m tn ts nn i what (f_X5_copiesA tn ts (0 : Int32) (0 : Int32)) (0 : Int32) m).1 ((f_X5_at i ((if what = (3 : Int32) then (6 : Int32) else (8 : Int32)))).toNatClampNeg)) - (tn ((f_X5_at i ((if what = (3 : Int32) then (6 : Int32) else (8 : Int32)))).toNatClampNeg))), (l_X5_ahead_45 xK m tn ts nn i what (f_X5_copiesA tn ts (0 : Int32) (0 : Int32)) (0 : Int32) m).2.2, (l_X5_ahead_45 xK m tn ts nn i what (f_X5_copiesA tn ts (0 : Int32) (0 : Int32)) (0 : Int32) m).1) else (((l_X5_ahead_45 xK m tn ts nn i what (f_X5_copiesA tn ts (0 : Int32) (0 : Int32)) (0 : Int32) m).1 ((f_X5_at i what).toNatClampNeg)), (l_X5_ahead_45 xK m tn ts nn i what (f_X5_copiesA tn ts (0 : Int32) (0 : Int32)) (0 : Int32) m).2.2, (l_X5_ahead_45 xK m tn ts nn i what (f_X5_copiesA tn ts (0 : Int32) (0 : Int32)) (0 : Int32) m).1)))))
def p_X5_ahead (m tn ts : Nat → Int32) (nn i what : Int32) : Prop := (((f_X5_in nn (1 : Int32) (99 : Int32)) = 0 → True) ∧ (¬ ((f_X5_in nn (1 : Int32) (99 : Int32)) = 0) → (((f_X5_isWay m tn i) = 0 → True) ∧ (¬ ((f_X5_isWay m tn i) = 0) → (((f_X5_in what (0 : Int32) (4 : Int32)) = 0 → True) ∧ (¬ ((f_X5_in what (0 : Int32) (4 : Int32)) = 0) → (p_X5_copiesA tn ts (0 : Int32) (0 : Int32) ∧ ((q_X5_ahead_45 xK m tn ts nn i what (f_X5_copiesA tn ts (0 : Int32) (0 : Int32)) (0 : Int32) m) ∧ (((3 : Int32) ≤ what → (vp_in (f_X5_at i ((if what = (3 : Int32) then (6 : Int32) else (8 : Int32)))) 103 ∧ (vp_in (f_X5_at i ((if what = (3 : Int32) then (6 : Int32) else (8 : Int32)))) 103 ∧ True))) ∧ (¬ ((3 : Int32) ≤ what) → (vp_in (f_X5_at i what) 103 ∧ True)))))))))))
set_option maxRecDepth 100000 in
set_option maxHeartbeats 4000000 in
theorem C_X5_ahead (G : xG) (h : xH) (o nw rd sd pa xt : Nat) (m tn ts : Nat → Int32) (nn i what : Int32) (k_o : hAt h o = some (moC nw rd sd pa xt m)) (k_nw : hAt h nw = some (arI 103 tn)) (k_sd : hAt h sd = some (arI 103 ts)) (n_nw_sd : nw ≠ sd) (hp : p_X5_ahead m tn ts nn i what) : Cd G 6 yX5_ahead cX5_ahead 5 (some .int) [.ref o, .int nn, .int i, .int what] h (some (.int (f_X5_ahead m tn ts nn i what).1)) (hSet (hSet h o (moC nw rd sd pa xt (f_X5_ahead m tn ts nn i what).2.1)) sd (arI 103 (f_X5_ahead m tn ts nn i what).2.2)) := by
  have n_nw_o : nw ≠ o := hne_k k_nw k_o rfl
  have n_o_sd : o ≠ sd := hne_k k_o k_sd rfl
  refine Ct.of (by decide) (by rfl) ?_
  refine Wp.eqs (L' := [(0, .ref o), (1, .int nn), (2, .int i), (3, .int what)]) (st' := []) rfl rfl ?_
  refine Wp.eqh (h' := (hSet (hSet h o (moC nw rd sd pa xt m)) sd (arI 103 ts))) (by rw [hSet_self k_o, hSet_self k_sd]) ?_
  obtain ⟨R, er⟩ : ∃ R, f_X5_ahead m tn ts nn i what = R := ⟨_, rfl⟩
  rw [er]
  unfold f_X5_ahead at er
  unfold p_X5_ahead at hp
  refine x_iload_n (pc := 0) dX5_ahead_0 rfl ?_
  refine x_iconst (pc := 1) (v := (1 : Int32)) dX5_ahead_1 (by decide) ?_
  refine x_bipush (pc := 2) (v := (99 : Int32)) dX5_ahead_2 (by decide) ?_
  refine x_cS3i (pc := 4) dX5_ahead_4 xl_X5_57 xs_X5_in (C_X5_in G _ nn (1 : Int32) (99 : Int32)) rfl rfl rfl ?_
  obtain ⟨F1, eF1⟩ : ∃ F, f_X5_in nn (1 : Int32) (99 : Int32) = F := ⟨_, rfl⟩
  rw [eF1]
  try rw [eF1] at er
  try rw [eF1] at hp
  have bF1 : xB F1 := by rw [← eF1]; exact (B_X5_in _ _ _)
  refine x_if_eq (pc := 7) (tgt := 27) dX5_ahead_7 (by decide) (fun (c1 : F1 = 0) => ?_) (fun (c1 : ¬ (F1 = 0)) => ?_)
  · rw [if_pos c1] at er
    replace hp := hp.1 c1
    refine x_iconst (pc := 27) (v := (-1 : Int32)) dX5_ahead_27 (by decide) ?_
    subst er
    exact x_iret (pc := 28) dX5_ahead_28 rfl rfl rfl rfl ⟨rfl, rfl⟩
  · rw [if_neg c1] at er
    replace hp := hp.2 c1
    refine x_aload_n (pc := 10) dX5_ahead_10 rfl ?_
    refine x_iload_n (pc := 11) dX5_ahead_11 rfl ?_
    refine x_cV1i (pc := 12) dX5_ahead_12 xl_X5_193 xv_X5_isWay (hAt_n n_o_sd hAt_same) rfl (C_X5_isWay G _ o nw rd sd pa xt m tn i (hAt_n n_o_sd hAt_same) (hAt_n n_nw_sd (hAt_n n_nw_o k_nw))) rfl rfl rfl ?_
    obtain ⟨F2, eF2⟩ : ∃ F, f_X5_isWay m tn i = F := ⟨_, rfl⟩
    rw [eF2]
    try rw [eF2] at er
    try rw [eF2] at hp
    have bF2 : xB F2 := by rw [← eF2]; exact (B_X5_isWay _ _ _)
    refine x_if_eq (pc := 15) (tgt := 27) dX5_ahead_15 (by decide) (fun (c2 : F2 = 0) => ?_) (fun (c2 : ¬ (F2 = 0)) => ?_)
    · rw [if_pos c2] at er
      replace hp := hp.1 c2
      refine x_iconst (pc := 27) (v := (-1 : Int32)) dX5_ahead_27 (by decide) ?_
      subst er
      exact x_iret (pc := 28) dX5_ahead_28 rfl rfl rfl rfl ⟨rfl, rfl⟩
    · rw [if_neg c2] at er
      replace hp := hp.2 c2
      refine x_iload_n (pc := 18) dX5_ahead_18 rfl ?_
      refine x_iconst (pc := 19) (v := (0 : Int32)) dX5_ahead_19 (by decide) ?_
      refine x_iconst (pc := 20) (v := (4 : Int32)) dX5_ahead_20 (by decide) ?_
      refine x_cS3i (pc := 21) dX5_ahead_21 xl_X5_57 xs_X5_in (C_X5_in G _ what (0 : Int32) (4 : Int32)) rfl rfl rfl ?_
      obtain ⟨F3, eF3⟩ : ∃ F, f_X5_in what (0 : Int32) (4 : Int32) = F := ⟨_, rfl⟩
      rw [eF3]
      try rw [eF3] at er
      try rw [eF3] at hp
      have bF3 : xB F3 := by rw [← eF3]; exact (B_X5_in _ _ _)
      refine x_if_ne (pc := 24) (tgt := 29) dX5_ahead_24 (by decide) (fun (c3 : ¬ (F3 = 0)) => ?_) (fun (c3 : F3 = 0) => ?_)
      · rw [if_neg c3] at er
        replace hp := hp.2 c3
        refine x_aload_n (pc := 29) dX5_ahead_29 rfl ?_
        refine x_getf (pc := 30) (v := .ref nw) dX5_ahead_30 xf_X5_7 (hAt_n n_o_sd hAt_same) rfl ?_
        refine x_iconst (pc := 33) (v := (0 : Int32)) dX5_ahead_33 (by decide) ?_
        refine x_aload_n (pc := 34) dX5_ahead_34 rfl ?_
        refine x_getf (pc := 35) (v := .ref sd) dX5_ahead_35 xf_X5_16 (hAt_n n_o_sd hAt_same) rfl ?_
        refine x_iconst (pc := 38) (v := (0 : Int32)) dX5_ahead_38 (by decide) ?_
        obtain ⟨q39, hp⟩ := hp
        refine x_cS4v (pc := 39) dX5_ahead_39 xl_X5_43 xs_X5_copies (C_X5_copiesA G _ nw sd tn ts (0 : Int32) (0 : Int32) (hAt_n n_nw_sd (hAt_n n_nw_o k_nw)) hAt_same n_nw_sd q39) rfl rfl rfl ?_
        obtain ⟨F4, eF4⟩ : ∃ F, f_X5_copiesA tn ts (0 : Int32) (0 : Int32) = F := ⟨_, rfl⟩
        rw [eF4]
        try rw [eF4] at er
        try rw [eF4] at hp
        refine Wp.eqh (h' := (hSet (hSet h o (moC nw rd sd pa xt m)) sd (arI 103 F4))) (hSet_set) ?_
        refine x_iconst (pc := 42) (v := (0 : Int32)) dX5_ahead_42 (by decide) ?_
        refine x_istore (pc := 43) (L' := [(4, .int (0 : Int32)), (0, .ref o), (1, .int nn), (2, .int i), (3, .int what)]) dX5_ahead_43 rfl rfl ?_
        obtain ⟨ql45, hp⟩ := hp
        refine L_X5_ahead_45 G h o nw rd sd pa xt m tn ts nn i what k_o k_nw k_sd n_nw_sd xK F4 (0 : Int32) m ql45 ?_
        obtain ⟨F7, eF7⟩ : ∃ F, l_X5_ahead_45 xK m tn ts nn i what F4 (0 : Int32) m = F := ⟨_, rfl⟩
        rw [eF7]
        try rw [eF7] at er
        try rw [eF7] at hp
        refine x_iload_n (pc := 66) dX5_ahead_66 rfl ?_
        refine x_iconst (pc := 67) (v := (3 : Int32)) dX5_ahead_67 (by decide) ?_
        refine x_icmp_ge (pc := 68) (tgt := 82) dX5_ahead_68 (by decide) (fun (c5 : (3 : Int32) ≤ what) => ?_) (fun (c5 : ¬ ((3 : Int32) ≤ what)) => ?_)
        · rw [if_pos c5] at er
          replace hp := hp.1 c5
          refine x_iload_n (pc := 82) dX5_ahead_82 rfl ?_
          refine x_iload_n (pc := 83) dX5_ahead_83 rfl ?_
          refine x_iconst (pc := 84) (v := (3 : Int32)) dX5_ahead_84 (by decide) ?_
          obtain ⟨F8, eF8⟩ : ∃ F, (if what = (3 : Int32) then (6 : Int32) else (8 : Int32)) = F := ⟨_, rfl⟩
          try rw [eF8] at er
          try rw [eF8] at hp
          refine x_mrg (pc' := 95) (L' := [(4, .int F7.2.1), (0, .ref o), (1, .int nn), (2, .int i), (3, .int what)]) (st' := [.int F8, .int i]) (h' := (hSet (hSet h o (moC nw rd sd pa xt F7.2.2)) sd (arI 103 F7.1))) (fun J => ?_) ?_
          · refine x_icmp_ne (pc := 85) (tgt := 93) dX5_ahead_85 (by decide) (fun (c6 : ¬ (what = (3 : Int32))) => ?_) (fun (c6 : what = (3 : Int32)) => ?_)
            · refine x_bipush (pc := 93) (v := (8 : Int32)) dX5_ahead_93 (by decide) ?_
              rw [if_neg c6] at eF8
              subst eF8
              exact J
            · refine x_bipush (pc := 88) (v := (6 : Int32)) dX5_ahead_88 (by decide) ?_
              refine x_goto (pc := 90) (tgt := 95) dX5_ahead_90 (by decide) ?_
              rw [if_pos c6] at eF8
              subst eF8
              exact J
          refine x_cS2i (pc := 95) dX5_ahead_95 xl_X5_36 xs_X5_at (C_X5_at G _ i F8) rfl rfl rfl ?_
          obtain ⟨F9, eF9⟩ : ∃ F, f_X5_at i F8 = F := ⟨_, rfl⟩
          rw [eF9]
          try rw [eF9] at er
          try rw [eF9] at hp
          refine x_istore (pc := 98) (L' := [(4, .int F9), (0, .ref o), (1, .int nn), (2, .int i), (3, .int what)]) dX5_ahead_98 rfl rfl ?_
          refine x_aload_n (pc := 100) dX5_ahead_100 rfl ?_
          refine x_getf (pc := 101) (v := .ref sd) dX5_ahead_101 xf_X5_16 (hAt_n n_o_sd hAt_same) rfl ?_
          refine x_iload (pc := 104) dX5_ahead_104 rfl ?_
          obtain ⟨q106, hp⟩ := hp
          refine x_iald (pc := 106) dX5_ahead_106 hAt_same q106 (j := (F9.toNatClampNeg)) rfl ?_
          refine x_aload_n (pc := 107) dX5_ahead_107 rfl ?_
          refine x_getf (pc := 108) (v := .ref nw) dX5_ahead_108 xf_X5_7 (hAt_n n_o_sd hAt_same) rfl ?_
          refine x_iload (pc := 111) dX5_ahead_111 rfl ?_
          obtain ⟨q113, hp⟩ := hp
          refine x_iald (pc := 113) dX5_ahead_113 (hAt_n n_nw_sd (hAt_n n_nw_o k_nw)) q113 (j := (F9.toNatClampNeg)) rfl ?_
          refine x_isub (pc := 114) dX5_ahead_114 ?_
          subst er
          exact x_iret (pc := 115) dX5_ahead_115 rfl rfl rfl rfl ⟨rfl, rfl⟩
        · rw [if_neg c5] at er
          replace hp := hp.2 c5
          refine x_aload_n (pc := 71) dX5_ahead_71 rfl ?_
          refine x_getf (pc := 72) (v := .ref sd) dX5_ahead_72 xf_X5_16 (hAt_n n_o_sd hAt_same) rfl ?_
          refine x_iload_n (pc := 75) dX5_ahead_75 rfl ?_
          refine x_iload_n (pc := 76) dX5_ahead_76 rfl ?_
          refine x_cS2i (pc := 77) dX5_ahead_77 xl_X5_36 xs_X5_at (C_X5_at G _ i what) rfl rfl rfl ?_
          obtain ⟨F10, eF10⟩ : ∃ F, f_X5_at i what = F := ⟨_, rfl⟩
          rw [eF10]
          try rw [eF10] at er
          try rw [eF10] at hp
          obtain ⟨q80, hp⟩ := hp
          refine x_iald (pc := 80) dX5_ahead_80 hAt_same q80 (j := (F10.toNatClampNeg)) rfl ?_
          subst er
          exact x_iret (pc := 81) dX5_ahead_81 rfl rfl rfl rfl ⟨rfl, rfl⟩
      · rw [if_pos c3] at er
        replace hp := hp.1 c3
        refine x_iconst (pc := 27) (v := (-1 : Int32)) dX5_ahead_27 (by decide) ?_
        subst er
        exact x_iret (pc := 28) dX5_ahead_28 rfl rfl rfl rfl ⟨rfl, rfl⟩

def l_X5_soonBy_50 : Nat → (Nat → Int32) → (Nat → Int32) → (Nat → Int32) → Int32 → Int32 → Int32 → (Nat → Int32) → Int32 → (Nat → Int32) → Int32 × (Nat → Int32) × (Nat → Int32)
  | 0, _, _, _, _, _, _, _, _, _ => (0, (fun _ => 0), (fun _ => 0))
  | n + 1, m, tn, ts, i, b, v3, x_sd, v4, x_o => (if (100 : Int32) ≤ v4 then ((-4 : Int32), x_o, x_sd) else (if ((f_X5_ticks x_o x_sd i).2 ((f_X5_at i (0 : Int32)).toNatClampNeg)) = v3 then (v4, (f_X5_ticks x_o x_sd i).1, (f_X5_ticks x_o x_sd i).2) else (l_X5_soonBy_50 n m tn ts i b v3 (f_X5_ticks x_o x_sd i).2 (v4 + (1 : Int32)) (f_X5_ticks x_o x_sd i).1)))
def q_X5_soonBy_50 : Nat → (Nat → Int32) → (Nat → Int32) → (Nat → Int32) → Int32 → Int32 → Int32 → (Nat → Int32) → Int32 → (Nat → Int32) → Prop
  | 0, _, _, _, _, _, _, _, _, _ => False
  | n + 1, m, tn, ts, i, b, v3, x_sd, v4, x_o => (((100 : Int32) ≤ v4 → True) ∧ (¬ ((100 : Int32) ≤ v4) → (p_X5_ticks x_o x_sd i ∧ (vp_in (f_X5_at i (0 : Int32)) 103 ∧ ((((f_X5_ticks x_o x_sd i).2 ((f_X5_at i (0 : Int32)).toNatClampNeg)) = v3 → True) ∧ (¬ (((f_X5_ticks x_o x_sd i).2 ((f_X5_at i (0 : Int32)).toNatClampNeg)) = v3) → (q_X5_soonBy_50 n m tn ts i b v3 (f_X5_ticks x_o x_sd i).2 (v4 + (1 : Int32)) (f_X5_ticks x_o x_sd i).1)))))))
set_option maxRecDepth 100000 in
set_option maxHeartbeats 4000000 in
theorem L_X5_soonBy_50 (G : xG) (h : xH) (o nw rd sd pa xt : Nat) (m tn ts : Nat → Int32) (i b : Int32) (k_o : hAt h o = some (moC nw rd sd pa xt m)) (k_nw : hAt h nw = some (arI 103 tn)) (k_sd : hAt h sd = some (arI 103 ts)) (n_nw_sd : nw ≠ sd) : ∀ (n : Nat) (v3 : Int32) (x_sd : (Nat → Int32)) (v4 : Int32) (x_o : (Nat → Int32)), q_X5_soonBy_50 n m tn ts i b v3 x_sd v4 x_o → Wp G yX5_soonBy.cls cX5_soonBy 5 yX5_soonBy.name (some .int) (xR 6 0 0) (xZd G (some (.int (l_X5_soonBy_50 n m tn ts i b v3 x_sd v4 x_o).1)) (hSet (hSet h o (moC nw rd sd pa xt (l_X5_soonBy_50 n m tn ts i b v3 x_sd v4 x_o).2.1)) sd (arI 103 (l_X5_soonBy_50 n m tn ts i b v3 x_sd v4 x_o).2.2))) 0 0 50 [(4, .int v4), (3, .int v3), (0, .ref o), (1, .int i), (2, .int b)] [] (hSet (hSet h o (moC nw rd sd pa xt x_o)) sd (arI 103 x_sd)) := by
  have n_nw_o : nw ≠ o := hne_k k_nw k_o rfl
  have n_o_sd : o ≠ sd := hne_k k_o k_sd rfl
  intro n
  induction n with
  | zero => intro v3 x_sd v4 x_o hp; exact absurd hp id
  | succ n ih =>
    intro v3 x_sd v4 x_o hp
    obtain ⟨R, er⟩ : ∃ R, l_X5_soonBy_50 (n + 1) m tn ts i b v3 x_sd v4 x_o = R := ⟨_, rfl⟩
    rw [er]
    rw [l_X5_soonBy_50] at er
    rw [q_X5_soonBy_50] at hp
    refine x_iload (pc := 50) dX5_soonBy_50 rfl ?_
    refine x_bipush (pc := 52) (v := (100 : Int32)) dX5_soonBy_52 (by decide) ?_
    refine x_icmp_ge (pc := 54) (tgt := 89) dX5_soonBy_54 (by decide) (fun (c1 : (100 : Int32) ≤ v4) => ?_) (fun (c1 : ¬ ((100 : Int32) ≤ v4)) => ?_)
    · rw [if_pos c1] at er
      replace hp := hp.1 c1
      refine x_bipush (pc := 89) (v := (-4 : Int32)) dX5_soonBy_89 (by decide) ?_
      subst er
      exact x_iret (pc := 91) dX5_soonBy_91 rfl rfl rfl rfl ⟨rfl, rfl⟩
    · rw [if_neg c1] at er
      replace hp := hp.2 c1
      refine x_aload_n (pc := 57) dX5_soonBy_57 rfl ?_
      refine x_aload_n (pc := 58) dX5_soonBy_58 rfl ?_
      refine x_getf (pc := 59) (v := .ref sd) dX5_soonBy_59 xf_X5_16 (hAt_n n_o_sd hAt_same) rfl ?_
      refine x_iload_n (pc := 62) dX5_soonBy_62 rfl ?_
      obtain ⟨q63, hp⟩ := hp
      refine x_cV2v (pc := 63) dX5_soonBy_63 xl_X5_190 xv_X5_ticks (hAt_n n_o_sd hAt_same) rfl (C_X5_ticks G _ o sd nw rd sd pa xt x_o x_sd i (hAt_n n_o_sd hAt_same) hAt_same q63) rfl rfl rfl ?_
      obtain ⟨F7, eF7⟩ : ∃ F, f_X5_ticks x_o x_sd i = F := ⟨_, rfl⟩
      rw [eF7]
      try rw [eF7] at er
      try rw [eF7] at hp
      refine Wp.eqh (h' := (hSet (hSet h o (moC nw rd sd pa xt F7.1)) sd (arI 103 F7.2))) ((congrArg (fun z => hSet z sd _) (hSet_sw1 n_o_sd)).trans (hSet_set)) ?_
      refine x_aload_n (pc := 66) dX5_soonBy_66 rfl ?_
      refine x_getf (pc := 67) (v := .ref sd) dX5_soonBy_67 xf_X5_16 (hAt_n n_o_sd hAt_same) rfl ?_
      refine x_iload_n (pc := 70) dX5_soonBy_70 rfl ?_
      refine x_iconst (pc := 71) (v := (0 : Int32)) dX5_soonBy_71 (by decide) ?_
      refine x_cS2i (pc := 72) dX5_soonBy_72 xl_X5_36 xs_X5_at (C_X5_at G _ i (0 : Int32)) rfl rfl rfl ?_
      obtain ⟨F8, eF8⟩ : ∃ F, f_X5_at i (0 : Int32) = F := ⟨_, rfl⟩
      rw [eF8]
      try rw [eF8] at er
      try rw [eF8] at hp
      obtain ⟨q75, hp⟩ := hp
      refine x_iald (pc := 75) dX5_soonBy_75 hAt_same q75 (j := (F8.toNatClampNeg)) rfl ?_
      refine x_iload_n (pc := 76) dX5_soonBy_76 rfl ?_
      refine x_icmp_ne (pc := 77) (tgt := 83) dX5_soonBy_77 (by decide) (fun (c2 : ¬ ((F7.2 (F8.toNatClampNeg)) = v3)) => ?_) (fun (c2 : (F7.2 (F8.toNatClampNeg)) = v3) => ?_)
      · rw [if_neg c2] at er
        replace hp := hp.2 c2
        refine x_iinc (pc := 83) (v := (v4 + (1 : Int32))) (L' := [(4, .int (v4 + (1 : Int32))), (3, .int v3), (0, .ref o), (1, .int i), (2, .int b)]) dX5_soonBy_83 rfl rfl rfl rfl ?_
        refine x_goto (pc := 86) (tgt := 50) dX5_soonBy_86 (by decide) ?_
        subst er
        exact ih v3 F7.2 (v4 + (1 : Int32)) F7.1 hp
      · rw [if_pos c2] at er
        replace hp := hp.1 c2
        refine x_iload (pc := 80) dX5_soonBy_80 rfl ?_
        subst er
        exact x_iret (pc := 82) dX5_soonBy_82 rfl rfl rfl rfl ⟨rfl, rfl⟩
def f_X5_soonBy (m tn ts : Nat → Int32) (i b : Int32) : Int32 × (Nat → Int32) × (Nat → Int32) := (l_X5_soonBy_50 xK m tn ts i b (f_X5_greater (tn 2) (f_X5_lesser (f_X5_passes tn i) (tn 3))) (upd (f_X5_copiesA tn ts (0 : Int32) (0 : Int32)) 5 b) (1 : Int32) m)
def p_X5_soonBy (m tn ts : Nat → Int32) (i b : Int32) : Prop := (p_X5_copiesA tn ts (0 : Int32) (0 : Int32) ∧ (p_X5_passes tn i ∧ (q_X5_soonBy_50 xK m tn ts i b (f_X5_greater (tn 2) (f_X5_lesser (f_X5_passes tn i) (tn 3))) (upd (f_X5_copiesA tn ts (0 : Int32) (0 : Int32)) 5 b) (1 : Int32) m)))
set_option maxRecDepth 100000 in
set_option maxHeartbeats 4000000 in
theorem C_X5_soonBy (G : xG) (h : xH) (o nw rd sd pa xt : Nat) (m tn ts : Nat → Int32) (i b : Int32) (k_o : hAt h o = some (moC nw rd sd pa xt m)) (k_nw : hAt h nw = some (arI 103 tn)) (k_sd : hAt h sd = some (arI 103 ts)) (n_nw_sd : nw ≠ sd) (hp : p_X5_soonBy m tn ts i b) : Cd G 6 yX5_soonBy cX5_soonBy 5 (some .int) [.ref o, .int i, .int b] h (some (.int (f_X5_soonBy m tn ts i b).1)) (hSet (hSet h o (moC nw rd sd pa xt (f_X5_soonBy m tn ts i b).2.1)) sd (arI 103 (f_X5_soonBy m tn ts i b).2.2)) := by
  have n_nw_o : nw ≠ o := hne_k k_nw k_o rfl
  have n_o_sd : o ≠ sd := hne_k k_o k_sd rfl
  refine Ct.of (by decide) (by rfl) ?_
  refine Wp.eqs (L' := [(0, .ref o), (1, .int i), (2, .int b)]) (st' := []) rfl rfl ?_
  refine Wp.eqh (h' := (hSet (hSet h o (moC nw rd sd pa xt m)) sd (arI 103 ts))) (by rw [hSet_self k_o, hSet_self k_sd]) ?_
  obtain ⟨R, er⟩ : ∃ R, f_X5_soonBy m tn ts i b = R := ⟨_, rfl⟩
  rw [er]
  unfold f_X5_soonBy at er
  unfold p_X5_soonBy at hp
  refine x_aload_n (pc := 0) dX5_soonBy_0 rfl ?_
  refine x_getf (pc := 1) (v := .ref nw) dX5_soonBy_1 xf_X5_7 (hAt_n n_o_sd hAt_same) rfl ?_
  refine x_iconst (pc := 4) (v := (0 : Int32)) dX5_soonBy_4 (by decide) ?_
  refine x_aload_n (pc := 5) dX5_soonBy_5 rfl ?_
  refine x_getf (pc := 6) (v := .ref sd) dX5_soonBy_6 xf_X5_16 (hAt_n n_o_sd hAt_same) rfl ?_
  refine x_iconst (pc := 9) (v := (0 : Int32)) dX5_soonBy_9 (by decide) ?_
  obtain ⟨q10, hp⟩ := hp
  refine x_cS4v (pc := 10) dX5_soonBy_10 xl_X5_43 xs_X5_copies (C_X5_copiesA G _ nw sd tn ts (0 : Int32) (0 : Int32) (hAt_n n_nw_sd (hAt_n n_nw_o k_nw)) hAt_same n_nw_sd q10) rfl rfl rfl ?_
  obtain ⟨F1, eF1⟩ : ∃ F, f_X5_copiesA tn ts (0 : Int32) (0 : Int32) = F := ⟨_, rfl⟩
  rw [eF1]
  try rw [eF1] at er
  try rw [eF1] at hp
  refine Wp.eqh (h' := (hSet (hSet h o (moC nw rd sd pa xt m)) sd (arI 103 F1))) (hSet_set) ?_
  refine x_aload_n (pc := 13) dX5_soonBy_13 rfl ?_
  refine x_getf (pc := 14) (v := .ref sd) dX5_soonBy_14 xf_X5_16 (hAt_n n_o_sd hAt_same) rfl ?_
  refine x_iconst (pc := 17) (v := (5 : Int32)) dX5_soonBy_17 (by decide) ?_
  refine x_iload_n (pc := 18) dX5_soonBy_18 rfl ?_
  refine x_iast (pc := 19) (e' := arI 103 (upd F1 5 b)) dX5_soonBy_19 hAt_same (vp_in_nI (n := 5) (by decide) (by decide)) (j := 5) (nI_clamp (n := 5) (by decide)) rfl ?_
  refine Wp.eqh (h' := (hSet (hSet h o (moC nw rd sd pa xt m)) sd (arI 103 (upd F1 5 b)))) (hSet_set) ?_
  refine x_aload_n (pc := 20) dX5_soonBy_20 rfl ?_
  refine x_getf (pc := 21) (v := .ref nw) dX5_soonBy_21 xf_X5_7 (hAt_n n_o_sd hAt_same) rfl ?_
  refine x_iconst (pc := 24) (v := (2 : Int32)) dX5_soonBy_24 (by decide) ?_
  refine x_iald (pc := 25) dX5_soonBy_25 (hAt_n n_nw_sd (hAt_n n_nw_o k_nw)) (vp_in_nI (n := 2) (by decide) (by decide)) (j := 2) (nI_clamp (n := 2) (by decide)) ?_
  refine x_aload_n (pc := 26) dX5_soonBy_26 rfl ?_
  refine x_getf (pc := 27) (v := .ref nw) dX5_soonBy_27 xf_X5_7 (hAt_n n_o_sd hAt_same) rfl ?_
  refine x_iload_n (pc := 30) dX5_soonBy_30 rfl ?_
  obtain ⟨q31, hp⟩ := hp
  refine x_cS2i (pc := 31) dX5_soonBy_31 xl_X5_203 xs_X5_passes (C_X5_passes G _ nw tn i (hAt_n n_nw_sd (hAt_n n_nw_o k_nw)) q31) rfl rfl rfl ?_
  obtain ⟨F2, eF2⟩ : ∃ F, f_X5_passes tn i = F := ⟨_, rfl⟩
  rw [eF2]
  try rw [eF2] at er
  try rw [eF2] at hp
  refine x_aload_n (pc := 34) dX5_soonBy_34 rfl ?_
  refine x_getf (pc := 35) (v := .ref nw) dX5_soonBy_35 xf_X5_7 (hAt_n n_o_sd hAt_same) rfl ?_
  refine x_iconst (pc := 38) (v := (3 : Int32)) dX5_soonBy_38 (by decide) ?_
  refine x_iald (pc := 39) dX5_soonBy_39 (hAt_n n_nw_sd (hAt_n n_nw_o k_nw)) (vp_in_nI (n := 3) (by decide) (by decide)) (j := 3) (nI_clamp (n := 3) (by decide)) ?_
  refine x_cS2i (pc := 40) dX5_soonBy_40 xl_X5_169 xs_X5_lesser (C_X5_lesser G _ F2 (tn 3)) rfl rfl rfl ?_
  obtain ⟨F3, eF3⟩ : ∃ F, f_X5_lesser F2 (tn 3) = F := ⟨_, rfl⟩
  rw [eF3]
  try rw [eF3] at er
  try rw [eF3] at hp
  refine x_cS2i (pc := 43) dX5_soonBy_43 xl_X5_142 xs_X5_greater (C_X5_greater G _ (tn 2) F3) rfl rfl rfl ?_
  obtain ⟨F4, eF4⟩ : ∃ F, f_X5_greater (tn 2) F3 = F := ⟨_, rfl⟩
  rw [eF4]
  try rw [eF4] at er
  try rw [eF4] at hp
  refine x_istore_n (pc := 46) (L' := [(3, .int F4), (0, .ref o), (1, .int i), (2, .int b)]) dX5_soonBy_46 rfl rfl ?_
  refine x_iconst (pc := 47) (v := (1 : Int32)) dX5_soonBy_47 (by decide) ?_
  refine x_istore (pc := 48) (L' := [(4, .int (1 : Int32)), (3, .int F4), (0, .ref o), (1, .int i), (2, .int b)]) dX5_soonBy_48 rfl rfl ?_
  subst er
  exact L_X5_soonBy_50 G h o nw rd sd pa xt m tn ts i b k_o k_nw k_sd n_nw_sd xK F4 (upd F1 5 b) (1 : Int32) m hp

def g_X5_soon_5 (m : (Nat → Int32)) (tn : (Nat → Int32)) (ts : (Nat → Int32)) (i : Int32) (b : Int32) (y0 : Int32) : Int32 × (Nat → Int32) × (Nat → Int32) := (if y0 = 0 then ((-1 : Int32), m, ts) else (if (f_X5_in b (0 : Int32) (2 : Int32)) = 0 then ((-1 : Int32), m, ts) else ((f_X5_soonBy m tn ts i b).1, (f_X5_soonBy m tn ts i b).2.1, (f_X5_soonBy m tn ts i b).2.2)))
def h_X5_soon_5 (m : (Nat → Int32)) (tn : (Nat → Int32)) (ts : (Nat → Int32)) (i : Int32) (b : Int32) (y0 : Int32) : Prop := ((y0 = 0 → True) ∧ (¬ (y0 = 0) → (((f_X5_in b (0 : Int32) (2 : Int32)) = 0 → True) ∧ (¬ ((f_X5_in b (0 : Int32) (2 : Int32)) = 0) → (p_X5_soonBy m tn ts i b ∧ True)))))
def f_X5_soon (m tn ts : Nat → Int32) (i b : Int32) : Int32 × (Nat → Int32) × (Nat → Int32) := ((g_X5_soon_5 m tn ts i b (f_X5_isWay m tn i)).1, (g_X5_soon_5 m tn ts i b (f_X5_isWay m tn i)).2.1, (g_X5_soon_5 m tn ts i b (f_X5_isWay m tn i)).2.2)
def p_X5_soon (m tn ts : Nat → Int32) (i b : Int32) : Prop := ((h_X5_soon_5 m tn ts i b (f_X5_isWay m tn i)) ∧ True)
set_option maxRecDepth 100000 in
set_option maxHeartbeats 4000000 in
theorem C_X5_soon (G : xG) (h : xH) (o nw rd sd pa xt : Nat) (m tn ts : Nat → Int32) (i b : Int32) (k_o : hAt h o = some (moC nw rd sd pa xt m)) (k_nw : hAt h nw = some (arI 103 tn)) (k_sd : hAt h sd = some (arI 103 ts)) (n_nw_sd : nw ≠ sd) (hp : p_X5_soon m tn ts i b) : Cd G 7 yX5_soon cX5_soon 3 (some .int) [.ref o, .int i, .int b] h (some (.int (f_X5_soon m tn ts i b).1)) (hSet (hSet h o (moC nw rd sd pa xt (f_X5_soon m tn ts i b).2.1)) sd (arI 103 (f_X5_soon m tn ts i b).2.2)) := by
  have n_nw_o : nw ≠ o := hne_k k_nw k_o rfl
  have n_o_sd : o ≠ sd := hne_k k_o k_sd rfl
  refine Ct.of (by decide) (by rfl) ?_
  refine Wp.eqs (L' := [(0, .ref o), (1, .int i), (2, .int b)]) (st' := []) rfl rfl ?_
  refine Wp.eqh (h' := (hSet (hSet h o (moC nw rd sd pa xt m)) sd (arI 103 ts))) (by rw [hSet_self k_o, hSet_self k_sd]) ?_
  obtain ⟨R, er⟩ : ∃ R, f_X5_soon m tn ts i b = R := ⟨_, rfl⟩
  rw [er]
  unfold f_X5_soon at er
  unfold p_X5_soon at hp
  refine x_aload_n (pc := 0) dX5_soon_0 rfl ?_
  refine x_iload_n (pc := 1) dX5_soon_1 rfl ?_
  refine x_cV1i (pc := 2) dX5_soon_2 xl_X5_193 xv_X5_isWay (hAt_n n_o_sd hAt_same) rfl (C_X5_isWay G _ o nw rd sd pa xt m tn i (hAt_n n_o_sd hAt_same) (hAt_n n_nw_sd (hAt_n n_nw_o k_nw))) rfl rfl rfl ?_
  obtain ⟨F1, eF1⟩ : ∃ F, f_X5_isWay m tn i = F := ⟨_, rfl⟩
  rw [eF1]
  try rw [eF1] at er
  try rw [eF1] at hp
  have bF1 : xB F1 := by rw [← eF1]; exact (B_X5_isWay _ _ _)
  obtain ⟨qr5, hp⟩ := hp
  obtain ⟨F6, eF6⟩ : ∃ F, g_X5_soon_5 m tn ts i b F1 = F := ⟨_, rfl⟩
  try rw [eF6] at er
  try rw [eF6] at hp
  refine x_mrg (pc' := 27) (L' := [(0, .ref o), (1, .int i), (2, .int b)]) (st' := [.int F6.1]) (h' := (hSet (hSet h o (moC nw rd sd pa xt F6.2.1)) sd (arI 103 F6.2.2))) (fun J => ?_) ?_
  · unfold g_X5_soon_5 at eF6
    unfold h_X5_soon_5 at qr5
    try rw [eF1] at eF6
    try rw [eF1] at qr5
    refine x_if_eq (pc := 5) (tgt := 26) dX5_soon_5 (by decide) (fun (c3 : F1 = 0) => ?_) (fun (c3 : ¬ (F1 = 0)) => ?_)
    · rw [if_pos c3] at eF6
      replace qr5 := qr5.1 c3
      refine x_iconst (pc := 26) (v := (-1 : Int32)) dX5_soon_26 (by decide) ?_
      subst eF6
      exact J
    · rw [if_neg c3] at eF6
      replace qr5 := qr5.2 c3
      refine x_iload_n (pc := 8) dX5_soon_8 rfl ?_
      refine x_iconst (pc := 9) (v := (0 : Int32)) dX5_soon_9 (by decide) ?_
      refine x_iconst (pc := 10) (v := (2 : Int32)) dX5_soon_10 (by decide) ?_
      refine x_cS3i (pc := 11) dX5_soon_11 xl_X5_57 xs_X5_in (C_X5_in G _ b (0 : Int32) (2 : Int32)) rfl rfl rfl ?_
      obtain ⟨F4, eF4⟩ : ∃ F, f_X5_in b (0 : Int32) (2 : Int32) = F := ⟨_, rfl⟩
      rw [eF4]
      try rw [eF4] at eF6
      try rw [eF4] at qr5
      have bF4 : xB F4 := by rw [← eF4]; exact (B_X5_in _ _ _)
      refine x_if_eq (pc := 14) (tgt := 26) dX5_soon_14 (by decide) (fun (c4 : F4 = 0) => ?_) (fun (c4 : ¬ (F4 = 0)) => ?_)
      · rw [if_pos c4] at eF6
        replace qr5 := qr5.1 c4
        refine x_iconst (pc := 26) (v := (-1 : Int32)) dX5_soon_26 (by decide) ?_
        subst eF6
        exact J
      · rw [if_neg c4] at eF6
        replace qr5 := qr5.2 c4
        refine x_aload_n (pc := 17) dX5_soon_17 rfl ?_
        refine x_iload_n (pc := 18) dX5_soon_18 rfl ?_
        refine x_iload_n (pc := 19) dX5_soon_19 rfl ?_
        obtain ⟨q20, qr5⟩ := qr5
        refine x_cV2i (pc := 20) dX5_soon_20 xl_X5_206 xv_X5_soonBy (hAt_n n_o_sd hAt_same) rfl (C_X5_soonBy G _ o nw rd sd pa xt m tn ts i b (hAt_n n_o_sd hAt_same) (hAt_n n_nw_sd (hAt_n n_nw_o k_nw)) hAt_same n_nw_sd q20) rfl rfl rfl ?_
        obtain ⟨F5, eF5⟩ : ∃ F, f_X5_soonBy m tn ts i b = F := ⟨_, rfl⟩
        rw [eF5]
        try rw [eF5] at eF6
        try rw [eF5] at qr5
        refine Wp.eqh (h' := (hSet (hSet h o (moC nw rd sd pa xt F5.2.1)) sd (arI 103 F5.2.2))) ((congrArg (fun z => hSet z sd _) (hSet_sw1 n_o_sd)).trans (hSet_set)) ?_
        refine x_goto (pc := 23) (tgt := 27) dX5_soon_23 (by decide) ?_
        subst eF6
        exact J
  subst er
  exact x_iret (pc := 27) dX5_soon_27 rfl rfl rfl rfl ⟨rfl, rfl⟩

def l_X5_best_19 : Nat → (Nat → Int32) → (Nat → Int32) → (Nat → Int32) → Int32 → Int32 → Int32 → Int32 → (Nat → Int32) → (Nat → Int32) → Int32 × Int32 × Int32 × (Nat → Int32) × (Nat → Int32)
  | 0, _, _, _, _, _, _, _, _, _ => (0, 0, 0, (fun _ => 0), (fun _ => 0))
  | n + 1, m, tn, ts, i, v4, v3, v2, x_o, x_sd => (if (3 : Int32) ≤ v4 then (v4, v3, v2, x_o, x_sd) else (l_X5_best_19 n m tn ts i (v4 + (1 : Int32)) ((if ((if (f_X5_soonBy x_o tn x_sd i v4).1 = (-4 : Int32) then (0 : Int32) else (if v3 ≤ (f_X5_soonBy x_o tn x_sd i v4).1 then (0 : Int32) else (1 : Int32)))) = 0 then v3 else (f_X5_soonBy x_o tn x_sd i v4).1)) ((if ((if (f_X5_soonBy x_o tn x_sd i v4).1 = (-4 : Int32) then (0 : Int32) else (if v3 ≤ (f_X5_soonBy x_o tn x_sd i v4).1 then (0 : Int32) else (1 : Int32)))) = 0 then v2 else v4)) (f_X5_soonBy x_o tn x_sd i v4).2.1 (f_X5_soonBy x_o tn x_sd i v4).2.2))
def q_X5_best_19 : Nat → (Nat → Int32) → (Nat → Int32) → (Nat → Int32) → Int32 → Int32 → Int32 → Int32 → (Nat → Int32) → (Nat → Int32) → Prop
  | 0, _, _, _, _, _, _, _, _, _ => False
  | n + 1, m, tn, ts, i, v4, v3, v2, x_o, x_sd => (((3 : Int32) ≤ v4 → True) ∧ (¬ ((3 : Int32) ≤ v4) → (p_X5_soonBy x_o tn x_sd i v4 ∧ (q_X5_best_19 n m tn ts i (v4 + (1 : Int32)) ((if ((if (f_X5_soonBy x_o tn x_sd i v4).1 = (-4 : Int32) then (0 : Int32) else (if v3 ≤ (f_X5_soonBy x_o tn x_sd i v4).1 then (0 : Int32) else (1 : Int32)))) = 0 then v3 else (f_X5_soonBy x_o tn x_sd i v4).1)) ((if ((if (f_X5_soonBy x_o tn x_sd i v4).1 = (-4 : Int32) then (0 : Int32) else (if v3 ≤ (f_X5_soonBy x_o tn x_sd i v4).1 then (0 : Int32) else (1 : Int32)))) = 0 then v2 else v4)) (f_X5_soonBy x_o tn x_sd i v4).2.1 (f_X5_soonBy x_o tn x_sd i v4).2.2))))
set_option maxRecDepth 100000 in
set_option maxHeartbeats 4000000 in
theorem L_X5_best_19 (G : xG) (h : xH) (o nw rd sd pa xt : Nat) (m tn ts : Nat → Int32) (i : Int32) (k_o : hAt h o = some (moC nw rd sd pa xt m)) (k_nw : hAt h nw = some (arI 103 tn)) (k_sd : hAt h sd = some (arI 103 ts)) (n_nw_sd : nw ≠ sd) {Z : xZ} : ∀ (n : Nat) (v4 : Int32) (v3 : Int32) (v2 : Int32) (x_o : (Nat → Int32)) (x_sd : (Nat → Int32)), q_X5_best_19 n m tn ts i v4 v3 v2 x_o x_sd → Wp G yX5_best.cls cX5_best 7 yX5_best.name (some .int) (xR 7 0 0) Z 0 0 84 [(4, .int (l_X5_best_19 n m tn ts i v4 v3 v2 x_o x_sd).1), (3, .int (l_X5_best_19 n m tn ts i v4 v3 v2 x_o x_sd).2.1), (2, .int (l_X5_best_19 n m tn ts i v4 v3 v2 x_o x_sd).2.2.1), (0, .ref o), (1, .int i)] [] (hSet (hSet h o (moC nw rd sd pa xt (l_X5_best_19 n m tn ts i v4 v3 v2 x_o x_sd).2.2.2.1)) sd (arI 103 (l_X5_best_19 n m tn ts i v4 v3 v2 x_o x_sd).2.2.2.2)) → Wp G yX5_best.cls cX5_best 7 yX5_best.name (some .int) (xR 7 0 0) Z 0 0 19 [(4, .int v4), (3, .int v3), (2, .int v2), (0, .ref o), (1, .int i)] [] (hSet (hSet h o (moC nw rd sd pa xt x_o)) sd (arI 103 x_sd)) := by
  have n_nw_o : nw ≠ o := hne_k k_nw k_o rfl
  have n_o_sd : o ≠ sd := hne_k k_o k_sd rfl
  intro n
  induction n with
  | zero => intro v4 v3 v2 x_o x_sd hp; exact absurd hp id
  | succ n ih =>
    intro v4 v3 v2 x_o x_sd hp kk
    obtain ⟨R, er⟩ : ∃ R, l_X5_best_19 (n + 1) m tn ts i v4 v3 v2 x_o x_sd = R := ⟨_, rfl⟩
    rw [er] at kk
    rw [l_X5_best_19] at er
    rw [q_X5_best_19] at hp
    refine x_iload (pc := 19) dX5_best_19 rfl ?_
    refine x_iconst (pc := 21) (v := (3 : Int32)) dX5_best_21 (by decide) ?_
    refine x_icmp_ge (pc := 22) (tgt := 84) dX5_best_22 (by decide) (fun (c2 : (3 : Int32) ≤ v4) => ?_) (fun (c2 : ¬ ((3 : Int32) ≤ v4)) => ?_)
    · rw [if_pos c2] at er
      replace hp := hp.1 c2
      subst er
      exact kk
    · rw [if_neg c2] at er
      replace hp := hp.2 c2
      refine x_aload_n (pc := 25) dX5_best_25 rfl ?_
      refine x_iload_n (pc := 26) dX5_best_26 rfl ?_
      refine x_iload (pc := 27) dX5_best_27 rfl ?_
      obtain ⟨q29, hp⟩ := hp
      refine x_cV2i (pc := 29) dX5_best_29 xl_X5_206 xv_X5_soonBy (hAt_n n_o_sd hAt_same) rfl (C_X5_soonBy G _ o nw rd sd pa xt x_o tn x_sd i v4 (hAt_n n_o_sd hAt_same) (hAt_n n_nw_sd (hAt_n n_nw_o k_nw)) hAt_same n_nw_sd q29) rfl rfl rfl ?_
      obtain ⟨F6, eF6⟩ : ∃ F, f_X5_soonBy x_o tn x_sd i v4 = F := ⟨_, rfl⟩
      rw [eF6]
      try rw [eF6] at er
      try rw [eF6] at hp
      refine Wp.eqh (h' := (hSet (hSet h o (moC nw rd sd pa xt F6.2.1)) sd (arI 103 F6.2.2))) ((congrArg (fun z => hSet z sd _) (hSet_sw1 n_o_sd)).trans (hSet_set)) ?_
      refine x_istore (pc := 32) (L' := [(5, .int F6.1), (4, .int v4), (3, .int v3), (2, .int v2), (0, .ref o), (1, .int i)]) dX5_best_32 rfl rfl ?_
      refine x_iload (pc := 34) dX5_best_34 rfl ?_
      refine x_bipush (pc := 36) (v := (-4 : Int32)) dX5_best_36 (by decide) ?_
      obtain ⟨F7, eF7⟩ : ∃ F, (if F6.1 = (-4 : Int32) then (0 : Int32) else (if v3 ≤ F6.1 then (0 : Int32) else (1 : Int32))) = F := ⟨_, rfl⟩
      try rw [eF7] at er
      try rw [eF7] at hp
      have bF7 : xB F7 := by rw [← eF7]; exact (xB_ite xB0 (xB_ite xB0 xB1))
      refine x_mrg (pc' := 52) (L' := [(5, .int F6.1), (4, .int v4), (3, .int v3), (2, .int v2), (0, .ref o), (1, .int i)]) (st' := [.int F7]) (h' := (hSet (hSet h o (moC nw rd sd pa xt F6.2.1)) sd (arI 103 F6.2.2))) (fun J => ?_) ?_
      · refine x_icmp_eq (pc := 38) (tgt := 51) dX5_best_38 (by decide) (fun (c3 : F6.1 = (-4 : Int32)) => ?_) (fun (c3 : ¬ (F6.1 = (-4 : Int32))) => ?_)
        · refine x_iconst (pc := 51) (v := (0 : Int32)) dX5_best_51 (by decide) ?_
          rw [if_pos c3] at eF7
          subst eF7
          exact J
        · refine x_iload (pc := 41) dX5_best_41 rfl ?_
          refine x_iload_n (pc := 43) dX5_best_43 rfl ?_
          refine x_icmp_ge (pc := 44) (tgt := 51) dX5_best_44 (by decide) (fun (c4 : v3 ≤ F6.1) => ?_) (fun (c4 : ¬ (v3 ≤ F6.1)) => ?_)
          · refine x_iconst (pc := 51) (v := (0 : Int32)) dX5_best_51 (by decide) ?_
            rw [if_neg c3, if_pos c4] at eF7
            subst eF7
            exact J
          · refine x_iconst (pc := 47) (v := (1 : Int32)) dX5_best_47 (by decide) ?_
            refine x_goto (pc := 48) (tgt := 52) dX5_best_48 (by decide) ?_
            rw [if_neg c3, if_neg c4] at eF7
            subst eF7
            exact J
      refine x_istore (pc := 52) (L' := [(6, .int F7), (5, .int F6.1), (4, .int v4), (3, .int v3), (2, .int v2), (0, .ref o), (1, .int i)]) dX5_best_52 rfl rfl ?_
      refine x_iload (pc := 54) dX5_best_54 rfl ?_
      obtain ⟨F8, eF8⟩ : ∃ F, (if F7 = 0 then v2 else v4) = F := ⟨_, rfl⟩
      try rw [eF8] at er
      try rw [eF8] at hp
      refine x_mrg (pc' := 65) (L' := [(6, .int F7), (5, .int F6.1), (4, .int v4), (3, .int v3), (2, .int v2), (0, .ref o), (1, .int i)]) (st' := [.int F8]) (h' := (hSet (hSet h o (moC nw rd sd pa xt F6.2.1)) sd (arI 103 F6.2.2))) (fun J => ?_) ?_
      · refine x_if_eq (pc := 56) (tgt := 64) dX5_best_56 (by decide) (fun (c5 : F7 = 0) => ?_) (fun (c5 : ¬ (F7 = 0)) => ?_)
        · refine x_iload_n (pc := 64) dX5_best_64 rfl ?_
          rw [if_pos c5] at eF8
          subst eF8
          exact J
        · refine x_iload (pc := 59) dX5_best_59 rfl ?_
          refine x_goto (pc := 61) (tgt := 65) dX5_best_61 (by decide) ?_
          rw [if_neg c5] at eF8
          subst eF8
          exact J
      refine x_istore_n (pc := 65) (L' := [(2, .int F8), (6, .int F7), (5, .int F6.1), (4, .int v4), (3, .int v3), (0, .ref o), (1, .int i)]) dX5_best_65 rfl rfl ?_
      refine x_iload (pc := 66) dX5_best_66 rfl ?_
      obtain ⟨F9, eF9⟩ : ∃ F, (if F7 = 0 then v3 else F6.1) = F := ⟨_, rfl⟩
      try rw [eF9] at er
      try rw [eF9] at hp
      refine x_mrg (pc' := 77) (L' := [(2, .int F8), (6, .int F7), (5, .int F6.1), (4, .int v4), (3, .int v3), (0, .ref o), (1, .int i)]) (st' := [.int F9]) (h' := (hSet (hSet h o (moC nw rd sd pa xt F6.2.1)) sd (arI 103 F6.2.2))) (fun J => ?_) ?_
      · refine x_if_eq (pc := 68) (tgt := 76) dX5_best_68 (by decide) (fun (c6 : F7 = 0) => ?_) (fun (c6 : ¬ (F7 = 0)) => ?_)
        · refine x_iload_n (pc := 76) dX5_best_76 rfl ?_
          rw [if_pos c6] at eF9
          subst eF9
          exact J
        · refine x_iload (pc := 71) dX5_best_71 rfl ?_
          refine x_goto (pc := 73) (tgt := 77) dX5_best_73 (by decide) ?_
          rw [if_neg c6] at eF9
          subst eF9
          exact J
      refine x_istore_n (pc := 77) (L' := [(3, .int F9), (2, .int F8), (6, .int F7), (5, .int F6.1), (4, .int v4), (0, .ref o), (1, .int i)]) dX5_best_77 rfl rfl ?_
      refine x_iinc (pc := 78) (v := (v4 + (1 : Int32))) (L' := [(4, .int (v4 + (1 : Int32))), (3, .int F9), (2, .int F8), (6, .int F7), (5, .int F6.1), (0, .ref o), (1, .int i)]) dX5_best_78 rfl rfl rfl rfl ?_
      refine x_goto (pc := 81) (tgt := 19) dX5_best_81 (by decide) ?_
      subst er
      refine Wp.sub [0, 1, 2, 5, 6] (L' := [(4, .int (v4 + (1 : Int32))), (3, .int F9), (2, .int F8), (0, .ref o), (1, .int i)]) rfl ?_
      exact ih (v4 + (1 : Int32)) F9 F8 F6.2.1 F6.2.2 hp kk
def f_X5_best (m tn ts : Nat → Int32) (i : Int32) : Int32 × (Nat → Int32) × (Nat → Int32) := (if (f_X5_isWay m tn i) = 0 then ((-1 : Int32), m, ts) else ((l_X5_best_19 xK m tn ts i (0 : Int32) (100 : Int32) (-4 : Int32) m ts).2.2.1, (l_X5_best_19 xK m tn ts i (0 : Int32) (100 : Int32) (-4 : Int32) m ts).2.2.2.1, (l_X5_best_19 xK m tn ts i (0 : Int32) (100 : Int32) (-4 : Int32) m ts).2.2.2.2))
def p_X5_best (m tn ts : Nat → Int32) (i : Int32) : Prop := (((f_X5_isWay m tn i) = 0 → True) ∧ (¬ ((f_X5_isWay m tn i) = 0) → ((q_X5_best_19 xK m tn ts i (0 : Int32) (100 : Int32) (-4 : Int32) m ts) ∧ True)))
set_option maxRecDepth 100000 in
set_option maxHeartbeats 4000000 in
theorem C_X5_best (G : xG) (h : xH) (o nw rd sd pa xt : Nat) (m tn ts : Nat → Int32) (i : Int32) (k_o : hAt h o = some (moC nw rd sd pa xt m)) (k_nw : hAt h nw = some (arI 103 tn)) (k_sd : hAt h sd = some (arI 103 ts)) (n_nw_sd : nw ≠ sd) (hp : p_X5_best m tn ts i) : Cd G 7 yX5_best cX5_best 7 (some .int) [.ref o, .int i] h (some (.int (f_X5_best m tn ts i).1)) (hSet (hSet h o (moC nw rd sd pa xt (f_X5_best m tn ts i).2.1)) sd (arI 103 (f_X5_best m tn ts i).2.2)) := by
  have n_nw_o : nw ≠ o := hne_k k_nw k_o rfl
  have n_o_sd : o ≠ sd := hne_k k_o k_sd rfl
  refine Ct.of (by decide) (by rfl) ?_
  refine Wp.eqs (L' := [(0, .ref o), (1, .int i)]) (st' := []) rfl rfl ?_
  refine Wp.eqh (h' := (hSet (hSet h o (moC nw rd sd pa xt m)) sd (arI 103 ts))) (by rw [hSet_self k_o, hSet_self k_sd]) ?_
  obtain ⟨R, er⟩ : ∃ R, f_X5_best m tn ts i = R := ⟨_, rfl⟩
  rw [er]
  unfold f_X5_best at er
  unfold p_X5_best at hp
  refine x_aload_n (pc := 0) dX5_best_0 rfl ?_
  refine x_iload_n (pc := 1) dX5_best_1 rfl ?_
  refine x_cV1i (pc := 2) dX5_best_2 xl_X5_193 xv_X5_isWay (hAt_n n_o_sd hAt_same) rfl (C_X5_isWay G _ o nw rd sd pa xt m tn i (hAt_n n_o_sd hAt_same) (hAt_n n_nw_sd (hAt_n n_nw_o k_nw))) rfl rfl rfl ?_
  obtain ⟨F1, eF1⟩ : ∃ F, f_X5_isWay m tn i = F := ⟨_, rfl⟩
  rw [eF1]
  try rw [eF1] at er
  try rw [eF1] at hp
  have bF1 : xB F1 := by rw [← eF1]; exact (B_X5_isWay _ _ _)
  refine x_if_ne (pc := 5) (tgt := 10) dX5_best_5 (by decide) (fun (c1 : ¬ (F1 = 0)) => ?_) (fun (c1 : F1 = 0) => ?_)
  · rw [if_neg c1] at er
    replace hp := hp.2 c1
    refine x_bipush (pc := 10) (v := (-4 : Int32)) dX5_best_10 (by decide) ?_
    refine x_istore_n (pc := 12) (L' := [(2, .int (-4 : Int32)), (0, .ref o), (1, .int i)]) dX5_best_12 rfl rfl ?_
    refine x_bipush (pc := 13) (v := (100 : Int32)) dX5_best_13 (by decide) ?_
    refine x_istore_n (pc := 15) (L' := [(3, .int (100 : Int32)), (2, .int (-4 : Int32)), (0, .ref o), (1, .int i)]) dX5_best_15 rfl rfl ?_
    refine x_iconst (pc := 16) (v := (0 : Int32)) dX5_best_16 (by decide) ?_
    refine x_istore (pc := 17) (L' := [(4, .int (0 : Int32)), (3, .int (100 : Int32)), (2, .int (-4 : Int32)), (0, .ref o), (1, .int i)]) dX5_best_17 rfl rfl ?_
    obtain ⟨ql19, hp⟩ := hp
    refine L_X5_best_19 G h o nw rd sd pa xt m tn ts i k_o k_nw k_sd n_nw_sd xK (0 : Int32) (100 : Int32) (-4 : Int32) m ts ql19 ?_
    obtain ⟨F10, eF10⟩ : ∃ F, l_X5_best_19 xK m tn ts i (0 : Int32) (100 : Int32) (-4 : Int32) m ts = F := ⟨_, rfl⟩
    rw [eF10]
    try rw [eF10] at er
    try rw [eF10] at hp
    refine x_iload_n (pc := 84) dX5_best_84 rfl ?_
    subst er
    exact x_iret (pc := 85) dX5_best_85 rfl rfl rfl rfl ⟨rfl, rfl⟩
  · rw [if_pos c1] at er
    replace hp := hp.1 c1
    refine x_iconst (pc := 8) (v := (-1 : Int32)) dX5_best_8 (by decide) ?_
    subst er
    exact x_iret (pc := 9) dX5_best_9 rfl rfl rfl rfl ⟨rfl, rfl⟩

def l_X5_count_9 : Nat → (Nat → Int32) → (Nat → Int32) → Int32 → Int32 → Int32 → Int32 → Int32 × Int32 × Int32
  | 0, _, _, _, _, _, _ => (0, 0, 0)
  | n + 1, m, tn, what, v4, v3, v2 => (if (tn 0) ≤ v4 then (v4, v3, v2) else (l_X5_count_9 n m tn what (v4 + (1 : Int32)) (v3 + (tn ((f_X5_at v4 (2 : Int32)).toNatClampNeg))) (f_X5_lesser v2 (tn ((f_X5_at v4 (0 : Int32)).toNatClampNeg)))))
def q_X5_count_9 : Nat → (Nat → Int32) → (Nat → Int32) → Int32 → Int32 → Int32 → Int32 → Prop
  | 0, _, _, _, _, _, _ => False
  | n + 1, m, tn, what, v4, v3, v2 => (((tn 0) ≤ v4 → True) ∧ (¬ ((tn 0) ≤ v4) → (vp_in (f_X5_at v4 (0 : Int32)) 103 ∧ (vp_in (f_X5_at v4 (2 : Int32)) 103 ∧ (q_X5_count_9 n m tn what (v4 + (1 : Int32)) (v3 + (tn ((f_X5_at v4 (2 : Int32)).toNatClampNeg))) (f_X5_lesser v2 (tn ((f_X5_at v4 (0 : Int32)).toNatClampNeg))))))))
set_option maxRecDepth 100000 in
set_option maxHeartbeats 4000000 in
theorem L_X5_count_9 (G : xG) (h : xH) (o nw rd sd pa xt : Nat) (m tn : Nat → Int32) (what : Int32) (k_o : hAt h o = some (moC nw rd sd pa xt m)) (k_nw : hAt h nw = some (arI 103 tn)) {Z : xZ} : ∀ (n : Nat) (v4 : Int32) (v3 : Int32) (v2 : Int32), q_X5_count_9 n m tn what v4 v3 v2 → Wp G yX5_count.cls cX5_count 5 yX5_count.name (some .int) (xR 2 0 0) Z 0 0 56 [(4, .int (l_X5_count_9 n m tn what v4 v3 v2).1), (3, .int (l_X5_count_9 n m tn what v4 v3 v2).2.1), (2, .int (l_X5_count_9 n m tn what v4 v3 v2).2.2), (0, .ref o), (1, .int what)] [] h → Wp G yX5_count.cls cX5_count 5 yX5_count.name (some .int) (xR 2 0 0) Z 0 0 9 [(4, .int v4), (3, .int v3), (2, .int v2), (0, .ref o), (1, .int what)] [] h := by
  intro n
  induction n with
  | zero => intro v4 v3 v2 hp; exact absurd hp id
  | succ n ih =>
    intro v4 v3 v2 hp kk
    obtain ⟨R, er⟩ : ∃ R, l_X5_count_9 (n + 1) m tn what v4 v3 v2 = R := ⟨_, rfl⟩
    rw [er] at kk
    rw [l_X5_count_9] at er
    rw [q_X5_count_9] at hp
    refine x_iload (pc := 9) dX5_count_9 rfl ?_
    refine x_aload_n (pc := 11) dX5_count_11 rfl ?_
    refine x_getf (pc := 12) (v := .ref nw) dX5_count_12 xf_X5_7 k_o rfl ?_
    refine x_iconst (pc := 15) (v := (0 : Int32)) dX5_count_15 (by decide) ?_
    refine x_iald (pc := 16) dX5_count_16 k_nw (vp_in_nI (n := 0) (by decide) (by decide)) (j := 0) (nI_clamp (n := 0) (by decide)) ?_
    refine x_icmp_ge (pc := 17) (tgt := 56) dX5_count_17 (by decide) (fun (c1 : (tn 0) ≤ v4) => ?_) (fun (c1 : ¬ ((tn 0) ≤ v4)) => ?_)
    · rw [if_pos c1] at er
      replace hp := hp.1 c1
      subst er
      exact kk
    · rw [if_neg c1] at er
      replace hp := hp.2 c1
      refine x_iload_n (pc := 20) dX5_count_20 rfl ?_
      refine x_aload_n (pc := 21) dX5_count_21 rfl ?_
      refine x_getf (pc := 22) (v := .ref nw) dX5_count_22 xf_X5_7 k_o rfl ?_
      refine x_iload (pc := 25) dX5_count_25 rfl ?_
      refine x_iconst (pc := 27) (v := (0 : Int32)) dX5_count_27 (by decide) ?_
      refine x_cS2i (pc := 28) dX5_count_28 xl_X5_36 xs_X5_at (C_X5_at G _ v4 (0 : Int32)) rfl rfl rfl ?_
      obtain ⟨F4, eF4⟩ : ∃ F, f_X5_at v4 (0 : Int32) = F := ⟨_, rfl⟩
      rw [eF4]
      try rw [eF4] at er
      try rw [eF4] at hp
      obtain ⟨q31, hp⟩ := hp
      refine x_iald (pc := 31) dX5_count_31 k_nw q31 (j := (F4.toNatClampNeg)) rfl ?_
      refine x_cS2i (pc := 32) dX5_count_32 xl_X5_169 xs_X5_lesser (C_X5_lesser G _ v2 (tn (F4.toNatClampNeg))) rfl rfl rfl ?_
      obtain ⟨F5, eF5⟩ : ∃ F, f_X5_lesser v2 (tn (F4.toNatClampNeg)) = F := ⟨_, rfl⟩
      rw [eF5]
      try rw [eF5] at er
      try rw [eF5] at hp
      refine x_istore_n (pc := 35) (L' := [(2, .int F5), (4, .int v4), (3, .int v3), (0, .ref o), (1, .int what)]) dX5_count_35 rfl rfl ?_
      refine x_iload_n (pc := 36) dX5_count_36 rfl ?_
      refine x_aload_n (pc := 37) dX5_count_37 rfl ?_
      refine x_getf (pc := 38) (v := .ref nw) dX5_count_38 xf_X5_7 k_o rfl ?_
      refine x_iload (pc := 41) dX5_count_41 rfl ?_
      refine x_iconst (pc := 43) (v := (2 : Int32)) dX5_count_43 (by decide) ?_
      refine x_cS2i (pc := 44) dX5_count_44 xl_X5_36 xs_X5_at (C_X5_at G _ v4 (2 : Int32)) rfl rfl rfl ?_
      obtain ⟨F6, eF6⟩ : ∃ F, f_X5_at v4 (2 : Int32) = F := ⟨_, rfl⟩
      rw [eF6]
      try rw [eF6] at er
      try rw [eF6] at hp
      obtain ⟨q47, hp⟩ := hp
      refine x_iald (pc := 47) dX5_count_47 k_nw q47 (j := (F6.toNatClampNeg)) rfl ?_
      refine x_iadd (pc := 48) dX5_count_48 ?_
      refine x_istore_n (pc := 49) (L' := [(3, .int (v3 + (tn (F6.toNatClampNeg)))), (2, .int F5), (4, .int v4), (0, .ref o), (1, .int what)]) dX5_count_49 rfl rfl ?_
      refine x_iinc (pc := 50) (v := (v4 + (1 : Int32))) (L' := [(4, .int (v4 + (1 : Int32))), (3, .int (v3 + (tn (F6.toNatClampNeg)))), (2, .int F5), (0, .ref o), (1, .int what)]) dX5_count_50 rfl rfl rfl rfl ?_
      refine x_goto (pc := 53) (tgt := 9) dX5_count_53 (by decide) ?_
      subst er
      exact ih (v4 + (1 : Int32)) (v3 + (tn (F6.toNatClampNeg))) F5 hp kk
def f_X5_count (m tn : Nat → Int32) (what : Int32) : Int32 := (if what = (0 : Int32) then (tn (what.toNatClampNeg)) else (if what = (1 : Int32) then (tn (what.toNatClampNeg)) else (if what = (2 : Int32) then (tn (what.toNatClampNeg)) else (if what = (3 : Int32) then (tn (what.toNatClampNeg)) else (if what = (4 : Int32) then (tn (what.toNatClampNeg)) else (if what = (5 : Int32) then (tn (what.toNatClampNeg)) else (if what = (6 : Int32) then (l_X5_count_9 xK m tn what (0 : Int32) (0 : Int32) (999 : Int32)).2.2 else (if what = (7 : Int32) then (l_X5_count_9 xK m tn what (0 : Int32) (0 : Int32) (999 : Int32)).2.1 else (if what = (8 : Int32) then (f_X5_sumOf m tn (7 : Int32)) else (if what = (9 : Int32) then (f_X5_sumOf m tn (8 : Int32)) else (if what = (10 : Int32) then (m 0) else (if what = (11 : Int32) then (m 1) else (-1 : Int32)))))))))))))
def p_X5_count (m tn : Nat → Int32) (what : Int32) : Prop := ((q_X5_count_9 xK m tn what (0 : Int32) (0 : Int32) (999 : Int32)) ∧ ((what = (0 : Int32) → (vp_in what 103 ∧ True)) ∧ (¬ (what = (0 : Int32)) → ((what = (1 : Int32) → (vp_in what 103 ∧ True)) ∧ (¬ (what = (1 : Int32)) → ((what = (2 : Int32) → (vp_in what 103 ∧ True)) ∧ (¬ (what = (2 : Int32)) → ((what = (3 : Int32) → (vp_in what 103 ∧ True)) ∧ (¬ (what = (3 : Int32)) → ((what = (4 : Int32) → (vp_in what 103 ∧ True)) ∧ (¬ (what = (4 : Int32)) → ((what = (5 : Int32) → (vp_in what 103 ∧ True)) ∧ (¬ (what = (5 : Int32)) → ((what = (6 : Int32) → True) ∧ (¬ (what = (6 : Int32)) → ((what = (7 : Int32) → True) ∧ (¬ (what = (7 : Int32)) → ((what = (8 : Int32) → (p_X5_sumOf m tn (7 : Int32) ∧ True)) ∧ (¬ (what = (8 : Int32)) → ((what = (9 : Int32) → (p_X5_sumOf m tn (8 : Int32) ∧ True)) ∧ (¬ (what = (9 : Int32)) → ((what = (10 : Int32) → True) ∧ (¬ (what = (10 : Int32)) → ((what = (11 : Int32) → True) ∧ (¬ (what = (11 : Int32)) → True)))))))))))))))))))))))))
set_option maxRecDepth 100000 in
set_option maxHeartbeats 4000000 in
theorem C_X5_count (G : xG) (h : xH) (o nw rd sd pa xt : Nat) (m tn : Nat → Int32) (what : Int32) (k_o : hAt h o = some (moC nw rd sd pa xt m)) (k_nw : hAt h nw = some (arI 103 tn)) (hp : p_X5_count m tn what) : Cd G 2 yX5_count cX5_count 5 (some .int) [.ref o, .int what] h (some (.int (f_X5_count m tn what))) h := by
  refine Ct.of (by decide) (by rfl) ?_
  refine Wp.eqs (L' := [(0, .ref o), (1, .int what)]) (st' := []) rfl rfl ?_
  obtain ⟨R, er⟩ : ∃ R, f_X5_count m tn what = R := ⟨_, rfl⟩
  rw [er]
  unfold f_X5_count at er
  unfold p_X5_count at hp
  refine x_sipush (pc := 0) (v := (999 : Int32)) dX5_count_0 (by decide) ?_
  refine x_istore_n (pc := 3) (L' := [(2, .int (999 : Int32)), (0, .ref o), (1, .int what)]) dX5_count_3 rfl rfl ?_
  refine x_iconst (pc := 4) (v := (0 : Int32)) dX5_count_4 (by decide) ?_
  refine x_istore_n (pc := 5) (L' := [(3, .int (0 : Int32)), (2, .int (999 : Int32)), (0, .ref o), (1, .int what)]) dX5_count_5 rfl rfl ?_
  refine x_iconst (pc := 6) (v := (0 : Int32)) dX5_count_6 (by decide) ?_
  refine x_istore (pc := 7) (L' := [(4, .int (0 : Int32)), (3, .int (0 : Int32)), (2, .int (999 : Int32)), (0, .ref o), (1, .int what)]) dX5_count_7 rfl rfl ?_
  obtain ⟨ql9, hp⟩ := hp
  refine L_X5_count_9 G h o nw rd sd pa xt m tn what k_o k_nw  xK (0 : Int32) (0 : Int32) (999 : Int32) ql9 ?_
  obtain ⟨F7, eF7⟩ : ∃ F, l_X5_count_9 xK m tn what (0 : Int32) (0 : Int32) (999 : Int32) = F := ⟨_, rfl⟩
  rw [eF7]
  try rw [eF7] at er
  try rw [eF7] at hp
  refine x_iload_n (pc := 56) dX5_count_56 rfl ?_
  by_cases c2 : what = (0 : Int32)
  · rw [if_pos c2] at er
    replace hp := hp.1 c2
    refine x_tabIn (pc := 57) (off := 63) (tgt := 120) dX5_count_57 (by rw [c2]; decide) (by rw [c2]; decide) (by rw [c2]; rfl) (by decide) ?_
    refine x_aload_n (pc := 120) dX5_count_120 rfl ?_
    refine x_getf (pc := 121) (v := .ref nw) dX5_count_121 xf_X5_7 k_o rfl ?_
    refine x_iload_n (pc := 124) dX5_count_124 rfl ?_
    obtain ⟨q125, hp⟩ := hp
    refine x_iald (pc := 125) dX5_count_125 k_nw q125 (j := (what.toNatClampNeg)) rfl ?_
    subst er
    exact x_iret (pc := 126) dX5_count_126 rfl rfl rfl rfl ⟨rfl, rfl⟩
  rw [if_neg c2] at er
  replace hp := hp.2 c2
  by_cases c3 : what = (1 : Int32)
  · rw [if_pos c3] at er
    replace hp := hp.1 c3
    refine x_tabIn (pc := 57) (off := 63) (tgt := 120) dX5_count_57 (by rw [c3]; decide) (by rw [c3]; decide) (by rw [c3]; rfl) (by decide) ?_
    refine x_aload_n (pc := 120) dX5_count_120 rfl ?_
    refine x_getf (pc := 121) (v := .ref nw) dX5_count_121 xf_X5_7 k_o rfl ?_
    refine x_iload_n (pc := 124) dX5_count_124 rfl ?_
    obtain ⟨q125, hp⟩ := hp
    refine x_iald (pc := 125) dX5_count_125 k_nw q125 (j := (what.toNatClampNeg)) rfl ?_
    subst er
    exact x_iret (pc := 126) dX5_count_126 rfl rfl rfl rfl ⟨rfl, rfl⟩
  rw [if_neg c3] at er
  replace hp := hp.2 c3
  by_cases c4 : what = (2 : Int32)
  · rw [if_pos c4] at er
    replace hp := hp.1 c4
    refine x_tabIn (pc := 57) (off := 63) (tgt := 120) dX5_count_57 (by rw [c4]; decide) (by rw [c4]; decide) (by rw [c4]; rfl) (by decide) ?_
    refine x_aload_n (pc := 120) dX5_count_120 rfl ?_
    refine x_getf (pc := 121) (v := .ref nw) dX5_count_121 xf_X5_7 k_o rfl ?_
    refine x_iload_n (pc := 124) dX5_count_124 rfl ?_
    obtain ⟨q125, hp⟩ := hp
    refine x_iald (pc := 125) dX5_count_125 k_nw q125 (j := (what.toNatClampNeg)) rfl ?_
    subst er
    exact x_iret (pc := 126) dX5_count_126 rfl rfl rfl rfl ⟨rfl, rfl⟩
  rw [if_neg c4] at er
  replace hp := hp.2 c4
  by_cases c5 : what = (3 : Int32)
  · rw [if_pos c5] at er
    replace hp := hp.1 c5
    refine x_tabIn (pc := 57) (off := 63) (tgt := 120) dX5_count_57 (by rw [c5]; decide) (by rw [c5]; decide) (by rw [c5]; rfl) (by decide) ?_
    refine x_aload_n (pc := 120) dX5_count_120 rfl ?_
    refine x_getf (pc := 121) (v := .ref nw) dX5_count_121 xf_X5_7 k_o rfl ?_
    refine x_iload_n (pc := 124) dX5_count_124 rfl ?_
    obtain ⟨q125, hp⟩ := hp
    refine x_iald (pc := 125) dX5_count_125 k_nw q125 (j := (what.toNatClampNeg)) rfl ?_
    subst er
    exact x_iret (pc := 126) dX5_count_126 rfl rfl rfl rfl ⟨rfl, rfl⟩
  rw [if_neg c5] at er
  replace hp := hp.2 c5
  by_cases c6 : what = (4 : Int32)
  · rw [if_pos c6] at er
    replace hp := hp.1 c6
    refine x_tabIn (pc := 57) (off := 63) (tgt := 120) dX5_count_57 (by rw [c6]; decide) (by rw [c6]; decide) (by rw [c6]; rfl) (by decide) ?_
    refine x_aload_n (pc := 120) dX5_count_120 rfl ?_
    refine x_getf (pc := 121) (v := .ref nw) dX5_count_121 xf_X5_7 k_o rfl ?_
    refine x_iload_n (pc := 124) dX5_count_124 rfl ?_
    obtain ⟨q125, hp⟩ := hp
    refine x_iald (pc := 125) dX5_count_125 k_nw q125 (j := (what.toNatClampNeg)) rfl ?_
    subst er
    exact x_iret (pc := 126) dX5_count_126 rfl rfl rfl rfl ⟨rfl, rfl⟩
  rw [if_neg c6] at er
  replace hp := hp.2 c6
  by_cases c7 : what = (5 : Int32)
  · rw [if_pos c7] at er
    replace hp := hp.1 c7
    refine x_tabIn (pc := 57) (off := 63) (tgt := 120) dX5_count_57 (by rw [c7]; decide) (by rw [c7]; decide) (by rw [c7]; rfl) (by decide) ?_
    refine x_aload_n (pc := 120) dX5_count_120 rfl ?_
    refine x_getf (pc := 121) (v := .ref nw) dX5_count_121 xf_X5_7 k_o rfl ?_
    refine x_iload_n (pc := 124) dX5_count_124 rfl ?_
    obtain ⟨q125, hp⟩ := hp
    refine x_iald (pc := 125) dX5_count_125 k_nw q125 (j := (what.toNatClampNeg)) rfl ?_
    subst er
    exact x_iret (pc := 126) dX5_count_126 rfl rfl rfl rfl ⟨rfl, rfl⟩
  rw [if_neg c7] at er
  replace hp := hp.2 c7
  by_cases c8 : what = (6 : Int32)
  · rw [if_pos c8] at er
    replace hp := hp.1 c8
    refine x_tabIn (pc := 57) (off := 70) (tgt := 127) dX5_count_57 (by rw [c8]; decide) (by rw [c8]; decide) (by rw [c8]; rfl) (by decide) ?_
    refine x_iload_n (pc := 127) dX5_count_127 rfl ?_
    subst er
    exact x_iret (pc := 128) dX5_count_128 rfl rfl rfl rfl ⟨rfl, rfl⟩
  rw [if_neg c8] at er
  replace hp := hp.2 c8
  by_cases c9 : what = (7 : Int32)
  · rw [if_pos c9] at er
    replace hp := hp.1 c9
    refine x_tabIn (pc := 57) (off := 72) (tgt := 129) dX5_count_57 (by rw [c9]; decide) (by rw [c9]; decide) (by rw [c9]; rfl) (by decide) ?_
    refine x_iload_n (pc := 129) dX5_count_129 rfl ?_
    subst er
    exact x_iret (pc := 130) dX5_count_130 rfl rfl rfl rfl ⟨rfl, rfl⟩
  rw [if_neg c9] at er
  replace hp := hp.2 c9
  by_cases c10 : what = (8 : Int32)
  · rw [if_pos c10] at er
    replace hp := hp.1 c10
    refine x_tabIn (pc := 57) (off := 74) (tgt := 131) dX5_count_57 (by rw [c10]; decide) (by rw [c10]; decide) (by rw [c10]; rfl) (by decide) ?_
    refine x_aload_n (pc := 131) dX5_count_131 rfl ?_
    refine x_bipush (pc := 132) (v := (7 : Int32)) dX5_count_132 (by decide) ?_
    obtain ⟨q134, hp⟩ := hp
    refine x_cV1i (pc := 134) dX5_count_134 xl_X5_186 xv_X5_sumOf k_o rfl (C_X5_sumOf G _ o nw rd sd pa xt m tn (7 : Int32) k_o k_nw q134) rfl rfl rfl ?_
    obtain ⟨F8, eF8⟩ : ∃ F, f_X5_sumOf m tn (7 : Int32) = F := ⟨_, rfl⟩
    rw [eF8]
    try rw [eF8] at er
    try rw [eF8] at hp
    subst er
    exact x_iret (pc := 137) dX5_count_137 rfl rfl rfl rfl ⟨rfl, rfl⟩
  rw [if_neg c10] at er
  replace hp := hp.2 c10
  by_cases c11 : what = (9 : Int32)
  · rw [if_pos c11] at er
    replace hp := hp.1 c11
    refine x_tabIn (pc := 57) (off := 81) (tgt := 138) dX5_count_57 (by rw [c11]; decide) (by rw [c11]; decide) (by rw [c11]; rfl) (by decide) ?_
    refine x_aload_n (pc := 138) dX5_count_138 rfl ?_
    refine x_bipush (pc := 139) (v := (8 : Int32)) dX5_count_139 (by decide) ?_
    obtain ⟨q141, hp⟩ := hp
    refine x_cV1i (pc := 141) dX5_count_141 xl_X5_186 xv_X5_sumOf k_o rfl (C_X5_sumOf G _ o nw rd sd pa xt m tn (8 : Int32) k_o k_nw q141) rfl rfl rfl ?_
    obtain ⟨F9, eF9⟩ : ∃ F, f_X5_sumOf m tn (8 : Int32) = F := ⟨_, rfl⟩
    rw [eF9]
    try rw [eF9] at er
    try rw [eF9] at hp
    subst er
    exact x_iret (pc := 144) dX5_count_144 rfl rfl rfl rfl ⟨rfl, rfl⟩
  rw [if_neg c11] at er
  replace hp := hp.2 c11
  by_cases c12 : what = (10 : Int32)
  · rw [if_pos c12] at er
    replace hp := hp.1 c12
    refine x_tabIn (pc := 57) (off := 88) (tgt := 145) dX5_count_57 (by rw [c12]; decide) (by rw [c12]; decide) (by rw [c12]; rfl) (by decide) ?_
    refine x_aload_n (pc := 145) dX5_count_145 rfl ?_
    refine x_getf (pc := 146) (v := .int (m 0)) dX5_count_146 xf_X5_47 k_o rfl ?_
    subst er
    exact x_iret (pc := 149) dX5_count_149 rfl rfl rfl rfl ⟨rfl, rfl⟩
  rw [if_neg c12] at er
  replace hp := hp.2 c12
  by_cases c13 : what = (11 : Int32)
  · rw [if_pos c13] at er
    replace hp := hp.1 c13
    refine x_tabIn (pc := 57) (off := 93) (tgt := 150) dX5_count_57 (by rw [c13]; decide) (by rw [c13]; decide) (by rw [c13]; rfl) (by decide) ?_
    refine x_aload_n (pc := 150) dX5_count_150 rfl ?_
    refine x_getf (pc := 151) (v := .int (m 1)) dX5_count_151 xf_X5_54 k_o rfl ?_
    subst er
    exact x_iret (pc := 154) dX5_count_154 rfl rfl rfl rfl ⟨rfl, rfl⟩
  rw [if_neg c13] at er
  replace hp := hp.2 c13
  refine x_tabOut (pc := 57) (tgt := 155) dX5_count_57 (by have zc2 := xneL c2 (z := 0) rfl; have zc3 := xneL c3 (z := 1) rfl; have zc4 := xneL c4 (z := 2) rfl; have zc5 := xneL c5 (z := 3) rfl; have zc6 := xneL c6 (z := 4) rfl; have zc7 := xneL c7 (z := 5) rfl; have zc8 := xneL c8 (z := 6) rfl; have zc9 := xneL c9 (z := 7) rfl; have zc10 := xneL c10 (z := 8) rfl; have zc11 := xneL c11 (z := 9) rfl; have zc12 := xneL c12 (z := 10) rfl; have zc13 := xneL c13 (z := 11) rfl; omega) (by decide) ?_
  refine x_iconst (pc := 155) (v := (-1 : Int32)) dX5_count_155 (by decide) ?_
  subst er
  exact x_iret (pc := 156) dX5_count_156 rfl rfl rfl rfl ⟨rfl, rfl⟩
