def f_X5_probed (t : Nat → Int32) (i : Int32) : Int32 := ((t ((f_X5_at i (0 : Int32)).toNatClampNeg)) + ((((t ((f_X5_at i (1 : Int32)).toNatClampNeg)) - (t ((f_X5_at i (0 : Int32)).toNatClampNeg))) + (1 : Int32)) / (2 : Int32)))
def p_X5_probed (t : Nat → Int32) (i : Int32) : Prop := (vp_in (f_X5_at i (0 : Int32)) 103 ∧ (vp_in (f_X5_at i (1 : Int32)) 103 ∧ True))
set_option maxRecDepth 100000 in
set_option maxHeartbeats 4000000 in
theorem C_X5_probed (G : xG) (h : xH) (ta : Nat) (t : Nat → Int32) (i : Int32) (k_ta : hAt h ta = some (arI 103 t)) (hp : p_X5_probed t i) : Cd G 1 yX5_probed cX5_probed 3 (some .int) [.ref ta, .int i] h (some (.int (f_X5_probed t i))) h := by
  refine Ct.of (by decide) (by rfl) ?_
  refine Wp.eqs (L' := [(0, .ref ta), (1, .int i)]) (st' := []) rfl rfl ?_
  obtain ⟨R, er⟩ : ∃ R, f_X5_probed t i = R := ⟨_, rfl⟩
  rw [er]
  unfold f_X5_probed at er
  unfold p_X5_probed at hp
  refine x_aload_n (pc := 0) dX5_probed_0 rfl ?_
  refine x_iload_n (pc := 1) dX5_probed_1 rfl ?_
  refine x_iconst (pc := 2) (v := (0 : Int32)) dX5_probed_2 (by decide) ?_
  refine x_cS2i (pc := 3) dX5_probed_3 xl_X5_36 xs_X5_at (C_X5_at G _ i (0 : Int32)) rfl rfl rfl ?_
  obtain ⟨F1, eF1⟩ : ∃ F, f_X5_at i (0 : Int32) = F := ⟨_, rfl⟩
  rw [eF1]
  try rw [eF1] at er
  try rw [eF1] at hp
  obtain ⟨q6, hp⟩ := hp
  refine x_iald (pc := 6) dX5_probed_6 k_ta q6 (j := (F1.toNatClampNeg)) rfl ?_
  refine x_istore_n (pc := 7) (L' := [(2, .int (t (F1.toNatClampNeg))), (0, .ref ta), (1, .int i)]) dX5_probed_7 rfl rfl ?_
  refine x_iload_n (pc := 8) dX5_probed_8 rfl ?_
  refine x_aload_n (pc := 9) dX5_probed_9 rfl ?_
  refine x_iload_n (pc := 10) dX5_probed_10 rfl ?_
  refine x_iconst (pc := 11) (v := (1 : Int32)) dX5_probed_11 (by decide) ?_
  refine x_cS2i (pc := 12) dX5_probed_12 xl_X5_36 xs_X5_at (C_X5_at G _ i (1 : Int32)) rfl rfl rfl ?_
  obtain ⟨F2, eF2⟩ : ∃ F, f_X5_at i (1 : Int32) = F := ⟨_, rfl⟩
  rw [eF2]
  try rw [eF2] at er
  try rw [eF2] at hp
  obtain ⟨q15, hp⟩ := hp
  refine x_iald (pc := 15) dX5_probed_15 k_ta q15 (j := (F2.toNatClampNeg)) rfl ?_
  refine x_iload_n (pc := 16) dX5_probed_16 rfl ?_
  refine x_isub (pc := 17) dX5_probed_17 ?_
  refine x_iconst (pc := 18) (v := (1 : Int32)) dX5_probed_18 (by decide) ?_
  refine x_iadd (pc := 19) dX5_probed_19 ?_
  refine x_iconst (pc := 20) (v := (2 : Int32)) dX5_probed_20 (by decide) ?_
  refine x_idiv (pc := 21) dX5_probed_21 (by decide) ?_
  refine x_iadd (pc := 22) dX5_probed_22 ?_
  subst er
  exact x_iret (pc := 23) dX5_probed_23 rfl rfl rfl rfl ⟨rfl, rfl⟩

def g_X5_probes_73 (i : Int32) (v3 : Int32) (x_o : (Nat → Int32)) (x_ta : (Nat → Int32)) (y0 : Int32) : (Nat → Int32) := (if y0 = 0 then (upd x_ta ((f_X5_at i (0 : Int32)).toNatClampNeg) v3) else (upd x_ta ((f_X5_at i (1 : Int32)).toNatClampNeg) (f_X5_greater (x_ta ((f_X5_at i (0 : Int32)).toNatClampNeg)) (f_X5_lesser (x_ta ((f_X5_at i (1 : Int32)).toNatClampNeg)) ((x_o 3) - (2 : Int32))))))
def h_X5_probes_73 (i : Int32) (v3 : Int32) (x_o : (Nat → Int32)) (x_ta : (Nat → Int32)) (y0 : Int32) : Prop := ((y0 = 0 → (vp_in (f_X5_at i (0 : Int32)) 103 ∧ True)) ∧ (¬ (y0 = 0) → (vp_in (f_X5_at i (0 : Int32)) 103 ∧ (vp_in (f_X5_at i (1 : Int32)) 103 ∧ (vp_in (f_X5_at i (1 : Int32)) 103 ∧ True)))))
def g_X5_probes_39 (i : Int32) (v3 : Int32) (x_ta : (Nat → Int32)) (y0 : Int32) : (Nat → Int32) := (if y0 = (3 : Int32) then (upd (upd x_ta ((f_X5_at i (1 : Int32)).toNatClampNeg) (v3 - (1 : Int32))) ((f_X5_at i (3 : Int32)).toNatClampNeg) (0 : Int32)) else x_ta)
def h_X5_probes_39 (i : Int32) (v3 : Int32) (x_ta : (Nat → Int32)) (y0 : Int32) : Prop := ((y0 = (3 : Int32) → (vp_in (f_X5_at i (1 : Int32)) 103 ∧ (vp_in (f_X5_at i (3 : Int32)) 103 ∧ True))) ∧ (¬ (y0 = (3 : Int32)) → True))
def f_X5_probes (m t : Nat → Int32) (i : Int32) : (Nat → Int32) × (Nat → Int32) := (if (f_X5_isGone (f_X5_sends m t i (f_X5_probed t i)).1) = 0 then ((f_X5_sends m t i (f_X5_probed t i)).1, (g_X5_probes_73 i (f_X5_probed t i) (f_X5_sends m t i (f_X5_probed t i)).1 (upd (f_X5_sends m t i (f_X5_probed t i)).2 ((f_X5_at i (3 : Int32)).toNatClampNeg) (0 : Int32)) ((f_X5_sends m t i (f_X5_probed t i)).1 4))) else ((f_X5_sends m t i (f_X5_probed t i)).1, (g_X5_probes_39 i (f_X5_probed t i) (upd (f_X5_sends m t i (f_X5_probed t i)).2 ((f_X5_at i (3 : Int32)).toNatClampNeg) (((f_X5_sends m t i (f_X5_probed t i)).2 ((f_X5_at i (3 : Int32)).toNatClampNeg)) + (1 : Int32))) ((upd (f_X5_sends m t i (f_X5_probed t i)).2 ((f_X5_at i (3 : Int32)).toNatClampNeg) (((f_X5_sends m t i (f_X5_probed t i)).2 ((f_X5_at i (3 : Int32)).toNatClampNeg)) + (1 : Int32))) ((f_X5_at i (3 : Int32)).toNatClampNeg)))))
def p_X5_probes (m t : Nat → Int32) (i : Int32) : Prop := (p_X5_probed t i ∧ (p_X5_sends m t i (f_X5_probed t i) ∧ (((f_X5_isGone (f_X5_sends m t i (f_X5_probed t i)).1) = 0 → (vp_in (f_X5_at i (3 : Int32)) 103 ∧ ((h_X5_probes_73 i (f_X5_probed t i) (f_X5_sends m t i (f_X5_probed t i)).1 (upd (f_X5_sends m t i (f_X5_probed t i)).2 ((f_X5_at i (3 : Int32)).toNatClampNeg) (0 : Int32)) ((f_X5_sends m t i (f_X5_probed t i)).1 4)) ∧ True))) ∧ (¬ ((f_X5_isGone (f_X5_sends m t i (f_X5_probed t i)).1) = 0) → (vp_in (f_X5_at i (3 : Int32)) 103 ∧ (vp_in (f_X5_at i (3 : Int32)) 103 ∧ (vp_in (f_X5_at i (3 : Int32)) 103 ∧ ((h_X5_probes_39 i (f_X5_probed t i) (upd (f_X5_sends m t i (f_X5_probed t i)).2 ((f_X5_at i (3 : Int32)).toNatClampNeg) (((f_X5_sends m t i (f_X5_probed t i)).2 ((f_X5_at i (3 : Int32)).toNatClampNeg)) + (1 : Int32))) ((upd (f_X5_sends m t i (f_X5_probed t i)).2 ((f_X5_at i (3 : Int32)).toNatClampNeg) (((f_X5_sends m t i (f_X5_probed t i)).2 ((f_X5_at i (3 : Int32)).toNatClampNeg)) + (1 : Int32))) ((f_X5_at i (3 : Int32)).toNatClampNeg))) ∧ True))))))))
set_option maxRecDepth 100000 in
set_option maxHeartbeats 4000000 in
theorem C_X5_probes (G : xG) (h : xH) (o ta nw rd sd pa xt : Nat) (m t : Nat → Int32) (i : Int32) (k_o : hAt h o = some (moC nw rd sd pa xt m)) (k_ta : hAt h ta = some (arI 103 t)) (hp : p_X5_probes m t i) : Cd G 4 yX5_probes cX5_probes 4 none [.ref o, .ref ta, .int i] h none (hSet (hSet h o (moC nw rd sd pa xt (f_X5_probes m t i).1)) ta (arI 103 (f_X5_probes m t i).2)) := by
  have n_o_ta : o ≠ ta := hne_k k_o k_ta rfl
  refine Ct.of (by decide) (by rfl) ?_
  refine Wp.eqs (L' := [(0, .ref o), (1, .ref ta), (2, .int i)]) (st' := []) rfl rfl ?_
  refine Wp.eqh (h' := (hSet (hSet h o (moC nw rd sd pa xt m)) ta (arI 103 t))) (by rw [hSet_self k_o, hSet_self k_ta]) ?_
  obtain ⟨R, er⟩ : ∃ R, f_X5_probes m t i = R := ⟨_, rfl⟩
  rw [er]
  unfold f_X5_probes at er
  unfold p_X5_probes at hp
  refine x_aload_n (pc := 0) dX5_probes_0 rfl ?_
  refine x_iload_n (pc := 1) dX5_probes_1 rfl ?_
  obtain ⟨q2, hp⟩ := hp
  refine x_cS2i (pc := 2) dX5_probes_2 xl_X5_172 xs_X5_probed (C_X5_probed G _ ta t i hAt_same q2) rfl rfl rfl ?_
  obtain ⟨F1, eF1⟩ : ∃ F, f_X5_probed t i = F := ⟨_, rfl⟩
  rw [eF1]
  try rw [eF1] at er
  try rw [eF1] at hp
  refine x_istore_n (pc := 5) (L' := [(3, .int F1), (0, .ref o), (1, .ref ta), (2, .int i)]) dX5_probes_5 rfl rfl ?_
  refine x_aload_n (pc := 6) dX5_probes_6 rfl ?_
  refine x_aload_n (pc := 7) dX5_probes_7 rfl ?_
  refine x_iload_n (pc := 8) dX5_probes_8 rfl ?_
  refine x_iload_n (pc := 9) dX5_probes_9 rfl ?_
  obtain ⟨q10, hp⟩ := hp
  refine x_cV3v (pc := 10) dX5_probes_10 xl_X5_165 xv_X5_sends (hAt_n n_o_ta hAt_same) rfl (C_X5_sends G _ o ta nw rd sd pa xt m t i F1 (hAt_n n_o_ta hAt_same) hAt_same q10) rfl rfl rfl ?_
  obtain ⟨F2, eF2⟩ : ∃ F, f_X5_sends m t i F1 = F := ⟨_, rfl⟩
  rw [eF2]
  try rw [eF2] at er
  try rw [eF2] at hp
  refine Wp.eqh (h' := (hSet (hSet h o (moC nw rd sd pa xt F2.1)) ta (arI 103 F2.2))) ((congrArg (fun z => hSet z ta _) (hSet_sw1 n_o_ta)).trans (hSet_set)) ?_
  refine x_aload_n (pc := 13) dX5_probes_13 rfl ?_
  refine x_cV0i (pc := 14) dX5_probes_14 xl_X5_162 xv_X5_isGone (hAt_n n_o_ta hAt_same) rfl (C_X5_isGone G _ o nw rd sd pa xt F2.1 (hAt_n n_o_ta hAt_same)) rfl rfl rfl ?_
  obtain ⟨F3, eF3⟩ : ∃ F, f_X5_isGone F2.1 = F := ⟨_, rfl⟩
  rw [eF3]
  try rw [eF3] at er
  try rw [eF3] at hp
  have bF3 : xB F3 := by rw [← eF3]; exact (B_X5_isGone _)
  refine x_if_eq (pc := 17) (tgt := 61) dX5_probes_17 (by decide) (fun (c1 : F3 = 0) => ?_) (fun (c1 : ¬ (F3 = 0)) => ?_)
  · rw [if_pos c1] at er
    replace hp := hp.1 c1
    refine x_aload_n (pc := 61) dX5_probes_61 rfl ?_
    refine x_iload_n (pc := 62) dX5_probes_62 rfl ?_
    refine x_iconst (pc := 63) (v := (3 : Int32)) dX5_probes_63 (by decide) ?_
    refine x_cS2i (pc := 64) dX5_probes_64 xl_X5_36 xs_X5_at (C_X5_at G _ i (3 : Int32)) rfl rfl rfl ?_
    obtain ⟨F4, eF4⟩ : ∃ F, f_X5_at i (3 : Int32) = F := ⟨_, rfl⟩
    rw [eF4]
    try rw [eF4] at er
    try rw [eF4] at hp
    refine x_iconst (pc := 67) (v := (0 : Int32)) dX5_probes_67 (by decide) ?_
    obtain ⟨q68, hp⟩ := hp
    refine x_iast (pc := 68) (e' := arI 103 (upd F2.2 (F4.toNatClampNeg) (0 : Int32))) dX5_probes_68 hAt_same q68 (j := (F4.toNatClampNeg)) rfl rfl ?_
    refine Wp.eqh (h' := (hSet (hSet h o (moC nw rd sd pa xt F2.1)) ta (arI 103 (upd F2.2 (F4.toNatClampNeg) (0 : Int32))))) (hSet_set) ?_
    refine x_aload_n (pc := 69) dX5_probes_69 rfl ?_
    refine x_getf (pc := 70) (v := .int (F2.1 4)) dX5_probes_70 xf_X5_158 (hAt_n n_o_ta hAt_same) rfl ?_
    obtain ⟨qr73, hp⟩ := hp
    obtain ⟨F15, eF15⟩ : ∃ F, g_X5_probes_73 i F1 F2.1 (upd F2.2 (F4.toNatClampNeg) (0 : Int32)) (F2.1 4) = F := ⟨_, rfl⟩
    try rw [eF15] at er
    try rw [eF15] at hp
    refine x_mrg (pc' := 120) (L' := [(3, .int F1), (0, .ref o), (1, .ref ta), (2, .int i)]) (st' := []) (h' := (hSet (hSet h o (moC nw rd sd pa xt F2.1)) ta (arI 103 F15))) (fun J => ?_) ?_
    · unfold g_X5_probes_73 at eF15
      unfold h_X5_probes_73 at qr73
      try rw [eF1] at eF15
      try rw [eF1] at qr73
      try rw [eF2] at eF15
      try rw [eF2] at qr73
      try rw [eF3] at eF15
      try rw [eF3] at qr73
      try rw [eF4] at eF15
      try rw [eF4] at qr73
      refine x_if_eq (pc := 73) (tgt := 112) dX5_probes_73 (by decide) (fun (c3 : (F2.1 4) = 0) => ?_) (fun (c3 : ¬ ((F2.1 4) = 0)) => ?_)
      · rw [if_pos c3] at eF15
        replace qr73 := qr73.1 c3
        refine x_aload_n (pc := 112) dX5_probes_112 rfl ?_
        refine x_iload_n (pc := 113) dX5_probes_113 rfl ?_
        refine x_iconst (pc := 114) (v := (0 : Int32)) dX5_probes_114 (by decide) ?_
        refine x_cS2i (pc := 115) dX5_probes_115 xl_X5_36 xs_X5_at (C_X5_at G _ i (0 : Int32)) rfl rfl rfl ?_
        obtain ⟨F10, eF10⟩ : ∃ F, f_X5_at i (0 : Int32) = F := ⟨_, rfl⟩
        rw [eF10]
        try rw [eF10] at eF15
        try rw [eF10] at qr73
        refine x_iload_n (pc := 118) dX5_probes_118 rfl ?_
        obtain ⟨q119, qr73⟩ := qr73
        refine x_iast (pc := 119) (e' := arI 103 (upd (upd F2.2 (F4.toNatClampNeg) (0 : Int32)) (F10.toNatClampNeg) F1)) dX5_probes_119 hAt_same q119 (j := (F10.toNatClampNeg)) rfl rfl ?_
        refine Wp.eqh (h' := (hSet (hSet h o (moC nw rd sd pa xt F2.1)) ta (arI 103 (upd (upd F2.2 (F4.toNatClampNeg) (0 : Int32)) (F10.toNatClampNeg) F1)))) (hSet_set) ?_
        subst eF15
        exact J
      · rw [if_neg c3] at eF15
        replace qr73 := qr73.2 c3
        refine x_aload_n (pc := 76) dX5_probes_76 rfl ?_
        refine x_iload_n (pc := 77) dX5_probes_77 rfl ?_
        refine x_iconst (pc := 78) (v := (1 : Int32)) dX5_probes_78 (by decide) ?_
        refine x_cS2i (pc := 79) dX5_probes_79 xl_X5_36 xs_X5_at (C_X5_at G _ i (1 : Int32)) rfl rfl rfl ?_
        obtain ⟨F11, eF11⟩ : ∃ F, f_X5_at i (1 : Int32) = F := ⟨_, rfl⟩
        rw [eF11]
        try rw [eF11] at eF15
        try rw [eF11] at qr73
        refine x_aload_n (pc := 82) dX5_probes_82 rfl ?_
        refine x_iload_n (pc := 83) dX5_probes_83 rfl ?_
        refine x_iconst (pc := 84) (v := (0 : Int32)) dX5_probes_84 (by decide) ?_
        refine x_cS2i (pc := 85) dX5_probes_85 xl_X5_36 xs_X5_at (C_X5_at G _ i (0 : Int32)) rfl rfl rfl ?_
        obtain ⟨F12, eF12⟩ : ∃ F, f_X5_at i (0 : Int32) = F := ⟨_, rfl⟩
        rw [eF12]
        try rw [eF12] at eF15
        try rw [eF12] at qr73
        obtain ⟨q88, qr73⟩ := qr73
        refine x_iald (pc := 88) dX5_probes_88 hAt_same q88 (j := (F12.toNatClampNeg)) rfl ?_
        refine x_aload_n (pc := 89) dX5_probes_89 rfl ?_
        refine x_iload_n (pc := 90) dX5_probes_90 rfl ?_
        refine x_iconst (pc := 91) (v := (1 : Int32)) dX5_probes_91 (by decide) ?_
        refine x_cS2i (pc := 92) dX5_probes_92 xl_X5_36 xs_X5_at (C_X5_at G _ i (1 : Int32)) rfl rfl rfl ?_
        rw [eF11]
        obtain ⟨q95, qr73⟩ := qr73
        refine x_iald (pc := 95) dX5_probes_95 hAt_same q95 (j := (F11.toNatClampNeg)) rfl ?_
        refine x_aload_n (pc := 96) dX5_probes_96 rfl ?_
        refine x_getf (pc := 97) (v := .int (F2.1 3)) dX5_probes_97 xf_X5_151 (hAt_n n_o_ta hAt_same) rfl ?_
        refine x_iconst (pc := 100) (v := (2 : Int32)) dX5_probes_100 (by decide) ?_
        refine x_isub (pc := 101) dX5_probes_101 ?_
        refine x_cS2i (pc := 102) dX5_probes_102 xl_X5_169 xs_X5_lesser (C_X5_lesser G _ ((upd F2.2 (F4.toNatClampNeg) (0 : Int32)) (F11.toNatClampNeg)) ((F2.1 3) - (2 : Int32))) rfl rfl rfl ?_
        obtain ⟨F13, eF13⟩ : ∃ F, f_X5_lesser ((upd F2.2 (F4.toNatClampNeg) (0 : Int32)) (F11.toNatClampNeg)) ((F2.1 3) - (2 : Int32)) = F := ⟨_, rfl⟩
        rw [eF13]
        try rw [eF13] at eF15
        try rw [eF13] at qr73
        refine x_cS2i (pc := 105) dX5_probes_105 xl_X5_142 xs_X5_greater (C_X5_greater G _ ((upd F2.2 (F4.toNatClampNeg) (0 : Int32)) (F12.toNatClampNeg)) F13) rfl rfl rfl ?_
        obtain ⟨F14, eF14⟩ : ∃ F, f_X5_greater ((upd F2.2 (F4.toNatClampNeg) (0 : Int32)) (F12.toNatClampNeg)) F13 = F := ⟨_, rfl⟩
        rw [eF14]
        try rw [eF14] at eF15
        try rw [eF14] at qr73
        obtain ⟨q108, qr73⟩ := qr73
        refine x_iast (pc := 108) (e' := arI 103 (upd (upd F2.2 (F4.toNatClampNeg) (0 : Int32)) (F11.toNatClampNeg) F14)) dX5_probes_108 hAt_same q108 (j := (F11.toNatClampNeg)) rfl rfl ?_
        refine Wp.eqh (h' := (hSet (hSet h o (moC nw rd sd pa xt F2.1)) ta (arI 103 (upd (upd F2.2 (F4.toNatClampNeg) (0 : Int32)) (F11.toNatClampNeg) F14)))) (hSet_set) ?_
        refine x_goto (pc := 109) (tgt := 120) dX5_probes_109 (by decide) ?_
        subst eF15
        exact J
    subst er
    exact x_vret (pc := 120) dX5_probes_120 rfl rfl rfl ⟨rfl, rfl⟩
  · rw [if_neg c1] at er
    replace hp := hp.2 c1
    refine x_aload_n (pc := 20) dX5_probes_20 rfl ?_
    refine x_iload_n (pc := 21) dX5_probes_21 rfl ?_
    refine x_iconst (pc := 22) (v := (3 : Int32)) dX5_probes_22 (by decide) ?_
    refine x_cS2i (pc := 23) dX5_probes_23 xl_X5_36 xs_X5_at (C_X5_at G _ i (3 : Int32)) rfl rfl rfl ?_
    obtain ⟨F16, eF16⟩ : ∃ F, f_X5_at i (3 : Int32) = F := ⟨_, rfl⟩
    rw [eF16]
    try rw [eF16] at er
    try rw [eF16] at hp
    refine x_dup2 (pc := 26) dX5_probes_26 rfl rfl ?_
    obtain ⟨q27, hp⟩ := hp
    refine x_iald (pc := 27) dX5_probes_27 hAt_same q27 (j := (F16.toNatClampNeg)) rfl ?_
    refine x_iconst (pc := 28) (v := (1 : Int32)) dX5_probes_28 (by decide) ?_
    refine x_iadd (pc := 29) dX5_probes_29 ?_
    obtain ⟨q30, hp⟩ := hp
    refine x_iast (pc := 30) (e' := arI 103 (upd F2.2 (F16.toNatClampNeg) ((F2.2 (F16.toNatClampNeg)) + (1 : Int32)))) dX5_probes_30 hAt_same q30 (j := (F16.toNatClampNeg)) rfl rfl ?_
    refine Wp.eqh (h' := (hSet (hSet h o (moC nw rd sd pa xt F2.1)) ta (arI 103 (upd F2.2 (F16.toNatClampNeg) ((F2.2 (F16.toNatClampNeg)) + (1 : Int32)))))) (hSet_set) ?_
    refine x_aload_n (pc := 31) dX5_probes_31 rfl ?_
    refine x_iload_n (pc := 32) dX5_probes_32 rfl ?_
    refine x_iconst (pc := 33) (v := (3 : Int32)) dX5_probes_33 (by decide) ?_
    refine x_cS2i (pc := 34) dX5_probes_34 xl_X5_36 xs_X5_at (C_X5_at G _ i (3 : Int32)) rfl rfl rfl ?_
    rw [eF16]
    obtain ⟨q37, hp⟩ := hp
    refine x_iald (pc := 37) dX5_probes_37 hAt_same q37 (j := (F16.toNatClampNeg)) rfl ?_
    refine x_iconst (pc := 38) (v := (3 : Int32)) dX5_probes_38 (by decide) ?_
    obtain ⟨qr39, hp⟩ := hp
    obtain ⟨F20, eF20⟩ : ∃ F, g_X5_probes_39 i F1 (upd F2.2 (F16.toNatClampNeg) ((F2.2 (F16.toNatClampNeg)) + (1 : Int32))) ((upd F2.2 (F16.toNatClampNeg) ((F2.2 (F16.toNatClampNeg)) + (1 : Int32))) (F16.toNatClampNeg)) = F := ⟨_, rfl⟩
    try rw [eF20] at er
    try rw [eF20] at hp
    refine x_mrg (pc' := 60) (L' := [(3, .int F1), (0, .ref o), (1, .ref ta), (2, .int i)]) (st' := []) (h' := (hSet (hSet h o (moC nw rd sd pa xt F2.1)) ta (arI 103 F20))) (fun J => ?_) ?_
    · unfold g_X5_probes_39 at eF20
      unfold h_X5_probes_39 at qr39
      try rw [eF1] at eF20
      try rw [eF1] at qr39
      try rw [eF2] at eF20
      try rw [eF2] at qr39
      try rw [eF3] at eF20
      try rw [eF3] at qr39
      try rw [eF16] at eF20
      try rw [eF16] at qr39
      refine x_icmp_ne (pc := 39) (tgt := 60) dX5_probes_39 (by decide) (fun (c5 : ¬ (((upd F2.2 (F16.toNatClampNeg) ((F2.2 (F16.toNatClampNeg)) + (1 : Int32))) (F16.toNatClampNeg)) = (3 : Int32))) => ?_) (fun (c5 : ((upd F2.2 (F16.toNatClampNeg) ((F2.2 (F16.toNatClampNeg)) + (1 : Int32))) (F16.toNatClampNeg)) = (3 : Int32)) => ?_)
      · rw [if_neg c5] at eF20
        replace qr39 := qr39.2 c5
        subst eF20
        exact J
      · rw [if_pos c5] at eF20
        replace qr39 := qr39.1 c5
        refine x_aload_n (pc := 42) dX5_probes_42 rfl ?_
        refine x_iload_n (pc := 43) dX5_probes_43 rfl ?_
        refine x_iconst (pc := 44) (v := (1 : Int32)) dX5_probes_44 (by decide) ?_
        refine x_cS2i (pc := 45) dX5_probes_45 xl_X5_36 xs_X5_at (C_X5_at G _ i (1 : Int32)) rfl rfl rfl ?_
        obtain ⟨F19, eF19⟩ : ∃ F, f_X5_at i (1 : Int32) = F := ⟨_, rfl⟩
        rw [eF19]
        try rw [eF19] at eF20
        try rw [eF19] at qr39
        refine x_iload_n (pc := 48) dX5_probes_48 rfl ?_
        refine x_iconst (pc := 49) (v := (1 : Int32)) dX5_probes_49 (by decide) ?_
        refine x_isub (pc := 50) dX5_probes_50 ?_
        obtain ⟨q51, qr39⟩ := qr39
        refine x_iast (pc := 51) (e' := arI 103 (upd (upd F2.2 (F16.toNatClampNeg) ((F2.2 (F16.toNatClampNeg)) + (1 : Int32))) (F19.toNatClampNeg) (F1 - (1 : Int32)))) dX5_probes_51 hAt_same q51 (j := (F19.toNatClampNeg)) rfl rfl ?_
        refine Wp.eqh (h' := (hSet (hSet h o (moC nw rd sd pa xt F2.1)) ta (arI 103 (upd (upd F2.2 (F16.toNatClampNeg) ((F2.2 (F16.toNatClampNeg)) + (1 : Int32))) (F19.toNatClampNeg) (F1 - (1 : Int32)))))) (hSet_set) ?_
        refine x_aload_n (pc := 52) dX5_probes_52 rfl ?_
        refine x_iload_n (pc := 53) dX5_probes_53 rfl ?_
        refine x_iconst (pc := 54) (v := (3 : Int32)) dX5_probes_54 (by decide) ?_
        refine x_cS2i (pc := 55) dX5_probes_55 xl_X5_36 xs_X5_at (C_X5_at G _ i (3 : Int32)) rfl rfl rfl ?_
        rw [eF16]
        refine x_iconst (pc := 58) (v := (0 : Int32)) dX5_probes_58 (by decide) ?_
        obtain ⟨q59, qr39⟩ := qr39
        refine x_iast (pc := 59) (e' := arI 103 (upd (upd (upd F2.2 (F16.toNatClampNeg) ((F2.2 (F16.toNatClampNeg)) + (1 : Int32))) (F19.toNatClampNeg) (F1 - (1 : Int32))) (F16.toNatClampNeg) (0 : Int32))) dX5_probes_59 hAt_same q59 (j := (F16.toNatClampNeg)) rfl rfl ?_
        refine Wp.eqh (h' := (hSet (hSet h o (moC nw rd sd pa xt F2.1)) ta (arI 103 (upd (upd (upd F2.2 (F16.toNatClampNeg) ((F2.2 (F16.toNatClampNeg)) + (1 : Int32))) (F19.toNatClampNeg) (F1 - (1 : Int32))) (F16.toNatClampNeg) (0 : Int32))))) (hSet_set) ?_
        subst eF20
        exact J
    subst er
    exact x_vret (pc := 60) dX5_probes_60 rfl rfl rfl ⟨rfl, rfl⟩

def g_X5_ticks_49 (i : Int32) (v4 : Int32) (v3 : Int32) (x_ta : (Nat → Int32)) (y0 : Int32) : Int32 := (if y0 = v3 then (if (x_ta ((f_X5_at i (1 : Int32)).toNatClampNeg)) = v4 then (0 : Int32) else (1 : Int32)) else (1 : Int32))
def h_X5_ticks_49 (i : Int32) (v4 : Int32) (v3 : Int32) (x_ta : (Nat → Int32)) (y0 : Int32) : Prop := ((y0 = v3 → (vp_in (f_X5_at i (1 : Int32)) 103 ∧ (((x_ta ((f_X5_at i (1 : Int32)).toNatClampNeg)) = v4 → True) ∧ (¬ ((x_ta ((f_X5_at i (1 : Int32)).toNatClampNeg)) = v4) → True)))) ∧ (¬ (y0 = v3) → True))
theorem Bg_X5_ticks_49 (i : Int32) (v4 : Int32) (v3 : Int32) (x_ta : (Nat → Int32)) (y0 : Int32) : xB (g_X5_ticks_49 i v4 v3 x_ta y0) := by
  unfold g_X5_ticks_49
  exact (xB_ite (xB_ite xB0 xB1) xB1)
def g_X5_ticks_73 (i : Int32) (v6 : Int32) (x_ta : (Nat → Int32)) : (Nat → Int32) := (if v6 = 0 then x_ta else (upd x_ta ((f_X5_at i (3 : Int32)).toNatClampNeg) (0 : Int32)))
def h_X5_ticks_73 (i : Int32) (v6 : Int32) (x_ta : (Nat → Int32)) : Prop := ((v6 = 0 → True) ∧ (¬ (v6 = 0) → (vp_in (f_X5_at i (3 : Int32)) 103 ∧ True)))
def g_X5_ticks_98 (i : Int32) (v6 : Int32) (v5 : Int32) (x_o : (Nat → Int32)) (x_ta : (Nat → Int32)) (y0 : Int32) (y1 : Int32) : (Nat → Int32) × (Nat → Int32) := (if y0 ≤ y1 then (if v5 = 0 then (x_o, x_ta) else (if ((upd x_ta ((f_X5_at i (5 : Int32)).toNatClampNeg) ((x_ta ((f_X5_at i (5 : Int32)).toNatClampNeg)) + (1 : Int32))) ((f_X5_at i (5 : Int32)).toNatClampNeg)) = ((upd x_ta ((f_X5_at i (5 : Int32)).toNatClampNeg) ((x_ta ((f_X5_at i (5 : Int32)).toNatClampNeg)) + (1 : Int32))) 4) then (x_o, (upd (upd (upd x_ta ((f_X5_at i (5 : Int32)).toNatClampNeg) ((x_ta ((f_X5_at i (5 : Int32)).toNatClampNeg)) + (1 : Int32))) ((f_X5_at i (5 : Int32)).toNatClampNeg) (0 : Int32)) ((f_X5_at i (1 : Int32)).toNatClampNeg) ((upd (upd x_ta ((f_X5_at i (5 : Int32)).toNatClampNeg) ((x_ta ((f_X5_at i (5 : Int32)).toNatClampNeg)) + (1 : Int32))) ((f_X5_at i (5 : Int32)).toNatClampNeg) (0 : Int32)) 3))) else (x_o, (upd x_ta ((f_X5_at i (5 : Int32)).toNatClampNeg) ((x_ta ((f_X5_at i (5 : Int32)).toNatClampNeg)) + (1 : Int32)))))) else (if v5 = 0 then ((f_X5_probes x_o x_ta i).1, (f_X5_probes x_o x_ta i).2) else (if v6 = 0 then (if v5 = 0 then (x_o, x_ta) else (if ((upd x_ta ((f_X5_at i (5 : Int32)).toNatClampNeg) ((x_ta ((f_X5_at i (5 : Int32)).toNatClampNeg)) + (1 : Int32))) ((f_X5_at i (5 : Int32)).toNatClampNeg)) = ((upd x_ta ((f_X5_at i (5 : Int32)).toNatClampNeg) ((x_ta ((f_X5_at i (5 : Int32)).toNatClampNeg)) + (1 : Int32))) 4) then (x_o, (upd (upd (upd x_ta ((f_X5_at i (5 : Int32)).toNatClampNeg) ((x_ta ((f_X5_at i (5 : Int32)).toNatClampNeg)) + (1 : Int32))) ((f_X5_at i (5 : Int32)).toNatClampNeg) (0 : Int32)) ((f_X5_at i (1 : Int32)).toNatClampNeg) ((upd (upd x_ta ((f_X5_at i (5 : Int32)).toNatClampNeg) ((x_ta ((f_X5_at i (5 : Int32)).toNatClampNeg)) + (1 : Int32))) ((f_X5_at i (5 : Int32)).toNatClampNeg) (0 : Int32)) 3))) else (x_o, (upd x_ta ((f_X5_at i (5 : Int32)).toNatClampNeg) ((x_ta ((f_X5_at i (5 : Int32)).toNatClampNeg)) + (1 : Int32)))))) else ((f_X5_probes x_o x_ta i).1, (f_X5_probes x_o x_ta i).2))))
def h_X5_ticks_98 (i : Int32) (v6 : Int32) (v5 : Int32) (x_o : (Nat → Int32)) (x_ta : (Nat → Int32)) (y0 : Int32) (y1 : Int32) : Prop := ((y0 ≤ y1 → ((v5 = 0 → True) ∧ (¬ (v5 = 0) → (vp_in (f_X5_at i (5 : Int32)) 103 ∧ (vp_in (f_X5_at i (5 : Int32)) 103 ∧ (vp_in (f_X5_at i (5 : Int32)) 103 ∧ ((((upd x_ta ((f_X5_at i (5 : Int32)).toNatClampNeg) ((x_ta ((f_X5_at i (5 : Int32)).toNatClampNeg)) + (1 : Int32))) ((f_X5_at i (5 : Int32)).toNatClampNeg)) = ((upd x_ta ((f_X5_at i (5 : Int32)).toNatClampNeg) ((x_ta ((f_X5_at i (5 : Int32)).toNatClampNeg)) + (1 : Int32))) 4) → (vp_in (f_X5_at i (5 : Int32)) 103 ∧ (vp_in (f_X5_at i (1 : Int32)) 103 ∧ True))) ∧ (¬ (((upd x_ta ((f_X5_at i (5 : Int32)).toNatClampNeg) ((x_ta ((f_X5_at i (5 : Int32)).toNatClampNeg)) + (1 : Int32))) ((f_X5_at i (5 : Int32)).toNatClampNeg)) = ((upd x_ta ((f_X5_at i (5 : Int32)).toNatClampNeg) ((x_ta ((f_X5_at i (5 : Int32)).toNatClampNeg)) + (1 : Int32))) 4)) → True)))))))) ∧ (¬ (y0 ≤ y1) → ((v5 = 0 → (p_X5_probes x_o x_ta i ∧ True)) ∧ (¬ (v5 = 0) → ((v6 = 0 → ((v5 = 0 → True) ∧ (¬ (v5 = 0) → (vp_in (f_X5_at i (5 : Int32)) 103 ∧ (vp_in (f_X5_at i (5 : Int32)) 103 ∧ (vp_in (f_X5_at i (5 : Int32)) 103 ∧ ((((upd x_ta ((f_X5_at i (5 : Int32)).toNatClampNeg) ((x_ta ((f_X5_at i (5 : Int32)).toNatClampNeg)) + (1 : Int32))) ((f_X5_at i (5 : Int32)).toNatClampNeg)) = ((upd x_ta ((f_X5_at i (5 : Int32)).toNatClampNeg) ((x_ta ((f_X5_at i (5 : Int32)).toNatClampNeg)) + (1 : Int32))) 4) → (vp_in (f_X5_at i (5 : Int32)) 103 ∧ (vp_in (f_X5_at i (1 : Int32)) 103 ∧ True))) ∧ (¬ (((upd x_ta ((f_X5_at i (5 : Int32)).toNatClampNeg) ((x_ta ((f_X5_at i (5 : Int32)).toNatClampNeg)) + (1 : Int32))) ((f_X5_at i (5 : Int32)).toNatClampNeg)) = ((upd x_ta ((f_X5_at i (5 : Int32)).toNatClampNeg) ((x_ta ((f_X5_at i (5 : Int32)).toNatClampNeg)) + (1 : Int32))) 4)) → True)))))))) ∧ (¬ (v6 = 0) → (p_X5_probes x_o x_ta i ∧ True)))))))
def g_X5_ticks_216 (i : Int32) (v7 : Int32) (x_ta : (Nat → Int32)) : Int32 := (if v7 = 0 then (0 : Int32) else (x_ta ((f_X5_at i (5 : Int32)).toNatClampNeg)))
def h_X5_ticks_216 (i : Int32) (v7 : Int32) (x_ta : (Nat → Int32)) : Prop := ((v7 = 0 → True) ∧ (¬ (v7 = 0) → (vp_in (f_X5_at i (5 : Int32)) 103 ∧ True)))
def f_X5_ticks (m t : Nat → Int32) (i : Int32) : (Nat → Int32) × (Nat → Int32) := ((g_X5_ticks_98 i (g_X5_ticks_49 i (t ((f_X5_at i (1 : Int32)).toNatClampNeg)) (t ((f_X5_at i (0 : Int32)).toNatClampNeg)) (f_X5_feels m t i).2 ((f_X5_feels m t i).2 ((f_X5_at i (0 : Int32)).toNatClampNeg))) ((if (t ((f_X5_at i (2 : Int32)).toNatClampNeg)) = (1 : Int32) then (1 : Int32) else (0 : Int32))) (f_X5_feels m t i).1 (g_X5_ticks_73 i (g_X5_ticks_49 i (t ((f_X5_at i (1 : Int32)).toNatClampNeg)) (t ((f_X5_at i (0 : Int32)).toNatClampNeg)) (f_X5_feels m t i).2 ((f_X5_feels m t i).2 ((f_X5_at i (0 : Int32)).toNatClampNeg))) (f_X5_feels m t i).2) ((g_X5_ticks_73 i (g_X5_ticks_49 i (t ((f_X5_at i (1 : Int32)).toNatClampNeg)) (t ((f_X5_at i (0 : Int32)).toNatClampNeg)) (f_X5_feels m t i).2 ((f_X5_feels m t i).2 ((f_X5_at i (0 : Int32)).toNatClampNeg))) (f_X5_feels m t i).2) ((f_X5_at i (1 : Int32)).toNatClampNeg)) ((g_X5_ticks_73 i (g_X5_ticks_49 i (t ((f_X5_at i (1 : Int32)).toNatClampNeg)) (t ((f_X5_at i (0 : Int32)).toNatClampNeg)) (f_X5_feels m t i).2 ((f_X5_feels m t i).2 ((f_X5_at i (0 : Int32)).toNatClampNeg))) (f_X5_feels m t i).2) ((f_X5_at i (0 : Int32)).toNatClampNeg))).1, (upd (upd (g_X5_ticks_98 i (g_X5_ticks_49 i (t ((f_X5_at i (1 : Int32)).toNatClampNeg)) (t ((f_X5_at i (0 : Int32)).toNatClampNeg)) (f_X5_feels m t i).2 ((f_X5_feels m t i).2 ((f_X5_at i (0 : Int32)).toNatClampNeg))) ((if (t ((f_X5_at i (2 : Int32)).toNatClampNeg)) = (1 : Int32) then (1 : Int32) else (0 : Int32))) (f_X5_feels m t i).1 (g_X5_ticks_73 i (g_X5_ticks_49 i (t ((f_X5_at i (1 : Int32)).toNatClampNeg)) (t ((f_X5_at i (0 : Int32)).toNatClampNeg)) (f_X5_feels m t i).2 ((f_X5_feels m t i).2 ((f_X5_at i (0 : Int32)).toNatClampNeg))) (f_X5_feels m t i).2) ((g_X5_ticks_73 i (g_X5_ticks_49 i (t ((f_X5_at i (1 : Int32)).toNatClampNeg)) (t ((f_X5_at i (0 : Int32)).toNatClampNeg)) (f_X5_feels m t i).2 ((f_X5_feels m t i).2 ((f_X5_at i (0 : Int32)).toNatClampNeg))) (f_X5_feels m t i).2) ((f_X5_at i (1 : Int32)).toNatClampNeg)) ((g_X5_ticks_73 i (g_X5_ticks_49 i (t ((f_X5_at i (1 : Int32)).toNatClampNeg)) (t ((f_X5_at i (0 : Int32)).toNatClampNeg)) (f_X5_feels m t i).2 ((f_X5_feels m t i).2 ((f_X5_at i (0 : Int32)).toNatClampNeg))) (f_X5_feels m t i).2) ((f_X5_at i (0 : Int32)).toNatClampNeg))).2 ((f_X5_at i (2 : Int32)).toNatClampNeg) ((if ((if ((g_X5_ticks_98 i (g_X5_ticks_49 i (t ((f_X5_at i (1 : Int32)).toNatClampNeg)) (t ((f_X5_at i (0 : Int32)).toNatClampNeg)) (f_X5_feels m t i).2 ((f_X5_feels m t i).2 ((f_X5_at i (0 : Int32)).toNatClampNeg))) ((if (t ((f_X5_at i (2 : Int32)).toNatClampNeg)) = (1 : Int32) then (1 : Int32) else (0 : Int32))) (f_X5_feels m t i).1 (g_X5_ticks_73 i (g_X5_ticks_49 i (t ((f_X5_at i (1 : Int32)).toNatClampNeg)) (t ((f_X5_at i (0 : Int32)).toNatClampNeg)) (f_X5_feels m t i).2 ((f_X5_feels m t i).2 ((f_X5_at i (0 : Int32)).toNatClampNeg))) (f_X5_feels m t i).2) ((g_X5_ticks_73 i (g_X5_ticks_49 i (t ((f_X5_at i (1 : Int32)).toNatClampNeg)) (t ((f_X5_at i (0 : Int32)).toNatClampNeg)) (f_X5_feels m t i).2 ((f_X5_feels m t i).2 ((f_X5_at i (0 : Int32)).toNatClampNeg))) (f_X5_feels m t i).2) ((f_X5_at i (1 : Int32)).toNatClampNeg)) ((g_X5_ticks_73 i (g_X5_ticks_49 i (t ((f_X5_at i (1 : Int32)).toNatClampNeg)) (t ((f_X5_at i (0 : Int32)).toNatClampNeg)) (f_X5_feels m t i).2 ((f_X5_feels m t i).2 ((f_X5_at i (0 : Int32)).toNatClampNeg))) (f_X5_feels m t i).2) ((f_X5_at i (0 : Int32)).toNatClampNeg))).2 ((f_X5_at i (0 : Int32)).toNatClampNeg)) = ((g_X5_ticks_98 i (g_X5_ticks_49 i (t ((f_X5_at i (1 : Int32)).toNatClampNeg)) (t ((f_X5_at i (0 : Int32)).toNatClampNeg)) (f_X5_feels m t i).2 ((f_X5_feels m t i).2 ((f_X5_at i (0 : Int32)).toNatClampNeg))) ((if (t ((f_X5_at i (2 : Int32)).toNatClampNeg)) = (1 : Int32) then (1 : Int32) else (0 : Int32))) (f_X5_feels m t i).1 (g_X5_ticks_73 i (g_X5_ticks_49 i (t ((f_X5_at i (1 : Int32)).toNatClampNeg)) (t ((f_X5_at i (0 : Int32)).toNatClampNeg)) (f_X5_feels m t i).2 ((f_X5_feels m t i).2 ((f_X5_at i (0 : Int32)).toNatClampNeg))) (f_X5_feels m t i).2) ((g_X5_ticks_73 i (g_X5_ticks_49 i (t ((f_X5_at i (1 : Int32)).toNatClampNeg)) (t ((f_X5_at i (0 : Int32)).toNatClampNeg)) (f_X5_feels m t i).2 ((f_X5_feels m t i).2 ((f_X5_at i (0 : Int32)).toNatClampNeg))) (f_X5_feels m t i).2) ((f_X5_at i (1 : Int32)).toNatClampNeg)) ((g_X5_ticks_73 i (g_X5_ticks_49 i (t ((f_X5_at i (1 : Int32)).toNatClampNeg)) (t ((f_X5_at i (0 : Int32)).toNatClampNeg)) (f_X5_feels m t i).2 ((f_X5_feels m t i).2 ((f_X5_at i (0 : Int32)).toNatClampNeg))) (f_X5_feels m t i).2) ((f_X5_at i (0 : Int32)).toNatClampNeg))).2 ((f_X5_at i (1 : Int32)).toNatClampNeg)) then (1 : Int32) else (0 : Int32))) = 0 then (0 : Int32) else (1 : Int32)))) ((f_X5_at i (5 : Int32)).toNatClampNeg) (g_X5_ticks_216 i ((if ((g_X5_ticks_98 i (g_X5_ticks_49 i (t ((f_X5_at i (1 : Int32)).toNatClampNeg)) (t ((f_X5_at i (0 : Int32)).toNatClampNeg)) (f_X5_feels m t i).2 ((f_X5_feels m t i).2 ((f_X5_at i (0 : Int32)).toNatClampNeg))) ((if (t ((f_X5_at i (2 : Int32)).toNatClampNeg)) = (1 : Int32) then (1 : Int32) else (0 : Int32))) (f_X5_feels m t i).1 (g_X5_ticks_73 i (g_X5_ticks_49 i (t ((f_X5_at i (1 : Int32)).toNatClampNeg)) (t ((f_X5_at i (0 : Int32)).toNatClampNeg)) (f_X5_feels m t i).2 ((f_X5_feels m t i).2 ((f_X5_at i (0 : Int32)).toNatClampNeg))) (f_X5_feels m t i).2) ((g_X5_ticks_73 i (g_X5_ticks_49 i (t ((f_X5_at i (1 : Int32)).toNatClampNeg)) (t ((f_X5_at i (0 : Int32)).toNatClampNeg)) (f_X5_feels m t i).2 ((f_X5_feels m t i).2 ((f_X5_at i (0 : Int32)).toNatClampNeg))) (f_X5_feels m t i).2) ((f_X5_at i (1 : Int32)).toNatClampNeg)) ((g_X5_ticks_73 i (g_X5_ticks_49 i (t ((f_X5_at i (1 : Int32)).toNatClampNeg)) (t ((f_X5_at i (0 : Int32)).toNatClampNeg)) (f_X5_feels m t i).2 ((f_X5_feels m t i).2 ((f_X5_at i (0 : Int32)).toNatClampNeg))) (f_X5_feels m t i).2) ((f_X5_at i (0 : Int32)).toNatClampNeg))).2 ((f_X5_at i (0 : Int32)).toNatClampNeg)) = ((g_X5_ticks_98 i (g_X5_ticks_49 i (t ((f_X5_at i (1 : Int32)).toNatClampNeg)) (t ((f_X5_at i (0 : Int32)).toNatClampNeg)) (f_X5_feels m t i).2 ((f_X5_feels m t i).2 ((f_X5_at i (0 : Int32)).toNatClampNeg))) ((if (t ((f_X5_at i (2 : Int32)).toNatClampNeg)) = (1 : Int32) then (1 : Int32) else (0 : Int32))) (f_X5_feels m t i).1 (g_X5_ticks_73 i (g_X5_ticks_49 i (t ((f_X5_at i (1 : Int32)).toNatClampNeg)) (t ((f_X5_at i (0 : Int32)).toNatClampNeg)) (f_X5_feels m t i).2 ((f_X5_feels m t i).2 ((f_X5_at i (0 : Int32)).toNatClampNeg))) (f_X5_feels m t i).2) ((g_X5_ticks_73 i (g_X5_ticks_49 i (t ((f_X5_at i (1 : Int32)).toNatClampNeg)) (t ((f_X5_at i (0 : Int32)).toNatClampNeg)) (f_X5_feels m t i).2 ((f_X5_feels m t i).2 ((f_X5_at i (0 : Int32)).toNatClampNeg))) (f_X5_feels m t i).2) ((f_X5_at i (1 : Int32)).toNatClampNeg)) ((g_X5_ticks_73 i (g_X5_ticks_49 i (t ((f_X5_at i (1 : Int32)).toNatClampNeg)) (t ((f_X5_at i (0 : Int32)).toNatClampNeg)) (f_X5_feels m t i).2 ((f_X5_feels m t i).2 ((f_X5_at i (0 : Int32)).toNatClampNeg))) (f_X5_feels m t i).2) ((f_X5_at i (0 : Int32)).toNatClampNeg))).2 ((f_X5_at i (1 : Int32)).toNatClampNeg)) then (1 : Int32) else (0 : Int32))) (upd (g_X5_ticks_98 i (g_X5_ticks_49 i (t ((f_X5_at i (1 : Int32)).toNatClampNeg)) (t ((f_X5_at i (0 : Int32)).toNatClampNeg)) (f_X5_feels m t i).2 ((f_X5_feels m t i).2 ((f_X5_at i (0 : Int32)).toNatClampNeg))) ((if (t ((f_X5_at i (2 : Int32)).toNatClampNeg)) = (1 : Int32) then (1 : Int32) else (0 : Int32))) (f_X5_feels m t i).1 (g_X5_ticks_73 i (g_X5_ticks_49 i (t ((f_X5_at i (1 : Int32)).toNatClampNeg)) (t ((f_X5_at i (0 : Int32)).toNatClampNeg)) (f_X5_feels m t i).2 ((f_X5_feels m t i).2 ((f_X5_at i (0 : Int32)).toNatClampNeg))) (f_X5_feels m t i).2) ((g_X5_ticks_73 i (g_X5_ticks_49 i (t ((f_X5_at i (1 : Int32)).toNatClampNeg)) (t ((f_X5_at i (0 : Int32)).toNatClampNeg)) (f_X5_feels m t i).2 ((f_X5_feels m t i).2 ((f_X5_at i (0 : Int32)).toNatClampNeg))) (f_X5_feels m t i).2) ((f_X5_at i (1 : Int32)).toNatClampNeg)) ((g_X5_ticks_73 i (g_X5_ticks_49 i (t ((f_X5_at i (1 : Int32)).toNatClampNeg)) (t ((f_X5_at i (0 : Int32)).toNatClampNeg)) (f_X5_feels m t i).2 ((f_X5_feels m t i).2 ((f_X5_at i (0 : Int32)).toNatClampNeg))) (f_X5_feels m t i).2) ((f_X5_at i (0 : Int32)).toNatClampNeg))).2 ((f_X5_at i (2 : Int32)).toNatClampNeg) ((if ((if ((g_X5_ticks_98 i (g_X5_ticks_49 i (t ((f_X5_at i (1 : Int32)).toNatClampNeg)) (t ((f_X5_at i (0 : Int32)).toNatClampNeg)) (f_X5_feels m t i).2 ((f_X5_feels m t i).2 ((f_X5_at i (0 : Int32)).toNatClampNeg))) ((if (t ((f_X5_at i (2 : Int32)).toNatClampNeg)) = (1 : Int32) then (1 : Int32) else (0 : Int32))) (f_X5_feels m t i).1 (g_X5_ticks_73 i (g_X5_ticks_49 i (t ((f_X5_at i (1 : Int32)).toNatClampNeg)) (t ((f_X5_at i (0 : Int32)).toNatClampNeg)) (f_X5_feels m t i).2 ((f_X5_feels m t i).2 ((f_X5_at i (0 : Int32)).toNatClampNeg))) (f_X5_feels m t i).2) ((g_X5_ticks_73 i (g_X5_ticks_49 i (t ((f_X5_at i (1 : Int32)).toNatClampNeg)) (t ((f_X5_at i (0 : Int32)).toNatClampNeg)) (f_X5_feels m t i).2 ((f_X5_feels m t i).2 ((f_X5_at i (0 : Int32)).toNatClampNeg))) (f_X5_feels m t i).2) ((f_X5_at i (1 : Int32)).toNatClampNeg)) ((g_X5_ticks_73 i (g_X5_ticks_49 i (t ((f_X5_at i (1 : Int32)).toNatClampNeg)) (t ((f_X5_at i (0 : Int32)).toNatClampNeg)) (f_X5_feels m t i).2 ((f_X5_feels m t i).2 ((f_X5_at i (0 : Int32)).toNatClampNeg))) (f_X5_feels m t i).2) ((f_X5_at i (0 : Int32)).toNatClampNeg))).2 ((f_X5_at i (0 : Int32)).toNatClampNeg)) = ((g_X5_ticks_98 i (g_X5_ticks_49 i (t ((f_X5_at i (1 : Int32)).toNatClampNeg)) (t ((f_X5_at i (0 : Int32)).toNatClampNeg)) (f_X5_feels m t i).2 ((f_X5_feels m t i).2 ((f_X5_at i (0 : Int32)).toNatClampNeg))) ((if (t ((f_X5_at i (2 : Int32)).toNatClampNeg)) = (1 : Int32) then (1 : Int32) else (0 : Int32))) (f_X5_feels m t i).1 (g_X5_ticks_73 i (g_X5_ticks_49 i (t ((f_X5_at i (1 : Int32)).toNatClampNeg)) (t ((f_X5_at i (0 : Int32)).toNatClampNeg)) (f_X5_feels m t i).2 ((f_X5_feels m t i).2 ((f_X5_at i (0 : Int32)).toNatClampNeg))) (f_X5_feels m t i).2) ((g_X5_ticks_73 i (g_X5_ticks_49 i (t ((f_X5_at i (1 : Int32)).toNatClampNeg)) (t ((f_X5_at i (0 : Int32)).toNatClampNeg)) (f_X5_feels m t i).2 ((f_X5_feels m t i).2 ((f_X5_at i (0 : Int32)).toNatClampNeg))) (f_X5_feels m t i).2) ((f_X5_at i (1 : Int32)).toNatClampNeg)) ((g_X5_ticks_73 i (g_X5_ticks_49 i (t ((f_X5_at i (1 : Int32)).toNatClampNeg)) (t ((f_X5_at i (0 : Int32)).toNatClampNeg)) (f_X5_feels m t i).2 ((f_X5_feels m t i).2 ((f_X5_at i (0 : Int32)).toNatClampNeg))) (f_X5_feels m t i).2) ((f_X5_at i (0 : Int32)).toNatClampNeg))).2 ((f_X5_at i (1 : Int32)).toNatClampNeg)) then (1 : Int32) else (0 : Int32))) = 0 then (0 : Int32) else (1 : Int32)))))))
def p_X5_ticks (m t : Nat → Int32) (i : Int32) : Prop := (vp_in (f_X5_at i (0 : Int32)) 103 ∧ (vp_in (f_X5_at i (1 : Int32)) 103 ∧ (vp_in (f_X5_at i (2 : Int32)) 103 ∧ (p_X5_feels m t i ∧ (vp_in (f_X5_at i (0 : Int32)) 103 ∧ ((h_X5_ticks_49 i (t ((f_X5_at i (1 : Int32)).toNatClampNeg)) (t ((f_X5_at i (0 : Int32)).toNatClampNeg)) (f_X5_feels m t i).2 ((f_X5_feels m t i).2 ((f_X5_at i (0 : Int32)).toNatClampNeg))) ∧ ((h_X5_ticks_73 i (g_X5_ticks_49 i (t ((f_X5_at i (1 : Int32)).toNatClampNeg)) (t ((f_X5_at i (0 : Int32)).toNatClampNeg)) (f_X5_feels m t i).2 ((f_X5_feels m t i).2 ((f_X5_at i (0 : Int32)).toNatClampNeg))) (f_X5_feels m t i).2) ∧ (vp_in (f_X5_at i (0 : Int32)) 103 ∧ (vp_in (f_X5_at i (1 : Int32)) 103 ∧ ((h_X5_ticks_98 i (g_X5_ticks_49 i (t ((f_X5_at i (1 : Int32)).toNatClampNeg)) (t ((f_X5_at i (0 : Int32)).toNatClampNeg)) (f_X5_feels m t i).2 ((f_X5_feels m t i).2 ((f_X5_at i (0 : Int32)).toNatClampNeg))) ((if (t ((f_X5_at i (2 : Int32)).toNatClampNeg)) = (1 : Int32) then (1 : Int32) else (0 : Int32))) (f_X5_feels m t i).1 (g_X5_ticks_73 i (g_X5_ticks_49 i (t ((f_X5_at i (1 : Int32)).toNatClampNeg)) (t ((f_X5_at i (0 : Int32)).toNatClampNeg)) (f_X5_feels m t i).2 ((f_X5_feels m t i).2 ((f_X5_at i (0 : Int32)).toNatClampNeg))) (f_X5_feels m t i).2) ((g_X5_ticks_73 i (g_X5_ticks_49 i (t ((f_X5_at i (1 : Int32)).toNatClampNeg)) (t ((f_X5_at i (0 : Int32)).toNatClampNeg)) (f_X5_feels m t i).2 ((f_X5_feels m t i).2 ((f_X5_at i (0 : Int32)).toNatClampNeg))) (f_X5_feels m t i).2) ((f_X5_at i (1 : Int32)).toNatClampNeg)) ((g_X5_ticks_73 i (g_X5_ticks_49 i (t ((f_X5_at i (1 : Int32)).toNatClampNeg)) (t ((f_X5_at i (0 : Int32)).toNatClampNeg)) (f_X5_feels m t i).2 ((f_X5_feels m t i).2 ((f_X5_at i (0 : Int32)).toNatClampNeg))) (f_X5_feels m t i).2) ((f_X5_at i (0 : Int32)).toNatClampNeg))) ∧ (vp_in (f_X5_at i (0 : Int32)) 103 ∧ (vp_in (f_X5_at i (1 : Int32)) 103 ∧ (vp_in (f_X5_at i (2 : Int32)) 103 ∧ ((h_X5_ticks_216 i ((if ((g_X5_ticks_98 i (g_X5_ticks_49 i (t ((f_X5_at i (1 : Int32)).toNatClampNeg)) (t ((f_X5_at i (0 : Int32)).toNatClampNeg)) (f_X5_feels m t i).2 ((f_X5_feels m t i).2 ((f_X5_at i (0 : Int32)).toNatClampNeg))) ((if (t ((f_X5_at i (2 : Int32)).toNatClampNeg)) = (1 : Int32) then (1 : Int32) else (0 : Int32))) (f_X5_feels m t i).1 (g_X5_ticks_73 i (g_X5_ticks_49 i (t ((f_X5_at i (1 : Int32)).toNatClampNeg)) (t ((f_X5_at i (0 : Int32)).toNatClampNeg)) (f_X5_feels m t i).2 ((f_X5_feels m t i).2 ((f_X5_at i (0 : Int32)).toNatClampNeg))) (f_X5_feels m t i).2) ((g_X5_ticks_73 i (g_X5_ticks_49 i (t ((f_X5_at i (1 : Int32)).toNatClampNeg)) (t ((f_X5_at i (0 : Int32)).toNatClampNeg)) (f_X5_feels m t i).2 ((f_X5_feels m t i).2 ((f_X5_at i (0 : Int32)).toNatClampNeg))) (f_X5_feels m t i).2) ((f_X5_at i (1 : Int32)).toNatClampNeg)) ((g_X5_ticks_73 i (g_X5_ticks_49 i (t ((f_X5_at i (1 : Int32)).toNatClampNeg)) (t ((f_X5_at i (0 : Int32)).toNatClampNeg)) (f_X5_feels m t i).2 ((f_X5_feels m t i).2 ((f_X5_at i (0 : Int32)).toNatClampNeg))) (f_X5_feels m t i).2) ((f_X5_at i (0 : Int32)).toNatClampNeg))).2 ((f_X5_at i (0 : Int32)).toNatClampNeg)) = ((g_X5_ticks_98 i (g_X5_ticks_49 i (t ((f_X5_at i (1 : Int32)).toNatClampNeg)) (t ((f_X5_at i (0 : Int32)).toNatClampNeg)) (f_X5_feels m t i).2 ((f_X5_feels m t i).2 ((f_X5_at i (0 : Int32)).toNatClampNeg))) ((if (t ((f_X5_at i (2 : Int32)).toNatClampNeg)) = (1 : Int32) then (1 : Int32) else (0 : Int32))) (f_X5_feels m t i).1 (g_X5_ticks_73 i (g_X5_ticks_49 i (t ((f_X5_at i (1 : Int32)).toNatClampNeg)) (t ((f_X5_at i (0 : Int32)).toNatClampNeg)) (f_X5_feels m t i).2 ((f_X5_feels m t i).2 ((f_X5_at i (0 : Int32)).toNatClampNeg))) (f_X5_feels m t i).2) ((g_X5_ticks_73 i (g_X5_ticks_49 i (t ((f_X5_at i (1 : Int32)).toNatClampNeg)) (t ((f_X5_at i (0 : Int32)).toNatClampNeg)) (f_X5_feels m t i).2 ((f_X5_feels m t i).2 ((f_X5_at i (0 : Int32)).toNatClampNeg))) (f_X5_feels m t i).2) ((f_X5_at i (1 : Int32)).toNatClampNeg)) ((g_X5_ticks_73 i (g_X5_ticks_49 i (t ((f_X5_at i (1 : Int32)).toNatClampNeg)) (t ((f_X5_at i (0 : Int32)).toNatClampNeg)) (f_X5_feels m t i).2 ((f_X5_feels m t i).2 ((f_X5_at i (0 : Int32)).toNatClampNeg))) (f_X5_feels m t i).2) ((f_X5_at i (0 : Int32)).toNatClampNeg))).2 ((f_X5_at i (1 : Int32)).toNatClampNeg)) then (1 : Int32) else (0 : Int32))) (upd (g_X5_ticks_98 i (g_X5_ticks_49 i (t ((f_X5_at i (1 : Int32)).toNatClampNeg)) (t ((f_X5_at i (0 : Int32)).toNatClampNeg)) (f_X5_feels m t i).2 ((f_X5_feels m t i).2 ((f_X5_at i (0 : Int32)).toNatClampNeg))) ((if (t ((f_X5_at i (2 : Int32)).toNatClampNeg)) = (1 : Int32) then (1 : Int32) else (0 : Int32))) (f_X5_feels m t i).1 (g_X5_ticks_73 i (g_X5_ticks_49 i (t ((f_X5_at i (1 : Int32)).toNatClampNeg)) (t ((f_X5_at i (0 : Int32)).toNatClampNeg)) (f_X5_feels m t i).2 ((f_X5_feels m t i).2 ((f_X5_at i (0 : Int32)).toNatClampNeg))) (f_X5_feels m t i).2) ((g_X5_ticks_73 i (g_X5_ticks_49 i (t ((f_X5_at i (1 : Int32)).toNatClampNeg)) (t ((f_X5_at i (0 : Int32)).toNatClampNeg)) (f_X5_feels m t i).2 ((f_X5_feels m t i).2 ((f_X5_at i (0 : Int32)).toNatClampNeg))) (f_X5_feels m t i).2) ((f_X5_at i (1 : Int32)).toNatClampNeg)) ((g_X5_ticks_73 i (g_X5_ticks_49 i (t ((f_X5_at i (1 : Int32)).toNatClampNeg)) (t ((f_X5_at i (0 : Int32)).toNatClampNeg)) (f_X5_feels m t i).2 ((f_X5_feels m t i).2 ((f_X5_at i (0 : Int32)).toNatClampNeg))) (f_X5_feels m t i).2) ((f_X5_at i (0 : Int32)).toNatClampNeg))).2 ((f_X5_at i (2 : Int32)).toNatClampNeg) ((if ((if ((g_X5_ticks_98 i (g_X5_ticks_49 i (t ((f_X5_at i (1 : Int32)).toNatClampNeg)) (t ((f_X5_at i (0 : Int32)).toNatClampNeg)) (f_X5_feels m t i).2 ((f_X5_feels m t i).2 ((f_X5_at i (0 : Int32)).toNatClampNeg))) ((if (t ((f_X5_at i (2 : Int32)).toNatClampNeg)) = (1 : Int32) then (1 : Int32) else (0 : Int32))) (f_X5_feels m t i).1 (g_X5_ticks_73 i (g_X5_ticks_49 i (t ((f_X5_at i (1 : Int32)).toNatClampNeg)) (t ((f_X5_at i (0 : Int32)).toNatClampNeg)) (f_X5_feels m t i).2 ((f_X5_feels m t i).2 ((f_X5_at i (0 : Int32)).toNatClampNeg))) (f_X5_feels m t i).2) ((g_X5_ticks_73 i (g_X5_ticks_49 i (t ((f_X5_at i (1 : Int32)).toNatClampNeg)) (t ((f_X5_at i (0 : Int32)).toNatClampNeg)) (f_X5_feels m t i).2 ((f_X5_feels m t i).2 ((f_X5_at i (0 : Int32)).toNatClampNeg))) (f_X5_feels m t i).2) ((f_X5_at i (1 : Int32)).toNatClampNeg)) ((g_X5_ticks_73 i (g_X5_ticks_49 i (t ((f_X5_at i (1 : Int32)).toNatClampNeg)) (t ((f_X5_at i (0 : Int32)).toNatClampNeg)) (f_X5_feels m t i).2 ((f_X5_feels m t i).2 ((f_X5_at i (0 : Int32)).toNatClampNeg))) (f_X5_feels m t i).2) ((f_X5_at i (0 : Int32)).toNatClampNeg))).2 ((f_X5_at i (0 : Int32)).toNatClampNeg)) = ((g_X5_ticks_98 i (g_X5_ticks_49 i (t ((f_X5_at i (1 : Int32)).toNatClampNeg)) (t ((f_X5_at i (0 : Int32)).toNatClampNeg)) (f_X5_feels m t i).2 ((f_X5_feels m t i).2 ((f_X5_at i (0 : Int32)).toNatClampNeg))) ((if (t ((f_X5_at i (2 : Int32)).toNatClampNeg)) = (1 : Int32) then (1 : Int32) else (0 : Int32))) (f_X5_feels m t i).1 (g_X5_ticks_73 i (g_X5_ticks_49 i (t ((f_X5_at i (1 : Int32)).toNatClampNeg)) (t ((f_X5_at i (0 : Int32)).toNatClampNeg)) (f_X5_feels m t i).2 ((f_X5_feels m t i).2 ((f_X5_at i (0 : Int32)).toNatClampNeg))) (f_X5_feels m t i).2) ((g_X5_ticks_73 i (g_X5_ticks_49 i (t ((f_X5_at i (1 : Int32)).toNatClampNeg)) (t ((f_X5_at i (0 : Int32)).toNatClampNeg)) (f_X5_feels m t i).2 ((f_X5_feels m t i).2 ((f_X5_at i (0 : Int32)).toNatClampNeg))) (f_X5_feels m t i).2) ((f_X5_at i (1 : Int32)).toNatClampNeg)) ((g_X5_ticks_73 i (g_X5_ticks_49 i (t ((f_X5_at i (1 : Int32)).toNatClampNeg)) (t ((f_X5_at i (0 : Int32)).toNatClampNeg)) (f_X5_feels m t i).2 ((f_X5_feels m t i).2 ((f_X5_at i (0 : Int32)).toNatClampNeg))) (f_X5_feels m t i).2) ((f_X5_at i (0 : Int32)).toNatClampNeg))).2 ((f_X5_at i (1 : Int32)).toNatClampNeg)) then (1 : Int32) else (0 : Int32))) = 0 then (0 : Int32) else (1 : Int32))))) ∧ (vp_in (f_X5_at i (5 : Int32)) 103 ∧ True)))))))))))))))
set_option maxRecDepth 100000 in
set_option maxHeartbeats 4000000 in
theorem C_X5_ticks (G : xG) (h : xH) (o ta nw rd sd pa xt : Nat) (m t : Nat → Int32) (i : Int32) (k_o : hAt h o = some (moC nw rd sd pa xt m)) (k_ta : hAt h ta = some (arI 103 t)) (hp : p_X5_ticks m t i) : Cd G 5 yX5_ticks cX5_ticks 8 none [.ref o, .ref ta, .int i] h none (hSet (hSet h o (moC nw rd sd pa xt (f_X5_ticks m t i).1)) ta (arI 103 (f_X5_ticks m t i).2)) := by
  have n_o_ta : o ≠ ta := hne_k k_o k_ta rfl
  refine Ct.of (by decide) (by rfl) ?_
  refine Wp.eqs (L' := [(0, .ref o), (1, .ref ta), (2, .int i)]) (st' := []) rfl rfl ?_
  refine Wp.eqh (h' := (hSet (hSet h o (moC nw rd sd pa xt m)) ta (arI 103 t))) (by rw [hSet_self k_o, hSet_self k_ta]) ?_
  obtain ⟨R, er⟩ : ∃ R, f_X5_ticks m t i = R := ⟨_, rfl⟩
  rw [er]
  unfold f_X5_ticks at er
  unfold p_X5_ticks at hp
  refine x_aload_n (pc := 0) dX5_ticks_0 rfl ?_
  refine x_iload_n (pc := 1) dX5_ticks_1 rfl ?_
  refine x_iconst (pc := 2) (v := (0 : Int32)) dX5_ticks_2 (by decide) ?_
  refine x_cS2i (pc := 3) dX5_ticks_3 xl_X5_36 xs_X5_at (C_X5_at G _ i (0 : Int32)) rfl rfl rfl ?_
  obtain ⟨F1, eF1⟩ : ∃ F, f_X5_at i (0 : Int32) = F := ⟨_, rfl⟩
  rw [eF1]
  try rw [eF1] at er
  try rw [eF1] at hp
  obtain ⟨q6, hp⟩ := hp
  refine x_iald (pc := 6) dX5_ticks_6 hAt_same q6 (j := (F1.toNatClampNeg)) rfl ?_
  refine x_istore_n (pc := 7) (L' := [(3, .int (t (F1.toNatClampNeg))), (0, .ref o), (1, .ref ta), (2, .int i)]) dX5_ticks_7 rfl rfl ?_
  refine x_aload_n (pc := 8) dX5_ticks_8 rfl ?_
  refine x_iload_n (pc := 9) dX5_ticks_9 rfl ?_
  refine x_iconst (pc := 10) (v := (1 : Int32)) dX5_ticks_10 (by decide) ?_
  refine x_cS2i (pc := 11) dX5_ticks_11 xl_X5_36 xs_X5_at (C_X5_at G _ i (1 : Int32)) rfl rfl rfl ?_
  obtain ⟨F2, eF2⟩ : ∃ F, f_X5_at i (1 : Int32) = F := ⟨_, rfl⟩
  rw [eF2]
  try rw [eF2] at er
  try rw [eF2] at hp
  obtain ⟨q14, hp⟩ := hp
  refine x_iald (pc := 14) dX5_ticks_14 hAt_same q14 (j := (F2.toNatClampNeg)) rfl ?_
  refine x_istore (pc := 15) (L' := [(4, .int (t (F2.toNatClampNeg))), (3, .int (t (F1.toNatClampNeg))), (0, .ref o), (1, .ref ta), (2, .int i)]) dX5_ticks_15 rfl rfl ?_
  refine x_aload_n (pc := 17) dX5_ticks_17 rfl ?_
  refine x_iload_n (pc := 18) dX5_ticks_18 rfl ?_
  refine x_iconst (pc := 19) (v := (2 : Int32)) dX5_ticks_19 (by decide) ?_
  refine x_cS2i (pc := 20) dX5_ticks_20 xl_X5_36 xs_X5_at (C_X5_at G _ i (2 : Int32)) rfl rfl rfl ?_
  obtain ⟨F3, eF3⟩ : ∃ F, f_X5_at i (2 : Int32) = F := ⟨_, rfl⟩
  rw [eF3]
  try rw [eF3] at er
  try rw [eF3] at hp
  obtain ⟨q23, hp⟩ := hp
  refine x_iald (pc := 23) dX5_ticks_23 hAt_same q23 (j := (F3.toNatClampNeg)) rfl ?_
  refine x_iconst (pc := 24) (v := (1 : Int32)) dX5_ticks_24 (by decide) ?_
  obtain ⟨F4, eF4⟩ : ∃ F, (if (t (F3.toNatClampNeg)) = (1 : Int32) then (1 : Int32) else (0 : Int32)) = F := ⟨_, rfl⟩
  try rw [eF4] at er
  try rw [eF4] at hp
  have bF4 : xB F4 := by rw [← eF4]; exact (xB_ite xB1 xB0)
  refine x_mrg (pc' := 33) (L' := [(4, .int (t (F2.toNatClampNeg))), (3, .int (t (F1.toNatClampNeg))), (0, .ref o), (1, .ref ta), (2, .int i)]) (st' := [.int F4]) (h' := (hSet (hSet h o (moC nw rd sd pa xt m)) ta (arI 103 t))) (fun J => ?_) ?_
  · refine x_icmp_ne (pc := 25) (tgt := 32) dX5_ticks_25 (by decide) (fun (c1 : ¬ ((t (F3.toNatClampNeg)) = (1 : Int32))) => ?_) (fun (c1 : (t (F3.toNatClampNeg)) = (1 : Int32)) => ?_)
    · refine x_iconst (pc := 32) (v := (0 : Int32)) dX5_ticks_32 (by decide) ?_
      rw [if_neg c1] at eF4
      subst eF4
      exact J
    · refine x_iconst (pc := 28) (v := (1 : Int32)) dX5_ticks_28 (by decide) ?_
      refine x_goto (pc := 29) (tgt := 33) dX5_ticks_29 (by decide) ?_
      rw [if_pos c1] at eF4
      subst eF4
      exact J
  refine x_istore (pc := 33) (L' := [(5, .int F4), (4, .int (t (F2.toNatClampNeg))), (3, .int (t (F1.toNatClampNeg))), (0, .ref o), (1, .ref ta), (2, .int i)]) dX5_ticks_33 rfl rfl ?_
  refine x_aload_n (pc := 35) dX5_ticks_35 rfl ?_
  refine x_aload_n (pc := 36) dX5_ticks_36 rfl ?_
  refine x_iload_n (pc := 37) dX5_ticks_37 rfl ?_
  obtain ⟨q38, hp⟩ := hp
  refine x_cV2v (pc := 38) dX5_ticks_38 xl_X5_176 xv_X5_feels (hAt_n n_o_ta hAt_same) rfl (C_X5_feels G _ o ta nw rd sd pa xt m t i (hAt_n n_o_ta hAt_same) hAt_same q38) rfl rfl rfl ?_
  obtain ⟨F5, eF5⟩ : ∃ F, f_X5_feels m t i = F := ⟨_, rfl⟩
  rw [eF5]
  try rw [eF5] at er
  try rw [eF5] at hp
  refine Wp.eqh (h' := (hSet (hSet h o (moC nw rd sd pa xt F5.1)) ta (arI 103 F5.2))) ((congrArg (fun z => hSet z ta _) (hSet_sw1 n_o_ta)).trans (hSet_set)) ?_
  refine x_aload_n (pc := 41) dX5_ticks_41 rfl ?_
  refine x_iload_n (pc := 42) dX5_ticks_42 rfl ?_
  refine x_iconst (pc := 43) (v := (0 : Int32)) dX5_ticks_43 (by decide) ?_
  refine x_cS2i (pc := 44) dX5_ticks_44 xl_X5_36 xs_X5_at (C_X5_at G _ i (0 : Int32)) rfl rfl rfl ?_
  rw [eF1]
  obtain ⟨q47, hp⟩ := hp
  refine x_iald (pc := 47) dX5_ticks_47 hAt_same q47 (j := (F1.toNatClampNeg)) rfl ?_
  refine x_iload_n (pc := 48) dX5_ticks_48 rfl ?_
  obtain ⟨qr49, hp⟩ := hp
  obtain ⟨F7, eF7⟩ : ∃ F, g_X5_ticks_49 i (t (F2.toNatClampNeg)) (t (F1.toNatClampNeg)) F5.2 (F5.2 (F1.toNatClampNeg)) = F := ⟨_, rfl⟩
  try rw [eF7] at er
  try rw [eF7] at hp
  have bF7 : xB F7 := by rw [← eF7]; exact (Bg_X5_ticks_49 _ _ _ _ _)
  refine x_mrg (pc' := 69) (L' := [(5, .int F4), (4, .int (t (F2.toNatClampNeg))), (3, .int (t (F1.toNatClampNeg))), (0, .ref o), (1, .ref ta), (2, .int i)]) (st' := [.int F7]) (h' := (hSet (hSet h o (moC nw rd sd pa xt F5.1)) ta (arI 103 F5.2))) (fun J => ?_) ?_
  · unfold g_X5_ticks_49 at eF7
    unfold h_X5_ticks_49 at qr49
    try rw [eF1] at eF7
    try rw [eF1] at qr49
    try rw [eF2] at eF7
    try rw [eF2] at qr49
    try rw [eF3] at eF7
    try rw [eF3] at qr49
    try rw [eF4] at eF7
    try rw [eF4] at qr49
    try rw [eF5] at eF7
    try rw [eF5] at qr49
    refine x_icmp_ne (pc := 49) (tgt := 64) dX5_ticks_49 (by decide) (fun (c4 : ¬ ((F5.2 (F1.toNatClampNeg)) = (t (F1.toNatClampNeg)))) => ?_) (fun (c4 : (F5.2 (F1.toNatClampNeg)) = (t (F1.toNatClampNeg))) => ?_)
    · rw [if_neg c4] at eF7
      replace qr49 := qr49.2 c4
      refine x_iconst (pc := 64) (v := (1 : Int32)) dX5_ticks_64 (by decide) ?_
      refine x_goto (pc := 65) (tgt := 69) dX5_ticks_65 (by decide) ?_
      subst eF7
      exact J
    · rw [if_pos c4] at eF7
      replace qr49 := qr49.1 c4
      refine x_aload_n (pc := 52) dX5_ticks_52 rfl ?_
      refine x_iload_n (pc := 53) dX5_ticks_53 rfl ?_
      refine x_iconst (pc := 54) (v := (1 : Int32)) dX5_ticks_54 (by decide) ?_
      refine x_cS2i (pc := 55) dX5_ticks_55 xl_X5_36 xs_X5_at (C_X5_at G _ i (1 : Int32)) rfl rfl rfl ?_
      rw [eF2]
      obtain ⟨q58, qr49⟩ := qr49
      refine x_iald (pc := 58) dX5_ticks_58 hAt_same q58 (j := (F2.toNatClampNeg)) rfl ?_
      refine x_iload (pc := 59) dX5_ticks_59 rfl ?_
      refine x_icmp_eq (pc := 61) (tgt := 68) dX5_ticks_61 (by decide) (fun (c5 : (F5.2 (F2.toNatClampNeg)) = (t (F2.toNatClampNeg))) => ?_) (fun (c5 : ¬ ((F5.2 (F2.toNatClampNeg)) = (t (F2.toNatClampNeg)))) => ?_)
      · rw [if_pos c5] at eF7
        replace qr49 := qr49.1 c5
        refine x_iconst (pc := 68) (v := (0 : Int32)) dX5_ticks_68 (by decide) ?_
        subst eF7
        exact J
      · rw [if_neg c5] at eF7
        replace qr49 := qr49.2 c5
        refine x_iconst (pc := 64) (v := (1 : Int32)) dX5_ticks_64 (by decide) ?_
        refine x_goto (pc := 65) (tgt := 69) dX5_ticks_65 (by decide) ?_
        subst eF7
        exact J
  refine x_istore (pc := 69) (L' := [(6, .int F7), (5, .int F4), (4, .int (t (F2.toNatClampNeg))), (3, .int (t (F1.toNatClampNeg))), (0, .ref o), (1, .ref ta), (2, .int i)]) dX5_ticks_69 rfl rfl ?_
  refine x_iload (pc := 71) dX5_ticks_71 rfl ?_
  obtain ⟨qr73, hp⟩ := hp
  obtain ⟨F10, eF10⟩ : ∃ F, g_X5_ticks_73 i F7 F5.2 = F := ⟨_, rfl⟩
  try rw [eF10] at er
  try rw [eF10] at hp
  refine x_mrg (pc' := 84) (L' := [(6, .int F7), (5, .int F4), (4, .int (t (F2.toNatClampNeg))), (3, .int (t (F1.toNatClampNeg))), (0, .ref o), (1, .ref ta), (2, .int i)]) (st' := []) (h' := (hSet (hSet h o (moC nw rd sd pa xt F5.1)) ta (arI 103 F10))) (fun J => ?_) ?_
  · unfold g_X5_ticks_73 at eF10
    unfold h_X5_ticks_73 at qr73
    try rw [eF1] at eF10
    try rw [eF1] at qr73
    try rw [eF2] at eF10
    try rw [eF2] at qr73
    try rw [eF3] at eF10
    try rw [eF3] at qr73
    try rw [eF4] at eF10
    try rw [eF4] at qr73
    try rw [eF5] at eF10
    try rw [eF5] at qr73
    refine x_if_eq (pc := 73) (tgt := 84) dX5_ticks_73 (by decide) (fun (c7 : F7 = 0) => ?_) (fun (c7 : ¬ (F7 = 0)) => ?_)
    · rw [if_pos c7] at eF10
      replace qr73 := qr73.1 c7
      subst eF10
      exact J
    · rw [if_neg c7] at eF10
      replace qr73 := qr73.2 c7
      refine x_aload_n (pc := 76) dX5_ticks_76 rfl ?_
      refine x_iload_n (pc := 77) dX5_ticks_77 rfl ?_
      refine x_iconst (pc := 78) (v := (3 : Int32)) dX5_ticks_78 (by decide) ?_
      refine x_cS2i (pc := 79) dX5_ticks_79 xl_X5_36 xs_X5_at (C_X5_at G _ i (3 : Int32)) rfl rfl rfl ?_
      obtain ⟨F9, eF9⟩ : ∃ F, f_X5_at i (3 : Int32) = F := ⟨_, rfl⟩
      rw [eF9]
      try rw [eF9] at eF10
      try rw [eF9] at qr73
      refine x_iconst (pc := 82) (v := (0 : Int32)) dX5_ticks_82 (by decide) ?_
      obtain ⟨q83, qr73⟩ := qr73
      refine x_iast (pc := 83) (e' := arI 103 (upd F5.2 (F9.toNatClampNeg) (0 : Int32))) dX5_ticks_83 hAt_same q83 (j := (F9.toNatClampNeg)) rfl rfl ?_
      refine Wp.eqh (h' := (hSet (hSet h o (moC nw rd sd pa xt F5.1)) ta (arI 103 (upd F5.2 (F9.toNatClampNeg) (0 : Int32))))) (hSet_set) ?_
      subst eF10
      exact J
  refine x_aload_n (pc := 84) dX5_ticks_84 rfl ?_
  refine x_iload_n (pc := 85) dX5_ticks_85 rfl ?_
  refine x_iconst (pc := 86) (v := (0 : Int32)) dX5_ticks_86 (by decide) ?_
  refine x_cS2i (pc := 87) dX5_ticks_87 xl_X5_36 xs_X5_at (C_X5_at G _ i (0 : Int32)) rfl rfl rfl ?_
  rw [eF1]
  obtain ⟨q90, hp⟩ := hp
  refine x_iald (pc := 90) dX5_ticks_90 hAt_same q90 (j := (F1.toNatClampNeg)) rfl ?_
  refine x_aload_n (pc := 91) dX5_ticks_91 rfl ?_
  refine x_iload_n (pc := 92) dX5_ticks_92 rfl ?_
  refine x_iconst (pc := 93) (v := (1 : Int32)) dX5_ticks_93 (by decide) ?_
  refine x_cS2i (pc := 94) dX5_ticks_94 xl_X5_36 xs_X5_at (C_X5_at G _ i (1 : Int32)) rfl rfl rfl ?_
  rw [eF2]
  obtain ⟨q97, hp⟩ := hp
  refine x_iald (pc := 97) dX5_ticks_97 hAt_same q97 (j := (F2.toNatClampNeg)) rfl ?_
  obtain ⟨qr98, hp⟩ := hp
  obtain ⟨F21, eF21⟩ : ∃ F, g_X5_ticks_98 i F7 F4 F5.1 F10 (F10 (F2.toNatClampNeg)) (F10 (F1.toNatClampNeg)) = F := ⟨_, rfl⟩
  try rw [eF21] at er
  try rw [eF21] at hp
  refine x_mrg (pc' := 167) (L' := [(6, .int F7), (5, .int F4), (4, .int (t (F2.toNatClampNeg))), (3, .int (t (F1.toNatClampNeg))), (0, .ref o), (1, .ref ta), (2, .int i)]) (st' := []) (h' := (hSet (hSet h o (moC nw rd sd pa xt F21.1)) ta (arI 103 F21.2))) (fun J => ?_) ?_
  · unfold g_X5_ticks_98 at eF21
    unfold h_X5_ticks_98 at qr98
    try rw [eF1] at eF21
    try rw [eF1] at qr98
    try rw [eF2] at eF21
    try rw [eF2] at qr98
    try rw [eF3] at eF21
    try rw [eF3] at qr98
    try rw [eF4] at eF21
    try rw [eF4] at qr98
    try rw [eF5] at eF21
    try rw [eF5] at qr98
    refine x_icmp_ge (pc := 98) (tgt := 120) dX5_ticks_98 (by decide) (fun (c15 : (F10 (F2.toNatClampNeg)) ≤ (F10 (F1.toNatClampNeg))) => ?_) (fun (c15 : ¬ ((F10 (F2.toNatClampNeg)) ≤ (F10 (F1.toNatClampNeg)))) => ?_)
    · rw [if_pos c15] at eF21
      replace qr98 := qr98.1 c15
      refine x_iload (pc := 120) dX5_ticks_120 rfl ?_
      refine x_if_eq (pc := 122) (tgt := 167) dX5_ticks_122 (by decide) (fun (c16 : F4 = 0) => ?_) (fun (c16 : ¬ (F4 = 0)) => ?_)
      · rw [if_pos c16] at eF21
        replace qr98 := qr98.1 c16
        subst eF21
        exact J
      · rw [if_neg c16] at eF21
        replace qr98 := qr98.2 c16
        refine x_aload_n (pc := 125) dX5_ticks_125 rfl ?_
        refine x_iload_n (pc := 126) dX5_ticks_126 rfl ?_
        refine x_iconst (pc := 127) (v := (5 : Int32)) dX5_ticks_127 (by decide) ?_
        refine x_cS2i (pc := 128) dX5_ticks_128 xl_X5_36 xs_X5_at (C_X5_at G _ i (5 : Int32)) rfl rfl rfl ?_
        obtain ⟨F17, eF17⟩ : ∃ F, f_X5_at i (5 : Int32) = F := ⟨_, rfl⟩
        rw [eF17]
        try rw [eF17] at eF21
        try rw [eF17] at qr98
        refine x_dup2 (pc := 131) dX5_ticks_131 rfl rfl ?_
        obtain ⟨q132, qr98⟩ := qr98
        refine x_iald (pc := 132) dX5_ticks_132 hAt_same q132 (j := (F17.toNatClampNeg)) rfl ?_
        refine x_iconst (pc := 133) (v := (1 : Int32)) dX5_ticks_133 (by decide) ?_
        refine x_iadd (pc := 134) dX5_ticks_134 ?_
        obtain ⟨q135, qr98⟩ := qr98
        refine x_iast (pc := 135) (e' := arI 103 (upd F10 (F17.toNatClampNeg) ((F10 (F17.toNatClampNeg)) + (1 : Int32)))) dX5_ticks_135 hAt_same q135 (j := (F17.toNatClampNeg)) rfl rfl ?_
        refine Wp.eqh (h' := (hSet (hSet h o (moC nw rd sd pa xt F5.1)) ta (arI 103 (upd F10 (F17.toNatClampNeg) ((F10 (F17.toNatClampNeg)) + (1 : Int32)))))) (hSet_set) ?_
        refine x_aload_n (pc := 136) dX5_ticks_136 rfl ?_
        refine x_iload_n (pc := 137) dX5_ticks_137 rfl ?_
        refine x_iconst (pc := 138) (v := (5 : Int32)) dX5_ticks_138 (by decide) ?_
        refine x_cS2i (pc := 139) dX5_ticks_139 xl_X5_36 xs_X5_at (C_X5_at G _ i (5 : Int32)) rfl rfl rfl ?_
        rw [eF17]
        obtain ⟨q142, qr98⟩ := qr98
        refine x_iald (pc := 142) dX5_ticks_142 hAt_same q142 (j := (F17.toNatClampNeg)) rfl ?_
        refine x_aload_n (pc := 143) dX5_ticks_143 rfl ?_
        refine x_iconst (pc := 144) (v := (4 : Int32)) dX5_ticks_144 (by decide) ?_
        refine x_iald (pc := 145) dX5_ticks_145 hAt_same (vp_in_nI (n := 4) (by decide) (by decide)) (j := 4) (nI_clamp (n := 4) (by decide)) ?_
        refine x_icmp_ne (pc := 146) (tgt := 167) dX5_ticks_146 (by decide) (fun (c17 : ¬ (((upd F10 (F17.toNatClampNeg) ((F10 (F17.toNatClampNeg)) + (1 : Int32))) (F17.toNatClampNeg)) = ((upd F10 (F17.toNatClampNeg) ((F10 (F17.toNatClampNeg)) + (1 : Int32))) 4))) => ?_) (fun (c17 : ((upd F10 (F17.toNatClampNeg) ((F10 (F17.toNatClampNeg)) + (1 : Int32))) (F17.toNatClampNeg)) = ((upd F10 (F17.toNatClampNeg) ((F10 (F17.toNatClampNeg)) + (1 : Int32))) 4)) => ?_)
        · rw [if_neg c17] at eF21
          replace qr98 := qr98.2 c17
          subst eF21
          exact J
        · rw [if_pos c17] at eF21
          replace qr98 := qr98.1 c17
          refine x_aload_n (pc := 149) dX5_ticks_149 rfl ?_
          refine x_iload_n (pc := 150) dX5_ticks_150 rfl ?_
          refine x_iconst (pc := 151) (v := (5 : Int32)) dX5_ticks_151 (by decide) ?_
          refine x_cS2i (pc := 152) dX5_ticks_152 xl_X5_36 xs_X5_at (C_X5_at G _ i (5 : Int32)) rfl rfl rfl ?_
          rw [eF17]
          refine x_iconst (pc := 155) (v := (0 : Int32)) dX5_ticks_155 (by decide) ?_
          obtain ⟨q156, qr98⟩ := qr98
          refine x_iast (pc := 156) (e' := arI 103 (upd (upd F10 (F17.toNatClampNeg) ((F10 (F17.toNatClampNeg)) + (1 : Int32))) (F17.toNatClampNeg) (0 : Int32))) dX5_ticks_156 hAt_same q156 (j := (F17.toNatClampNeg)) rfl rfl ?_
          refine Wp.eqh (h' := (hSet (hSet h o (moC nw rd sd pa xt F5.1)) ta (arI 103 (upd (upd F10 (F17.toNatClampNeg) ((F10 (F17.toNatClampNeg)) + (1 : Int32))) (F17.toNatClampNeg) (0 : Int32))))) (hSet_set) ?_
          refine x_aload_n (pc := 157) dX5_ticks_157 rfl ?_
          refine x_iload_n (pc := 158) dX5_ticks_158 rfl ?_
          refine x_iconst (pc := 159) (v := (1 : Int32)) dX5_ticks_159 (by decide) ?_
          refine x_cS2i (pc := 160) dX5_ticks_160 xl_X5_36 xs_X5_at (C_X5_at G _ i (1 : Int32)) rfl rfl rfl ?_
          rw [eF2]
          refine x_aload_n (pc := 163) dX5_ticks_163 rfl ?_
          refine x_iconst (pc := 164) (v := (3 : Int32)) dX5_ticks_164 (by decide) ?_
          refine x_iald (pc := 165) dX5_ticks_165 hAt_same (vp_in_nI (n := 3) (by decide) (by decide)) (j := 3) (nI_clamp (n := 3) (by decide)) ?_
          obtain ⟨q166, qr98⟩ := qr98
          refine x_iast (pc := 166) (e' := arI 103 (upd (upd (upd F10 (F17.toNatClampNeg) ((F10 (F17.toNatClampNeg)) + (1 : Int32))) (F17.toNatClampNeg) (0 : Int32)) (F2.toNatClampNeg) ((upd (upd F10 (F17.toNatClampNeg) ((F10 (F17.toNatClampNeg)) + (1 : Int32))) (F17.toNatClampNeg) (0 : Int32)) 3))) dX5_ticks_166 hAt_same q166 (j := (F2.toNatClampNeg)) rfl rfl ?_
          refine Wp.eqh (h' := (hSet (hSet h o (moC nw rd sd pa xt F5.1)) ta (arI 103 (upd (upd (upd F10 (F17.toNatClampNeg) ((F10 (F17.toNatClampNeg)) + (1 : Int32))) (F17.toNatClampNeg) (0 : Int32)) (F2.toNatClampNeg) ((upd (upd F10 (F17.toNatClampNeg) ((F10 (F17.toNatClampNeg)) + (1 : Int32))) (F17.toNatClampNeg) (0 : Int32)) 3))))) (hSet_set) ?_
          subst eF21
          exact J
    · rw [if_neg c15] at eF21
      replace qr98 := qr98.2 c15
      refine x_iload (pc := 101) dX5_ticks_101 rfl ?_
      refine x_if_eq (pc := 103) (tgt := 111) dX5_ticks_103 (by decide) (fun (c18 : F4 = 0) => ?_) (fun (c18 : ¬ (F4 = 0)) => ?_)
      · rw [if_pos c18] at eF21
        replace qr98 := qr98.1 c18
        refine x_aload_n (pc := 111) dX5_ticks_111 rfl ?_
        refine x_aload_n (pc := 112) dX5_ticks_112 rfl ?_
        refine x_iload_n (pc := 113) dX5_ticks_113 rfl ?_
        obtain ⟨q114, qr98⟩ := qr98
        refine x_cV2v (pc := 114) dX5_ticks_114 xl_X5_180 xv_X5_probes (hAt_n n_o_ta hAt_same) rfl (C_X5_probes G _ o ta nw rd sd pa xt F5.1 F10 i (hAt_n n_o_ta hAt_same) hAt_same q114) rfl rfl rfl ?_
        obtain ⟨F18, eF18⟩ : ∃ F, f_X5_probes F5.1 F10 i = F := ⟨_, rfl⟩
        rw [eF18]
        try rw [eF18] at eF21
        try rw [eF18] at qr98
        refine Wp.eqh (h' := (hSet (hSet h o (moC nw rd sd pa xt F18.1)) ta (arI 103 F18.2))) ((congrArg (fun z => hSet z ta _) (hSet_sw1 n_o_ta)).trans (hSet_set)) ?_
        refine x_goto (pc := 117) (tgt := 167) dX5_ticks_117 (by decide) ?_
        subst eF21
        exact J
      · rw [if_neg c18] at eF21
        replace qr98 := qr98.2 c18
        refine x_iload (pc := 106) dX5_ticks_106 rfl ?_
        refine x_if_eq (pc := 108) (tgt := 120) dX5_ticks_108 (by decide) (fun (c19 : F7 = 0) => ?_) (fun (c19 : ¬ (F7 = 0)) => ?_)
        · rw [if_pos c19] at eF21
          replace qr98 := qr98.1 c19
          refine x_iload (pc := 120) dX5_ticks_120 rfl ?_
          refine x_if_eq (pc := 122) (tgt := 167) dX5_ticks_122 (by decide) (fun (c20 : F4 = 0) => ?_) (fun (c20 : ¬ (F4 = 0)) => ?_)
          · rw [if_pos c20] at eF21
            replace qr98 := qr98.1 c20
            subst eF21
            exact J
          · rw [if_neg c20] at eF21
            replace qr98 := qr98.2 c20
            refine x_aload_n (pc := 125) dX5_ticks_125 rfl ?_
            refine x_iload_n (pc := 126) dX5_ticks_126 rfl ?_
            refine x_iconst (pc := 127) (v := (5 : Int32)) dX5_ticks_127 (by decide) ?_
            refine x_cS2i (pc := 128) dX5_ticks_128 xl_X5_36 xs_X5_at (C_X5_at G _ i (5 : Int32)) rfl rfl rfl ?_
            obtain ⟨F19, eF19⟩ : ∃ F, f_X5_at i (5 : Int32) = F := ⟨_, rfl⟩
            rw [eF19]
            try rw [eF19] at eF21
            try rw [eF19] at qr98
            refine x_dup2 (pc := 131) dX5_ticks_131 rfl rfl ?_
            obtain ⟨q132, qr98⟩ := qr98
            refine x_iald (pc := 132) dX5_ticks_132 hAt_same q132 (j := (F19.toNatClampNeg)) rfl ?_
            refine x_iconst (pc := 133) (v := (1 : Int32)) dX5_ticks_133 (by decide) ?_
            refine x_iadd (pc := 134) dX5_ticks_134 ?_
            obtain ⟨q135, qr98⟩ := qr98
            refine x_iast (pc := 135) (e' := arI 103 (upd F10 (F19.toNatClampNeg) ((F10 (F19.toNatClampNeg)) + (1 : Int32)))) dX5_ticks_135 hAt_same q135 (j := (F19.toNatClampNeg)) rfl rfl ?_
            refine Wp.eqh (h' := (hSet (hSet h o (moC nw rd sd pa xt F5.1)) ta (arI 103 (upd F10 (F19.toNatClampNeg) ((F10 (F19.toNatClampNeg)) + (1 : Int32)))))) (hSet_set) ?_
            refine x_aload_n (pc := 136) dX5_ticks_136 rfl ?_
            refine x_iload_n (pc := 137) dX5_ticks_137 rfl ?_
            refine x_iconst (pc := 138) (v := (5 : Int32)) dX5_ticks_138 (by decide) ?_
            refine x_cS2i (pc := 139) dX5_ticks_139 xl_X5_36 xs_X5_at (C_X5_at G _ i (5 : Int32)) rfl rfl rfl ?_
            rw [eF19]
            obtain ⟨q142, qr98⟩ := qr98
            refine x_iald (pc := 142) dX5_ticks_142 hAt_same q142 (j := (F19.toNatClampNeg)) rfl ?_
            refine x_aload_n (pc := 143) dX5_ticks_143 rfl ?_
            refine x_iconst (pc := 144) (v := (4 : Int32)) dX5_ticks_144 (by decide) ?_
            refine x_iald (pc := 145) dX5_ticks_145 hAt_same (vp_in_nI (n := 4) (by decide) (by decide)) (j := 4) (nI_clamp (n := 4) (by decide)) ?_
            refine x_icmp_ne (pc := 146) (tgt := 167) dX5_ticks_146 (by decide) (fun (c21 : ¬ (((upd F10 (F19.toNatClampNeg) ((F10 (F19.toNatClampNeg)) + (1 : Int32))) (F19.toNatClampNeg)) = ((upd F10 (F19.toNatClampNeg) ((F10 (F19.toNatClampNeg)) + (1 : Int32))) 4))) => ?_) (fun (c21 : ((upd F10 (F19.toNatClampNeg) ((F10 (F19.toNatClampNeg)) + (1 : Int32))) (F19.toNatClampNeg)) = ((upd F10 (F19.toNatClampNeg) ((F10 (F19.toNatClampNeg)) + (1 : Int32))) 4)) => ?_)
            · rw [if_neg c21] at eF21
              replace qr98 := qr98.2 c21
              subst eF21
              exact J
            · rw [if_pos c21] at eF21
              replace qr98 := qr98.1 c21
              refine x_aload_n (pc := 149) dX5_ticks_149 rfl ?_
              refine x_iload_n (pc := 150) dX5_ticks_150 rfl ?_
              refine x_iconst (pc := 151) (v := (5 : Int32)) dX5_ticks_151 (by decide) ?_
              refine x_cS2i (pc := 152) dX5_ticks_152 xl_X5_36 xs_X5_at (C_X5_at G _ i (5 : Int32)) rfl rfl rfl ?_
              rw [eF19]
              refine x_iconst (pc := 155) (v := (0 : Int32)) dX5_ticks_155 (by decide) ?_
              obtain ⟨q156, qr98⟩ := qr98
              refine x_iast (pc := 156) (e' := arI 103 (upd (upd F10 (F19.toNatClampNeg) ((F10 (F19.toNatClampNeg)) + (1 : Int32))) (F19.toNatClampNeg) (0 : Int32))) dX5_ticks_156 hAt_same q156 (j := (F19.toNatClampNeg)) rfl rfl ?_
              refine Wp.eqh (h' := (hSet (hSet h o (moC nw rd sd pa xt F5.1)) ta (arI 103 (upd (upd F10 (F19.toNatClampNeg) ((F10 (F19.toNatClampNeg)) + (1 : Int32))) (F19.toNatClampNeg) (0 : Int32))))) (hSet_set) ?_
              refine x_aload_n (pc := 157) dX5_ticks_157 rfl ?_
              refine x_iload_n (pc := 158) dX5_ticks_158 rfl ?_
              refine x_iconst (pc := 159) (v := (1 : Int32)) dX5_ticks_159 (by decide) ?_
              refine x_cS2i (pc := 160) dX5_ticks_160 xl_X5_36 xs_X5_at (C_X5_at G _ i (1 : Int32)) rfl rfl rfl ?_
              rw [eF2]
              refine x_aload_n (pc := 163) dX5_ticks_163 rfl ?_
              refine x_iconst (pc := 164) (v := (3 : Int32)) dX5_ticks_164 (by decide) ?_
              refine x_iald (pc := 165) dX5_ticks_165 hAt_same (vp_in_nI (n := 3) (by decide) (by decide)) (j := 3) (nI_clamp (n := 3) (by decide)) ?_
              obtain ⟨q166, qr98⟩ := qr98
              refine x_iast (pc := 166) (e' := arI 103 (upd (upd (upd F10 (F19.toNatClampNeg) ((F10 (F19.toNatClampNeg)) + (1 : Int32))) (F19.toNatClampNeg) (0 : Int32)) (F2.toNatClampNeg) ((upd (upd F10 (F19.toNatClampNeg) ((F10 (F19.toNatClampNeg)) + (1 : Int32))) (F19.toNatClampNeg) (0 : Int32)) 3))) dX5_ticks_166 hAt_same q166 (j := (F2.toNatClampNeg)) rfl rfl ?_
              refine Wp.eqh (h' := (hSet (hSet h o (moC nw rd sd pa xt F5.1)) ta (arI 103 (upd (upd (upd F10 (F19.toNatClampNeg) ((F10 (F19.toNatClampNeg)) + (1 : Int32))) (F19.toNatClampNeg) (0 : Int32)) (F2.toNatClampNeg) ((upd (upd F10 (F19.toNatClampNeg) ((F10 (F19.toNatClampNeg)) + (1 : Int32))) (F19.toNatClampNeg) (0 : Int32)) 3))))) (hSet_set) ?_
              subst eF21
              exact J
        · rw [if_neg c19] at eF21
          replace qr98 := qr98.2 c19
          refine x_aload_n (pc := 111) dX5_ticks_111 rfl ?_
          refine x_aload_n (pc := 112) dX5_ticks_112 rfl ?_
          refine x_iload_n (pc := 113) dX5_ticks_113 rfl ?_
          obtain ⟨q114, qr98⟩ := qr98
          refine x_cV2v (pc := 114) dX5_ticks_114 xl_X5_180 xv_X5_probes (hAt_n n_o_ta hAt_same) rfl (C_X5_probes G _ o ta nw rd sd pa xt F5.1 F10 i (hAt_n n_o_ta hAt_same) hAt_same q114) rfl rfl rfl ?_
          obtain ⟨F20, eF20⟩ : ∃ F, f_X5_probes F5.1 F10 i = F := ⟨_, rfl⟩
          rw [eF20]
          try rw [eF20] at eF21
          try rw [eF20] at qr98
          refine Wp.eqh (h' := (hSet (hSet h o (moC nw rd sd pa xt F20.1)) ta (arI 103 F20.2))) ((congrArg (fun z => hSet z ta _) (hSet_sw1 n_o_ta)).trans (hSet_set)) ?_
          refine x_goto (pc := 117) (tgt := 167) dX5_ticks_117 (by decide) ?_
          subst eF21
          exact J
  refine x_aload_n (pc := 167) dX5_ticks_167 rfl ?_
  refine x_iload_n (pc := 168) dX5_ticks_168 rfl ?_
  refine x_iconst (pc := 169) (v := (0 : Int32)) dX5_ticks_169 (by decide) ?_
  refine x_cS2i (pc := 170) dX5_ticks_170 xl_X5_36 xs_X5_at (C_X5_at G _ i (0 : Int32)) rfl rfl rfl ?_
  rw [eF1]
  obtain ⟨q173, hp⟩ := hp
  refine x_iald (pc := 173) dX5_ticks_173 hAt_same q173 (j := (F1.toNatClampNeg)) rfl ?_
  refine x_aload_n (pc := 174) dX5_ticks_174 rfl ?_
  refine x_iload_n (pc := 175) dX5_ticks_175 rfl ?_
  refine x_iconst (pc := 176) (v := (1 : Int32)) dX5_ticks_176 (by decide) ?_
  refine x_cS2i (pc := 177) dX5_ticks_177 xl_X5_36 xs_X5_at (C_X5_at G _ i (1 : Int32)) rfl rfl rfl ?_
  rw [eF2]
  obtain ⟨q180, hp⟩ := hp
  refine x_iald (pc := 180) dX5_ticks_180 hAt_same q180 (j := (F2.toNatClampNeg)) rfl ?_
  obtain ⟨F22, eF22⟩ : ∃ F, (if (F21.2 (F1.toNatClampNeg)) = (F21.2 (F2.toNatClampNeg)) then (1 : Int32) else (0 : Int32)) = F := ⟨_, rfl⟩
  try rw [eF22] at er
  try rw [eF22] at hp
  have bF22 : xB F22 := by rw [← eF22]; exact (xB_ite xB1 xB0)
  refine x_mrg (pc' := 189) (L' := [(6, .int F7), (5, .int F4), (4, .int (t (F2.toNatClampNeg))), (3, .int (t (F1.toNatClampNeg))), (0, .ref o), (1, .ref ta), (2, .int i)]) (st' := [.int F22]) (h' := (hSet (hSet h o (moC nw rd sd pa xt F21.1)) ta (arI 103 F21.2))) (fun J => ?_) ?_
  · refine x_icmp_ne (pc := 181) (tgt := 188) dX5_ticks_181 (by decide) (fun (c22 : ¬ ((F21.2 (F1.toNatClampNeg)) = (F21.2 (F2.toNatClampNeg)))) => ?_) (fun (c22 : (F21.2 (F1.toNatClampNeg)) = (F21.2 (F2.toNatClampNeg))) => ?_)
    · refine x_iconst (pc := 188) (v := (0 : Int32)) dX5_ticks_188 (by decide) ?_
      rw [if_neg c22] at eF22
      subst eF22
      exact J
    · refine x_iconst (pc := 184) (v := (1 : Int32)) dX5_ticks_184 (by decide) ?_
      refine x_goto (pc := 185) (tgt := 189) dX5_ticks_185 (by decide) ?_
      rw [if_pos c22] at eF22
      subst eF22
      exact J
  refine x_istore (pc := 189) (L' := [(7, .int F22), (6, .int F7), (5, .int F4), (4, .int (t (F2.toNatClampNeg))), (3, .int (t (F1.toNatClampNeg))), (0, .ref o), (1, .ref ta), (2, .int i)]) dX5_ticks_189 rfl rfl ?_
  refine x_aload_n (pc := 191) dX5_ticks_191 rfl ?_
  refine x_iload_n (pc := 192) dX5_ticks_192 rfl ?_
  refine x_iconst (pc := 193) (v := (2 : Int32)) dX5_ticks_193 (by decide) ?_
  refine x_cS2i (pc := 194) dX5_ticks_194 xl_X5_36 xs_X5_at (C_X5_at G _ i (2 : Int32)) rfl rfl rfl ?_
  rw [eF3]
  refine x_iload (pc := 197) dX5_ticks_197 rfl ?_
  obtain ⟨F23, eF23⟩ : ∃ F, (if F22 = 0 then (0 : Int32) else (1 : Int32)) = F := ⟨_, rfl⟩
  try rw [eF23] at er
  try rw [eF23] at hp
  have bF23 : xB F23 := by rw [← eF23]; exact (xB_ite xB0 xB1)
  refine x_mrg (pc' := 207) (L' := [(7, .int F22), (6, .int F7), (5, .int F4), (4, .int (t (F2.toNatClampNeg))), (3, .int (t (F1.toNatClampNeg))), (0, .ref o), (1, .ref ta), (2, .int i)]) (st' := [.int F23, .int F3, .ref ta]) (h' := (hSet (hSet h o (moC nw rd sd pa xt F21.1)) ta (arI 103 F21.2))) (fun J => ?_) ?_
  · refine x_if_eq (pc := 199) (tgt := 206) dX5_ticks_199 (by decide) (fun (c23 : F22 = 0) => ?_) (fun (c23 : ¬ (F22 = 0)) => ?_)
    · refine x_iconst (pc := 206) (v := (0 : Int32)) dX5_ticks_206 (by decide) ?_
      rw [if_pos c23] at eF23
      subst eF23
      exact J
    · refine x_iconst (pc := 202) (v := (1 : Int32)) dX5_ticks_202 (by decide) ?_
      refine x_goto (pc := 203) (tgt := 207) dX5_ticks_203 (by decide) ?_
      rw [if_neg c23] at eF23
      subst eF23
      exact J
  obtain ⟨q207, hp⟩ := hp
  refine x_iast (pc := 207) (e' := arI 103 (upd F21.2 (F3.toNatClampNeg) F23)) dX5_ticks_207 hAt_same q207 (j := (F3.toNatClampNeg)) rfl rfl ?_
  refine Wp.eqh (h' := (hSet (hSet h o (moC nw rd sd pa xt F21.1)) ta (arI 103 (upd F21.2 (F3.toNatClampNeg) F23)))) (hSet_set) ?_
  refine x_aload_n (pc := 208) dX5_ticks_208 rfl ?_
  refine x_iload_n (pc := 209) dX5_ticks_209 rfl ?_
  refine x_iconst (pc := 210) (v := (5 : Int32)) dX5_ticks_210 (by decide) ?_
  refine x_cS2i (pc := 211) dX5_ticks_211 xl_X5_36 xs_X5_at (C_X5_at G _ i (5 : Int32)) rfl rfl rfl ?_
  obtain ⟨F24, eF24⟩ : ∃ F, f_X5_at i (5 : Int32) = F := ⟨_, rfl⟩
  rw [eF24]
  try rw [eF24] at er
  try rw [eF24] at hp
  refine x_iload (pc := 214) dX5_ticks_214 rfl ?_
  obtain ⟨qr216, hp⟩ := hp
  obtain ⟨F26, eF26⟩ : ∃ F, g_X5_ticks_216 i F22 (upd F21.2 (F3.toNatClampNeg) F23) = F := ⟨_, rfl⟩
  try rw [eF26] at er
  try rw [eF26] at hp
  refine x_mrg (pc' := 230) (L' := [(7, .int F22), (6, .int F7), (5, .int F4), (4, .int (t (F2.toNatClampNeg))), (3, .int (t (F1.toNatClampNeg))), (0, .ref o), (1, .ref ta), (2, .int i)]) (st' := [.int F26, .int F24, .ref ta]) (h' := (hSet (hSet h o (moC nw rd sd pa xt F21.1)) ta (arI 103 (upd F21.2 (F3.toNatClampNeg) F23)))) (fun J => ?_) ?_
  · unfold g_X5_ticks_216 at eF26
    unfold h_X5_ticks_216 at qr216
    try rw [eF1] at eF26
    try rw [eF1] at qr216
    try rw [eF2] at eF26
    try rw [eF2] at qr216
    try rw [eF3] at eF26
    try rw [eF3] at qr216
    try rw [eF4] at eF26
    try rw [eF4] at qr216
    try rw [eF5] at eF26
    try rw [eF5] at qr216
    try rw [eF22] at eF26
    try rw [eF22] at qr216
    try rw [eF23] at eF26
    try rw [eF23] at qr216
    try rw [eF24] at eF26
    try rw [eF24] at qr216
    refine x_if_eq (pc := 216) (tgt := 229) dX5_ticks_216 (by decide) (fun (c25 : F22 = 0) => ?_) (fun (c25 : ¬ (F22 = 0)) => ?_)
    · rw [if_pos c25] at eF26
      replace qr216 := qr216.1 c25
      refine x_iconst (pc := 229) (v := (0 : Int32)) dX5_ticks_229 (by decide) ?_
      subst eF26
      exact J
    · rw [if_neg c25] at eF26
      replace qr216 := qr216.2 c25
      refine x_aload_n (pc := 219) dX5_ticks_219 rfl ?_
      refine x_iload_n (pc := 220) dX5_ticks_220 rfl ?_
      refine x_iconst (pc := 221) (v := (5 : Int32)) dX5_ticks_221 (by decide) ?_
      refine x_cS2i (pc := 222) dX5_ticks_222 xl_X5_36 xs_X5_at (C_X5_at G _ i (5 : Int32)) rfl rfl rfl ?_
      rw [eF24]
      obtain ⟨q225, qr216⟩ := qr216
      refine x_iald (pc := 225) dX5_ticks_225 hAt_same q225 (j := (F24.toNatClampNeg)) rfl ?_
      refine x_goto (pc := 226) (tgt := 230) dX5_ticks_226 (by decide) ?_
      subst eF26
      exact J
  obtain ⟨q230, hp⟩ := hp
  refine x_iast (pc := 230) (e' := arI 103 (upd (upd F21.2 (F3.toNatClampNeg) F23) (F24.toNatClampNeg) F26)) dX5_ticks_230 hAt_same q230 (j := (F24.toNatClampNeg)) rfl rfl ?_
  refine Wp.eqh (h' := (hSet (hSet h o (moC nw rd sd pa xt F21.1)) ta (arI 103 (upd (upd F21.2 (F3.toNatClampNeg) F23) (F24.toNatClampNeg) F26)))) (hSet_set) ?_
  subst er
  exact x_vret (pc := 231) dX5_ticks_231 rfl rfl rfl ⟨rfl, rfl⟩

def l_X5_keeps_10 : Nat → (Nat → Int32) → (Nat → Int32) → (Nat → Int32) → Int32 → (Nat → Int32) → Int32 × (Nat → Int32)
  | 0, _, _, _, _, _ => (0, (fun _ => 0))
  | n + 1, m, tn, tp, v1, x_pa => (if (309 : Int32) ≤ v1 then (v1, x_pa) else (l_X5_keeps_10 n m tn tp (v1 + (1 : Int32)) (upd x_pa (v1.toNatClampNeg) (x_pa ((v1 + (103 : Int32)).toNatClampNeg)))))
def q_X5_keeps_10 : Nat → (Nat → Int32) → (Nat → Int32) → (Nat → Int32) → Int32 → (Nat → Int32) → Prop
  | 0, _, _, _, _, _ => False
  | n + 1, m, tn, tp, v1, x_pa => (((309 : Int32) ≤ v1 → True) ∧ (¬ ((309 : Int32) ≤ v1) → (vp_in (v1 + (103 : Int32)) 412 ∧ (vp_in v1 412 ∧ (q_X5_keeps_10 n m tn tp (v1 + (1 : Int32)) (upd x_pa (v1.toNatClampNeg) (x_pa ((v1 + (103 : Int32)).toNatClampNeg))))))))
set_option maxRecDepth 100000 in
set_option maxHeartbeats 4000000 in
theorem L_X5_keeps_10 (G : xG) (h : xH) (o nw rd sd pa xt : Nat) (m tn tp : Nat → Int32) (k_o : hAt h o = some (moC nw rd sd pa xt m)) (k_nw : hAt h nw = some (arI 103 tn)) (k_pa : hAt h pa = some (arI 412 tp)) (n_nw_pa : nw ≠ pa) {Z : xZ} : ∀ (n : Nat) (v1 : Int32) (x_pa : (Nat → Int32)), q_X5_keeps_10 n m tn tp v1 x_pa → Wp G yX5_keeps.cls cX5_keeps 2 yX5_keeps.name none (xR 1 0 0) Z 0 0 38 [(1, .int (l_X5_keeps_10 n m tn tp v1 x_pa).1), (0, .ref o)] [] (hSet (hSet h o (moC nw rd sd pa xt m)) pa (arI 412 (l_X5_keeps_10 n m tn tp v1 x_pa).2)) → Wp G yX5_keeps.cls cX5_keeps 2 yX5_keeps.name none (xR 1 0 0) Z 0 0 10 [(1, .int v1), (0, .ref o)] [] (hSet (hSet h o (moC nw rd sd pa xt m)) pa (arI 412 x_pa)) := by
  have n_nw_o : nw ≠ o := hne_k k_nw k_o rfl
  have n_o_pa : o ≠ pa := hne_k k_o k_pa rfl
  intro n
  induction n with
  | zero => intro v1 x_pa hp; exact absurd hp id
  | succ n ih =>
    intro v1 x_pa hp kk
    obtain ⟨R, er⟩ : ∃ R, l_X5_keeps_10 (n + 1) m tn tp v1 x_pa = R := ⟨_, rfl⟩
    rw [er] at kk
    rw [l_X5_keeps_10] at er
    rw [q_X5_keeps_10] at hp
    refine x_iload_n (pc := 10) dX5_keeps_10 rfl ?_
    refine x_sipush (pc := 11) (v := (309 : Int32)) dX5_keeps_11 (by decide) ?_
    refine x_icmp_ge (pc := 14) (tgt := 38) dX5_keeps_14 (by decide) (fun (c2 : (309 : Int32) ≤ v1) => ?_) (fun (c2 : ¬ ((309 : Int32) ≤ v1)) => ?_)
    · rw [if_pos c2] at er
      replace hp := hp.1 c2
      subst er
      exact kk
    · rw [if_neg c2] at er
      replace hp := hp.2 c2
      refine x_aload_n (pc := 17) dX5_keeps_17 rfl ?_
      refine x_getf (pc := 18) (v := .ref pa) dX5_keeps_18 xf_X5_19 (hAt_n n_o_pa hAt_same) rfl ?_
      refine x_iload_n (pc := 21) dX5_keeps_21 rfl ?_
      refine x_aload_n (pc := 22) dX5_keeps_22 rfl ?_
      refine x_getf (pc := 23) (v := .ref pa) dX5_keeps_23 xf_X5_19 (hAt_n n_o_pa hAt_same) rfl ?_
      refine x_iload_n (pc := 26) dX5_keeps_26 rfl ?_
      refine x_bipush (pc := 27) (v := (103 : Int32)) dX5_keeps_27 (by decide) ?_
      refine x_iadd (pc := 29) dX5_keeps_29 ?_
      obtain ⟨q30, hp⟩ := hp
      refine x_iald (pc := 30) dX5_keeps_30 hAt_same q30 (j := ((v1 + (103 : Int32)).toNatClampNeg)) rfl ?_
      obtain ⟨q31, hp⟩ := hp
      refine x_iast (pc := 31) (e' := arI 412 (upd x_pa (v1.toNatClampNeg) (x_pa ((v1 + (103 : Int32)).toNatClampNeg)))) dX5_keeps_31 hAt_same q31 (j := (v1.toNatClampNeg)) rfl rfl ?_
      refine Wp.eqh (h' := (hSet (hSet h o (moC nw rd sd pa xt m)) pa (arI 412 (upd x_pa (v1.toNatClampNeg) (x_pa ((v1 + (103 : Int32)).toNatClampNeg)))))) (hSet_set) ?_
      refine x_iinc (pc := 32) (v := (v1 + (1 : Int32))) (L' := [(1, .int (v1 + (1 : Int32))), (0, .ref o)]) dX5_keeps_32 rfl rfl rfl rfl ?_
      refine x_goto (pc := 35) (tgt := 10) dX5_keeps_35 (by decide) ?_
      subst er
      exact ih (v1 + (1 : Int32)) (upd x_pa (v1.toNatClampNeg) (x_pa ((v1 + (103 : Int32)).toNatClampNeg))) hp kk
def g_X5_keeps_5 (m : (Nat → Int32)) (tn : (Nat → Int32)) (tp : (Nat → Int32)) (y0 : Int32) : (Nat → Int32) × (Nat → Int32) := (if y0 = (4 : Int32) then ((upd m 0 ((m 0) - (1 : Int32))), (l_X5_keeps_10 xK m tn tp (0 : Int32) tp).2) else (m, tp))
def h_X5_keeps_5 (m : (Nat → Int32)) (tn : (Nat → Int32)) (tp : (Nat → Int32)) (y0 : Int32) : Prop := ((y0 = (4 : Int32) → ((q_X5_keeps_10 xK m tn tp (0 : Int32) tp) ∧ True)) ∧ (¬ (y0 = (4 : Int32)) → True))
def f_X5_keeps (m tn tp : Nat → Int32) : (Nat → Int32) × (Nat → Int32) := ((upd (g_X5_keeps_5 m tn tp (m 0)).1 0 (((g_X5_keeps_5 m tn tp (m 0)).1 0) + (1 : Int32))), (f_X5_copiesB tn (g_X5_keeps_5 m tn tp (m 0)).2 (0 : Int32) ((103 : Int32) * ((g_X5_keeps_5 m tn tp (m 0)).1 0))))
def p_X5_keeps (m tn tp : Nat → Int32) : Prop := ((h_X5_keeps_5 m tn tp (m 0)) ∧ (p_X5_copiesB tn (g_X5_keeps_5 m tn tp (m 0)).2 (0 : Int32) ((103 : Int32) * ((g_X5_keeps_5 m tn tp (m 0)).1 0)) ∧ True))
set_option maxRecDepth 100000 in
set_option maxHeartbeats 4000000 in
theorem C_X5_keeps (G : xG) (h : xH) (o nw rd sd pa xt : Nat) (m tn tp : Nat → Int32) (k_o : hAt h o = some (moC nw rd sd pa xt m)) (k_nw : hAt h nw = some (arI 103 tn)) (k_pa : hAt h pa = some (arI 412 tp)) (n_nw_pa : nw ≠ pa) (hp : p_X5_keeps m tn tp) : Cd G 1 yX5_keeps cX5_keeps 2 none [.ref o] h none (hSet (hSet h o (moC nw rd sd pa xt (f_X5_keeps m tn tp).1)) pa (arI 412 (f_X5_keeps m tn tp).2)) := by
  have n_nw_o : nw ≠ o := hne_k k_nw k_o rfl
  have n_o_pa : o ≠ pa := hne_k k_o k_pa rfl
  refine Ct.of (by decide) (by rfl) ?_
  refine Wp.eqs (L' := [(0, .ref o)]) (st' := []) rfl rfl ?_
  refine Wp.eqh (h' := (hSet (hSet h o (moC nw rd sd pa xt m)) pa (arI 412 tp))) (by rw [hSet_self k_o, hSet_self k_pa]) ?_
  obtain ⟨R, er⟩ : ∃ R, f_X5_keeps m tn tp = R := ⟨_, rfl⟩
  rw [er]
  unfold f_X5_keeps at er
  unfold p_X5_keeps at hp
  refine x_aload_n (pc := 0) dX5_keeps_0 rfl ?_
  refine x_getf (pc := 1) (v := .int (m 0)) dX5_keeps_1 xf_X5_47 (hAt_n n_o_pa hAt_same) rfl ?_
  refine x_iconst (pc := 4) (v := (4 : Int32)) dX5_keeps_4 (by decide) ?_
  obtain ⟨qr5, hp⟩ := hp
  obtain ⟨F3, eF3⟩ : ∃ F, g_X5_keeps_5 m tn tp (m 0) = F := ⟨_, rfl⟩
  try rw [eF3] at er
  try rw [eF3] at hp
  refine x_mrg (pc' := 48) (L' := [(0, .ref o)]) (st' := []) (h' := (hSet (hSet h o (moC nw rd sd pa xt F3.1)) pa (arI 412 F3.2))) (fun J => ?_) ?_
  · unfold g_X5_keeps_5 at eF3
    unfold h_X5_keeps_5 at qr5
    refine x_icmp_ne (pc := 5) (tgt := 48) dX5_keeps_5 (by decide) (fun (c3 : ¬ ((m 0) = (4 : Int32))) => ?_) (fun (c3 : (m 0) = (4 : Int32)) => ?_)
    · rw [if_neg c3] at eF3
      replace qr5 := qr5.2 c3
      subst eF3
      exact J
    · rw [if_pos c3] at eF3
      replace qr5 := qr5.1 c3
      refine x_iconst (pc := 8) (v := (0 : Int32)) dX5_keeps_8 (by decide) ?_
      refine x_istore_n (pc := 9) (L' := [(1, .int (0 : Int32)), (0, .ref o)]) dX5_keeps_9 rfl rfl ?_
      obtain ⟨ql10, qr5⟩ := qr5
      refine L_X5_keeps_10 G h o nw rd sd pa xt m tn tp k_o k_nw k_pa n_nw_pa xK (0 : Int32) tp ql10 ?_
      obtain ⟨F2, eF2⟩ : ∃ F, l_X5_keeps_10 xK m tn tp (0 : Int32) tp = F := ⟨_, rfl⟩
      rw [eF2]
      try rw [eF2] at eF3
      try rw [eF2] at qr5
      refine x_aload_n (pc := 38) dX5_keeps_38 rfl ?_
      refine x_dup (pc := 39) dX5_keeps_39 rfl ?_
      refine x_getf (pc := 40) (v := .int (m 0)) dX5_keeps_40 xf_X5_47 (hAt_n n_o_pa hAt_same) rfl ?_
      refine x_iconst (pc := 43) (v := (1 : Int32)) dX5_keeps_43 (by decide) ?_
      refine x_isub (pc := 44) dX5_keeps_44 ?_
      refine x_putf (pc := 45) (e' := moC nw rd sd pa xt (upd m 0 ((m 0) - (1 : Int32)))) dX5_keeps_45 xf_X5_47 (hAt_n n_o_pa hAt_same) rfl rfl rfl rfl ?_
      refine Wp.eqh (h' := (hSet (hSet h o (moC nw rd sd pa xt (upd m 0 ((m 0) - (1 : Int32))))) pa (arI 412 F2.2))) (hSet_sw1 n_o_pa) ?_
      subst eF3
      refine Wp.sub [1] (L' := [(0, .ref o)]) rfl ?_
      exact J
  refine x_aload_n (pc := 48) dX5_keeps_48 rfl ?_
  refine x_getf (pc := 49) (v := .ref nw) dX5_keeps_49 xf_X5_7 (hAt_n n_o_pa hAt_same) rfl ?_
  refine x_iconst (pc := 52) (v := (0 : Int32)) dX5_keeps_52 (by decide) ?_
  refine x_aload_n (pc := 53) dX5_keeps_53 rfl ?_
  refine x_getf (pc := 54) (v := .ref pa) dX5_keeps_54 xf_X5_19 (hAt_n n_o_pa hAt_same) rfl ?_
  refine x_bipush (pc := 57) (v := (103 : Int32)) dX5_keeps_57 (by decide) ?_
  refine x_aload_n (pc := 59) dX5_keeps_59 rfl ?_
  refine x_getf (pc := 60) (v := .int (F3.1 0)) dX5_keeps_60 xf_X5_47 (hAt_n n_o_pa hAt_same) rfl ?_
  refine x_imul (pc := 63) dX5_keeps_63 ?_
  obtain ⟨q64, hp⟩ := hp
  refine x_cS4v (pc := 64) dX5_keeps_64 xl_X5_43 xs_X5_copies (C_X5_copiesB G _ nw pa tn F3.2 (0 : Int32) ((103 : Int32) * (F3.1 0)) (hAt_n n_nw_pa (hAt_n n_nw_o k_nw)) hAt_same n_nw_pa q64) rfl rfl rfl ?_
  obtain ⟨F4, eF4⟩ : ∃ F, f_X5_copiesB tn F3.2 (0 : Int32) ((103 : Int32) * (F3.1 0)) = F := ⟨_, rfl⟩
  rw [eF4]
  try rw [eF4] at er
  try rw [eF4] at hp
  refine Wp.eqh (h' := (hSet (hSet h o (moC nw rd sd pa xt F3.1)) pa (arI 412 F4))) (hSet_set) ?_
  refine x_aload_n (pc := 67) dX5_keeps_67 rfl ?_
  refine x_dup (pc := 68) dX5_keeps_68 rfl ?_
  refine x_getf (pc := 69) (v := .int (F3.1 0)) dX5_keeps_69 xf_X5_47 (hAt_n n_o_pa hAt_same) rfl ?_
  refine x_iconst (pc := 72) (v := (1 : Int32)) dX5_keeps_72 (by decide) ?_
  refine x_iadd (pc := 73) dX5_keeps_73 ?_
  refine x_putf (pc := 74) (e' := moC nw rd sd pa xt (upd F3.1 0 ((F3.1 0) + (1 : Int32)))) dX5_keeps_74 xf_X5_47 (hAt_n n_o_pa hAt_same) rfl rfl rfl rfl ?_
  refine Wp.eqh (h' := (hSet (hSet h o (moC nw rd sd pa xt (upd F3.1 0 ((F3.1 0) + (1 : Int32))))) pa (arI 412 F4))) (hSet_sw1 n_o_pa) ?_
  subst er
  exact x_vret (pc := 77) dX5_keeps_77 rfl rfl rfl ⟨rfl, rfl⟩
