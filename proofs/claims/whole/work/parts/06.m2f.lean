def g_X5_takesItem_12 (tr : (Nat → Int32)) (tx : (Nat → Int32)) (v1 : Int64) (x_o : (Nat → Int32)) (y0 : Int32) : Int32 × (Nat → Int32) × (Nat → Int32) := (if y0 = 0 then ((f_X5_addsWay x_o tr).1, x_o, (f_X5_addsWay x_o tr).2) else (if (lg_cmp v1 (8688 : Int64)) = 0 then ((f_X5_takesHop x_o tr tx).1, (f_X5_takesHop x_o tr tx).2.1, (f_X5_takesHop x_o tr tx).2.2) else (if (lg_cmp v1 (409203 : Int64)) = 0 then ((f_X5_takesLoss x_o tr tx).1, (f_X5_takesLoss x_o tr tx).2.1, (f_X5_takesLoss x_o tr tx).2.2) else (if (lg_cmp v1 (67173 : Int64)) = 0 then ((f_X5_puts x_o tr tx (2 : Int32) (20 : Int32) (200 : Int32)).1, (f_X5_puts x_o tr tx (2 : Int32) (20 : Int32) (200 : Int32)).2.1, (f_X5_puts x_o tr tx (2 : Int32) (20 : Int32) (200 : Int32)).2.2) else (if (lg_cmp v1 (20976 : Int64)) = 0 then ((f_X5_puts x_o tr tx (3 : Int32) (200 : Int32) (999 : Int32)).1, (f_X5_puts x_o tr tx (3 : Int32) (200 : Int32) (999 : Int32)).2.1, (f_X5_puts x_o tr tx (3 : Int32) (200 : Int32) (999 : Int32)).2.2) else (if (lg_cmp v1 (1253 : Int64)) = 0 then ((f_X5_puts x_o tr tx (4 : Int32) (1 : Int32) (99 : Int32)).1, (f_X5_puts x_o tr tx (4 : Int32) (1 : Int32) (99 : Int32)).2.1, (f_X5_puts x_o tr tx (4 : Int32) (1 : Int32) (99 : Int32)).2.2) else (if (lg_cmp v1 (2328139461 : Int64)) = 0 then ((f_X5_takesBelief x_o tr tx).1, (f_X5_takesBelief x_o tr tx).2.1, (f_X5_takesBelief x_o tr tx).2.2) else (if (lg_cmp v1 (4785907 : Int64)) = 0 then ((f_X5_puts x_o tr tx (6 : Int32) (0 : Int32) (9999 : Int32)).1, (f_X5_puts x_o tr tx (6 : Int32) (0 : Int32) (9999 : Int32)).2.1, (f_X5_puts x_o tr tx (6 : Int32) (0 : Int32) (9999 : Int32)).2.2) else ((0 : Int32), x_o, tr)))))))))
def h_X5_takesItem_12 (tr : (Nat → Int32)) (tx : (Nat → Int32)) (v1 : Int64) (x_o : (Nat → Int32)) (y0 : Int32) : Prop := ((y0 = 0 → True) ∧ (¬ (y0 = 0) → (((lg_cmp v1 (8688 : Int64)) = 0 → (p_X5_takesHop x_o tr tx ∧ True)) ∧ (¬ ((lg_cmp v1 (8688 : Int64)) = 0) → (((lg_cmp v1 (409203 : Int64)) = 0 → (p_X5_takesLoss x_o tr tx ∧ True)) ∧ (¬ ((lg_cmp v1 (409203 : Int64)) = 0) → (((lg_cmp v1 (67173 : Int64)) = 0 → (p_X5_puts x_o tr tx (2 : Int32) (20 : Int32) (200 : Int32) ∧ True)) ∧ (¬ ((lg_cmp v1 (67173 : Int64)) = 0) → (((lg_cmp v1 (20976 : Int64)) = 0 → (p_X5_puts x_o tr tx (3 : Int32) (200 : Int32) (999 : Int32) ∧ True)) ∧ (¬ ((lg_cmp v1 (20976 : Int64)) = 0) → (((lg_cmp v1 (1253 : Int64)) = 0 → (p_X5_puts x_o tr tx (4 : Int32) (1 : Int32) (99 : Int32) ∧ True)) ∧ (¬ ((lg_cmp v1 (1253 : Int64)) = 0) → (((lg_cmp v1 (2328139461 : Int64)) = 0 → (p_X5_takesBelief x_o tr tx ∧ True)) ∧ (¬ ((lg_cmp v1 (2328139461 : Int64)) = 0) → (((lg_cmp v1 (4785907 : Int64)) = 0 → (p_X5_puts x_o tr tx (6 : Int32) (0 : Int32) (9999 : Int32) ∧ True)) ∧ (¬ ((lg_cmp v1 (4785907 : Int64)) = 0) → True))))))))))))))))
theorem Bg_X5_takesItem_12 (tr : (Nat → Int32)) (tx : (Nat → Int32)) (v1 : Int64) (x_o : (Nat → Int32)) (y0 : Int32) : xB (g_X5_takesItem_12 tr tx v1 x_o y0).1 := by
  unfold g_X5_takesItem_12
  exact (xB_ite1 (xB_fst (B_X5_addsWay _ _)) (xB_ite1 (xB_fst (B_X5_takesHop _ _ _)) (xB_ite1 (xB_fst (B_X5_takesLoss _ _ _)) (xB_ite1 (xB_fst (B_X5_puts _ _ _ _ _ _)) (xB_ite1 (xB_fst (B_X5_puts _ _ _ _ _ _)) (xB_ite1 (xB_fst (B_X5_puts _ _ _ _ _ _)) (xB_ite1 (xB_fst (B_X5_takesBelief _ _ _)) (xB_ite1 (xB_fst (B_X5_puts _ _ _ _ _ _)) (xB_fst xB0)))))))))
def g_X5_takesItem_156 (tx : (Nat → Int32)) (v3 : Int32) (x_o : (Nat → Int32)) : Int32 × (Nat → Int32) := (if v3 = 0 then ((0 : Int32), x_o) else (if (f_X5_takesSign x_o tx (59 : Int32)).1 = 0 then ((0 : Int32), (f_X5_takesSign x_o tx (59 : Int32)).2) else ((1 : Int32), (f_X5_takesSign x_o tx (59 : Int32)).2)))
def h_X5_takesItem_156 (tx : (Nat → Int32)) (v3 : Int32) (x_o : (Nat → Int32)) : Prop := ((v3 = 0 → True) ∧ (¬ (v3 = 0) → (p_X5_takesSign x_o tx (59 : Int32) ∧ (((f_X5_takesSign x_o tx (59 : Int32)).1 = 0 → True) ∧ (¬ ((f_X5_takesSign x_o tx (59 : Int32)).1 = 0) → True)))))
theorem Bg_X5_takesItem_156 (tx : (Nat → Int32)) (v3 : Int32) (x_o : (Nat → Int32)) : xB (g_X5_takesItem_156 tx v3 x_o).1 := by
  unfold g_X5_takesItem_156
  exact (xB_ite1 (xB_fst xB0) (xB_ite1 (xB_fst xB0) (xB_fst xB1)))
def f_X5_takesItem (m tr tx : Nat → Int32) : Int32 × (Nat → Int32) × (Nat → Int32) := ((g_X5_takesItem_156 tx (g_X5_takesItem_12 tr tx (f_X5_takesWord m tx).1 (f_X5_takesWord m tx).2 (lg_cmp (f_X5_takesWord m tx).1 (23609 : Int64))).1 (g_X5_takesItem_12 tr tx (f_X5_takesWord m tx).1 (f_X5_takesWord m tx).2 (lg_cmp (f_X5_takesWord m tx).1 (23609 : Int64))).2.1).1, (g_X5_takesItem_156 tx (g_X5_takesItem_12 tr tx (f_X5_takesWord m tx).1 (f_X5_takesWord m tx).2 (lg_cmp (f_X5_takesWord m tx).1 (23609 : Int64))).1 (g_X5_takesItem_12 tr tx (f_X5_takesWord m tx).1 (f_X5_takesWord m tx).2 (lg_cmp (f_X5_takesWord m tx).1 (23609 : Int64))).2.1).2, (g_X5_takesItem_12 tr tx (f_X5_takesWord m tx).1 (f_X5_takesWord m tx).2 (lg_cmp (f_X5_takesWord m tx).1 (23609 : Int64))).2.2)
def p_X5_takesItem (m tr tx : Nat → Int32) : Prop := (p_X5_takesWord m tx ∧ ((h_X5_takesItem_12 tr tx (f_X5_takesWord m tx).1 (f_X5_takesWord m tx).2 (lg_cmp (f_X5_takesWord m tx).1 (23609 : Int64))) ∧ ((h_X5_takesItem_156 tx (g_X5_takesItem_12 tr tx (f_X5_takesWord m tx).1 (f_X5_takesWord m tx).2 (lg_cmp (f_X5_takesWord m tx).1 (23609 : Int64))).1 (g_X5_takesItem_12 tr tx (f_X5_takesWord m tx).1 (f_X5_takesWord m tx).2 (lg_cmp (f_X5_takesWord m tx).1 (23609 : Int64))).2.1) ∧ True)))
set_option maxRecDepth 100000 in
set_option maxHeartbeats 4000000 in
theorem C_X5_takesItem (G : xG) (h : xH) (o nw rd sd pa xt : Nat) (m tr tx : Nat → Int32) (k_o : hAt h o = some (moC nw rd sd pa xt m)) (k_rd : hAt h rd = some (arI 103 tr)) (k_xt : hAt h xt = some (arI 240 tx)) (n_rd_xt : rd ≠ xt) (hp : p_X5_takesItem m tr tx) : Cd G 6 yX5_takesItem cX5_takesItem 4 (some .boolean) [.ref o] h (some (.int (f_X5_takesItem m tr tx).1)) (hSet (hSet h o (moC nw rd sd pa xt (f_X5_takesItem m tr tx).2.1)) rd (arI 103 (f_X5_takesItem m tr tx).2.2)) := by
  have n_o_rd : o ≠ rd := hne_k k_o k_rd rfl
  have n_xt_o : xt ≠ o := hne_k k_xt k_o rfl
  have n_xt_rd : xt ≠ rd := Ne.symm n_rd_xt
  refine Ct.of (by decide) (by rfl) ?_
  refine Wp.eqs (L' := [(0, .ref o)]) (st' := []) rfl rfl ?_
  refine Wp.eqh (h' := (hSet (hSet h o (moC nw rd sd pa xt m)) rd (arI 103 tr))) (by rw [hSet_self k_o, hSet_self k_rd]) ?_
  obtain ⟨R, er⟩ : ∃ R, f_X5_takesItem m tr tx = R := ⟨_, rfl⟩
  rw [er]
  unfold f_X5_takesItem at er
  unfold p_X5_takesItem at hp
  refine x_aload_n (pc := 0) dX5_takesItem_0 rfl ?_
  obtain ⟨q1, hp⟩ := hp
  refine x_cV0l (pc := 1) dX5_takesItem_1 xl_X5_77 xv_X5_takesWord (hAt_n n_o_rd hAt_same) rfl (C_X5_takesWord G _ o nw rd sd pa xt m tx (hAt_n n_o_rd hAt_same) (hAt_n n_xt_rd (hAt_n n_xt_o k_xt)) q1) rfl rfl rfl ?_
  obtain ⟨F1, eF1⟩ : ∃ F, f_X5_takesWord m tx = F := ⟨_, rfl⟩
  rw [eF1]
  try rw [eF1] at er
  try rw [eF1] at hp
  refine Wp.eqh (h' := (hSet (hSet h o (moC nw rd sd pa xt F1.2)) rd (arI 103 tr))) (hSet_sw1 n_o_rd) ?_
  refine x_lstore_n (pc := 4) (L' := [(1, .long F1.1), (0, .ref o)]) dX5_takesItem_4 rfl rfl ?_
  refine x_iconst (pc := 5) (v := (0 : Int32)) dX5_takesItem_5 (by decide) ?_
  refine x_istore_n (pc := 6) (L' := [(3, .int (0 : Int32)), (1, .long F1.1), (0, .ref o)]) dX5_takesItem_6 rfl rfl ?_
  refine x_lload_n (pc := 7) dX5_takesItem_7 rfl ?_
  refine x_ldc2 (pc := 8) (v := (23609 : Int64)) dX5_takesItem_8 xk_X5_98 ?_
  refine x_lcmp (pc := 11) dX5_takesItem_11 ?_
  obtain ⟨qr12, hp⟩ := hp
  obtain ⟨F18, eF18⟩ : ∃ F, g_X5_takesItem_12 tr tx F1.1 F1.2 (lg_cmp F1.1 (23609 : Int64)) = F := ⟨_, rfl⟩
  try rw [eF18] at er
  try rw [eF18] at hp
  have bF18_1 : xB F18.1 := by rw [← eF18]; exact (Bg_X5_takesItem_12 _ _ _ _ _)
  refine x_mrg (pc' := 155) (L' := [(3, .int F18.1), (1, .long F1.1), (0, .ref o)]) (st' := []) (h' := (hSet (hSet h o (moC nw rd sd pa xt F18.2.1)) rd (arI 103 F18.2.2))) (fun J => ?_) ?_
  · unfold g_X5_takesItem_12 at eF18
    unfold h_X5_takesItem_12 at qr12
    try rw [eF1] at eF18
    try rw [eF1] at qr12
    refine x_if_ne (pc := 12) (tgt := 23) dX5_takesItem_12 (by decide) (fun (c9 : ¬ ((lg_cmp F1.1 (23609 : Int64)) = 0)) => ?_) (fun (c9 : (lg_cmp F1.1 (23609 : Int64)) = 0) => ?_)
    · rw [if_neg c9] at eF18
      replace qr12 := qr12.2 c9
      refine x_lload_n (pc := 23) dX5_takesItem_23 rfl ?_
      refine x_ldc2 (pc := 24) (v := (8688 : Int64)) dX5_takesItem_24 xk_X5_100 ?_
      refine x_lcmp (pc := 27) dX5_takesItem_27 ?_
      refine x_if_ne (pc := 28) (tgt := 39) dX5_takesItem_28 (by decide) (fun (c10 : ¬ ((lg_cmp F1.1 (8688 : Int64)) = 0)) => ?_) (fun (c10 : (lg_cmp F1.1 (8688 : Int64)) = 0) => ?_)
      · rw [if_neg c10] at eF18
        replace qr12 := qr12.2 c10
        refine x_lload_n (pc := 39) dX5_takesItem_39 rfl ?_
        refine x_ldc2 (pc := 40) (v := (409203 : Int64)) dX5_takesItem_40 xk_X5_105 ?_
        refine x_lcmp (pc := 43) dX5_takesItem_43 ?_
        refine x_if_ne (pc := 44) (tgt := 55) dX5_takesItem_44 (by decide) (fun (c11 : ¬ ((lg_cmp F1.1 (409203 : Int64)) = 0)) => ?_) (fun (c11 : (lg_cmp F1.1 (409203 : Int64)) = 0) => ?_)
        · rw [if_neg c11] at eF18
          replace qr12 := qr12.2 c11
          refine x_lload_n (pc := 55) dX5_takesItem_55 rfl ?_
          refine x_ldc2 (pc := 56) (v := (67173 : Int64)) dX5_takesItem_56 xk_X5_110 ?_
          refine x_lcmp (pc := 59) dX5_takesItem_59 ?_
          refine x_if_ne (pc := 60) (tgt := 77) dX5_takesItem_60 (by decide) (fun (c12 : ¬ ((lg_cmp F1.1 (67173 : Int64)) = 0)) => ?_) (fun (c12 : (lg_cmp F1.1 (67173 : Int64)) = 0) => ?_)
          · rw [if_neg c12] at eF18
            replace qr12 := qr12.2 c12
            refine x_lload_n (pc := 77) dX5_takesItem_77 rfl ?_
            refine x_ldc2 (pc := 78) (v := (20976 : Int64)) dX5_takesItem_78 xk_X5_112 ?_
            refine x_lcmp (pc := 81) dX5_takesItem_81 ?_
            refine x_if_ne (pc := 82) (tgt := 100) dX5_takesItem_82 (by decide) (fun (c13 : ¬ ((lg_cmp F1.1 (20976 : Int64)) = 0)) => ?_) (fun (c13 : (lg_cmp F1.1 (20976 : Int64)) = 0) => ?_)
            · rw [if_neg c13] at eF18
              replace qr12 := qr12.2 c13
              refine x_lload_n (pc := 100) dX5_takesItem_100 rfl ?_
              refine x_ldc2 (pc := 101) (v := (1253 : Int64)) dX5_takesItem_101 xk_X5_114 ?_
              refine x_lcmp (pc := 104) dX5_takesItem_104 ?_
              refine x_if_ne (pc := 105) (tgt := 120) dX5_takesItem_105 (by decide) (fun (c14 : ¬ ((lg_cmp F1.1 (1253 : Int64)) = 0)) => ?_) (fun (c14 : (lg_cmp F1.1 (1253 : Int64)) = 0) => ?_)
              · rw [if_neg c14] at eF18
                replace qr12 := qr12.2 c14
                refine x_lload_n (pc := 120) dX5_takesItem_120 rfl ?_
                refine x_ldc2 (pc := 121) (v := (2328139461 : Int64)) dX5_takesItem_121 xk_X5_116 ?_
                refine x_lcmp (pc := 124) dX5_takesItem_124 ?_
                refine x_if_ne (pc := 125) (tgt := 136) dX5_takesItem_125 (by decide) (fun (c15 : ¬ ((lg_cmp F1.1 (2328139461 : Int64)) = 0)) => ?_) (fun (c15 : (lg_cmp F1.1 (2328139461 : Int64)) = 0) => ?_)
                · rw [if_neg c15] at eF18
                  replace qr12 := qr12.2 c15
                  refine x_lload_n (pc := 136) dX5_takesItem_136 rfl ?_
                  refine x_ldc2 (pc := 137) (v := (4785907 : Int64)) dX5_takesItem_137 xk_X5_121 ?_
                  refine x_lcmp (pc := 140) dX5_takesItem_140 ?_
                  refine x_if_ne (pc := 141) (tgt := 155) dX5_takesItem_141 (by decide) (fun (c16 : ¬ ((lg_cmp F1.1 (4785907 : Int64)) = 0)) => ?_) (fun (c16 : (lg_cmp F1.1 (4785907 : Int64)) = 0) => ?_)
                  · rw [if_neg c16] at eF18
                    replace qr12 := qr12.2 c16
                    subst eF18
                    exact J
                  · rw [if_pos c16] at eF18
                    replace qr12 := qr12.1 c16
                    refine x_aload_n (pc := 144) dX5_takesItem_144 rfl ?_
                    refine x_bipush (pc := 145) (v := (6 : Int32)) dX5_takesItem_145 (by decide) ?_
                    refine x_iconst (pc := 147) (v := (0 : Int32)) dX5_takesItem_147 (by decide) ?_
                    refine x_sipush (pc := 148) (v := (9999 : Int32)) dX5_takesItem_148 (by decide) ?_
                    obtain ⟨q151, qr12⟩ := qr12
                    refine x_cV3i (pc := 151) dX5_takesItem_151 xl_X5_95 xv_X5_puts (hAt_n n_o_rd hAt_same) rfl (C_X5_puts G _ o nw rd sd pa xt F1.2 tr tx (6 : Int32) (0 : Int32) (9999 : Int32) (hAt_n n_o_rd hAt_same) hAt_same (hAt_n n_xt_rd (hAt_n n_xt_o k_xt)) n_rd_xt q151) rfl rfl rfl ?_
                    obtain ⟨F10, eF10⟩ : ∃ F, f_X5_puts F1.2 tr tx (6 : Int32) (0 : Int32) (9999 : Int32) = F := ⟨_, rfl⟩
                    rw [eF10]
                    try rw [eF10] at eF18
                    try rw [eF10] at qr12
                    have bF10_1 : xB F10.1 := by rw [← eF10]; exact (B_X5_puts _ _ _ _ _ _)
                    refine Wp.eqh (h' := (hSet (hSet h o (moC nw rd sd pa xt F10.2.1)) rd (arI 103 F10.2.2))) ((congrArg (fun z => hSet z rd _) (hSet_sw1 n_o_rd)).trans (hSet_set)) ?_
                    refine x_istore_n (pc := 154) (L' := [(3, .int F10.1), (1, .long F1.1), (0, .ref o)]) dX5_takesItem_154 rfl rfl ?_
                    subst eF18
                    exact J
                · rw [if_pos c15] at eF18
                  replace qr12 := qr12.1 c15
                  refine x_aload_n (pc := 128) dX5_takesItem_128 rfl ?_
                  obtain ⟨q129, qr12⟩ := qr12
                  refine x_cV0i (pc := 129) dX5_takesItem_129 xl_X5_118 xv_X5_takesBelief (hAt_n n_o_rd hAt_same) rfl (C_X5_takesBelief G _ o nw rd sd pa xt F1.2 tr tx (hAt_n n_o_rd hAt_same) hAt_same (hAt_n n_xt_rd (hAt_n n_xt_o k_xt)) n_rd_xt q129) rfl rfl rfl ?_
                  obtain ⟨F11, eF11⟩ : ∃ F, f_X5_takesBelief F1.2 tr tx = F := ⟨_, rfl⟩
                  rw [eF11]
                  try rw [eF11] at eF18
                  try rw [eF11] at qr12
                  have bF11_1 : xB F11.1 := by rw [← eF11]; exact (B_X5_takesBelief _ _ _)
                  refine Wp.eqh (h' := (hSet (hSet h o (moC nw rd sd pa xt F11.2.1)) rd (arI 103 F11.2.2))) ((congrArg (fun z => hSet z rd _) (hSet_sw1 n_o_rd)).trans (hSet_set)) ?_
                  refine x_istore_n (pc := 132) (L' := [(3, .int F11.1), (1, .long F1.1), (0, .ref o)]) dX5_takesItem_132 rfl rfl ?_
                  refine x_goto (pc := 133) (tgt := 155) dX5_takesItem_133 (by decide) ?_
                  subst eF18
                  exact J
              · rw [if_pos c14] at eF18
                replace qr12 := qr12.1 c14
                refine x_aload_n (pc := 108) dX5_takesItem_108 rfl ?_
                refine x_iconst (pc := 109) (v := (4 : Int32)) dX5_takesItem_109 (by decide) ?_
                refine x_iconst (pc := 110) (v := (1 : Int32)) dX5_takesItem_110 (by decide) ?_
                refine x_bipush (pc := 111) (v := (99 : Int32)) dX5_takesItem_111 (by decide) ?_
                obtain ⟨q113, qr12⟩ := qr12
                refine x_cV3i (pc := 113) dX5_takesItem_113 xl_X5_95 xv_X5_puts (hAt_n n_o_rd hAt_same) rfl (C_X5_puts G _ o nw rd sd pa xt F1.2 tr tx (4 : Int32) (1 : Int32) (99 : Int32) (hAt_n n_o_rd hAt_same) hAt_same (hAt_n n_xt_rd (hAt_n n_xt_o k_xt)) n_rd_xt q113) rfl rfl rfl ?_
                obtain ⟨F12, eF12⟩ : ∃ F, f_X5_puts F1.2 tr tx (4 : Int32) (1 : Int32) (99 : Int32) = F := ⟨_, rfl⟩
                rw [eF12]
                try rw [eF12] at eF18
                try rw [eF12] at qr12
                have bF12_1 : xB F12.1 := by rw [← eF12]; exact (B_X5_puts _ _ _ _ _ _)
                refine Wp.eqh (h' := (hSet (hSet h o (moC nw rd sd pa xt F12.2.1)) rd (arI 103 F12.2.2))) ((congrArg (fun z => hSet z rd _) (hSet_sw1 n_o_rd)).trans (hSet_set)) ?_
                refine x_istore_n (pc := 116) (L' := [(3, .int F12.1), (1, .long F1.1), (0, .ref o)]) dX5_takesItem_116 rfl rfl ?_
                refine x_goto (pc := 117) (tgt := 155) dX5_takesItem_117 (by decide) ?_
                subst eF18
                exact J
            · rw [if_pos c13] at eF18
              replace qr12 := qr12.1 c13
              refine x_aload_n (pc := 85) dX5_takesItem_85 rfl ?_
              refine x_iconst (pc := 86) (v := (3 : Int32)) dX5_takesItem_86 (by decide) ?_
              refine x_sipush (pc := 87) (v := (200 : Int32)) dX5_takesItem_87 (by decide) ?_
              refine x_sipush (pc := 90) (v := (999 : Int32)) dX5_takesItem_90 (by decide) ?_
              obtain ⟨q93, qr12⟩ := qr12
              refine x_cV3i (pc := 93) dX5_takesItem_93 xl_X5_95 xv_X5_puts (hAt_n n_o_rd hAt_same) rfl (C_X5_puts G _ o nw rd sd pa xt F1.2 tr tx (3 : Int32) (200 : Int32) (999 : Int32) (hAt_n n_o_rd hAt_same) hAt_same (hAt_n n_xt_rd (hAt_n n_xt_o k_xt)) n_rd_xt q93) rfl rfl rfl ?_
              obtain ⟨F13, eF13⟩ : ∃ F, f_X5_puts F1.2 tr tx (3 : Int32) (200 : Int32) (999 : Int32) = F := ⟨_, rfl⟩
              rw [eF13]
              try rw [eF13] at eF18
              try rw [eF13] at qr12
              have bF13_1 : xB F13.1 := by rw [← eF13]; exact (B_X5_puts _ _ _ _ _ _)
              refine Wp.eqh (h' := (hSet (hSet h o (moC nw rd sd pa xt F13.2.1)) rd (arI 103 F13.2.2))) ((congrArg (fun z => hSet z rd _) (hSet_sw1 n_o_rd)).trans (hSet_set)) ?_
              refine x_istore_n (pc := 96) (L' := [(3, .int F13.1), (1, .long F1.1), (0, .ref o)]) dX5_takesItem_96 rfl rfl ?_
              refine x_goto (pc := 97) (tgt := 155) dX5_takesItem_97 (by decide) ?_
              subst eF18
              exact J
          · rw [if_pos c12] at eF18
            replace qr12 := qr12.1 c12
            refine x_aload_n (pc := 63) dX5_takesItem_63 rfl ?_
            refine x_iconst (pc := 64) (v := (2 : Int32)) dX5_takesItem_64 (by decide) ?_
            refine x_bipush (pc := 65) (v := (20 : Int32)) dX5_takesItem_65 (by decide) ?_
            refine x_sipush (pc := 67) (v := (200 : Int32)) dX5_takesItem_67 (by decide) ?_
            obtain ⟨q70, qr12⟩ := qr12
            refine x_cV3i (pc := 70) dX5_takesItem_70 xl_X5_95 xv_X5_puts (hAt_n n_o_rd hAt_same) rfl (C_X5_puts G _ o nw rd sd pa xt F1.2 tr tx (2 : Int32) (20 : Int32) (200 : Int32) (hAt_n n_o_rd hAt_same) hAt_same (hAt_n n_xt_rd (hAt_n n_xt_o k_xt)) n_rd_xt q70) rfl rfl rfl ?_
            obtain ⟨F14, eF14⟩ : ∃ F, f_X5_puts F1.2 tr tx (2 : Int32) (20 : Int32) (200 : Int32) = F := ⟨_, rfl⟩
            rw [eF14]
            try rw [eF14] at eF18
            try rw [eF14] at qr12
            have bF14_1 : xB F14.1 := by rw [← eF14]; exact (B_X5_puts _ _ _ _ _ _)
            refine Wp.eqh (h' := (hSet (hSet h o (moC nw rd sd pa xt F14.2.1)) rd (arI 103 F14.2.2))) ((congrArg (fun z => hSet z rd _) (hSet_sw1 n_o_rd)).trans (hSet_set)) ?_
            refine x_istore_n (pc := 73) (L' := [(3, .int F14.1), (1, .long F1.1), (0, .ref o)]) dX5_takesItem_73 rfl rfl ?_
            refine x_goto (pc := 74) (tgt := 155) dX5_takesItem_74 (by decide) ?_
            subst eF18
            exact J
        · rw [if_pos c11] at eF18
          replace qr12 := qr12.1 c11
          refine x_aload_n (pc := 47) dX5_takesItem_47 rfl ?_
          obtain ⟨q48, qr12⟩ := qr12
          refine x_cV0i (pc := 48) dX5_takesItem_48 xl_X5_107 xv_X5_takesLoss (hAt_n n_o_rd hAt_same) rfl (C_X5_takesLoss G _ o nw rd sd pa xt F1.2 tr tx (hAt_n n_o_rd hAt_same) hAt_same (hAt_n n_xt_rd (hAt_n n_xt_o k_xt)) n_rd_xt q48) rfl rfl rfl ?_
          obtain ⟨F15, eF15⟩ : ∃ F, f_X5_takesLoss F1.2 tr tx = F := ⟨_, rfl⟩
          rw [eF15]
          try rw [eF15] at eF18
          try rw [eF15] at qr12
          have bF15_1 : xB F15.1 := by rw [← eF15]; exact (B_X5_takesLoss _ _ _)
          refine Wp.eqh (h' := (hSet (hSet h o (moC nw rd sd pa xt F15.2.1)) rd (arI 103 F15.2.2))) ((congrArg (fun z => hSet z rd _) (hSet_sw1 n_o_rd)).trans (hSet_set)) ?_
          refine x_istore_n (pc := 51) (L' := [(3, .int F15.1), (1, .long F1.1), (0, .ref o)]) dX5_takesItem_51 rfl rfl ?_
          refine x_goto (pc := 52) (tgt := 155) dX5_takesItem_52 (by decide) ?_
          subst eF18
          exact J
      · rw [if_pos c10] at eF18
        replace qr12 := qr12.1 c10
        refine x_aload_n (pc := 31) dX5_takesItem_31 rfl ?_
        obtain ⟨q32, qr12⟩ := qr12
        refine x_cV0i (pc := 32) dX5_takesItem_32 xl_X5_102 xv_X5_takesHop (hAt_n n_o_rd hAt_same) rfl (C_X5_takesHop G _ o nw rd sd pa xt F1.2 tr tx (hAt_n n_o_rd hAt_same) hAt_same (hAt_n n_xt_rd (hAt_n n_xt_o k_xt)) n_rd_xt q32) rfl rfl rfl ?_
        obtain ⟨F16, eF16⟩ : ∃ F, f_X5_takesHop F1.2 tr tx = F := ⟨_, rfl⟩
        rw [eF16]
        try rw [eF16] at eF18
        try rw [eF16] at qr12
        have bF16_1 : xB F16.1 := by rw [← eF16]; exact (B_X5_takesHop _ _ _)
        refine Wp.eqh (h' := (hSet (hSet h o (moC nw rd sd pa xt F16.2.1)) rd (arI 103 F16.2.2))) ((congrArg (fun z => hSet z rd _) (hSet_sw1 n_o_rd)).trans (hSet_set)) ?_
        refine x_istore_n (pc := 35) (L' := [(3, .int F16.1), (1, .long F1.1), (0, .ref o)]) dX5_takesItem_35 rfl rfl ?_
        refine x_goto (pc := 36) (tgt := 155) dX5_takesItem_36 (by decide) ?_
        subst eF18
        exact J
    · rw [if_pos c9] at eF18
      replace qr12 := qr12.1 c9
      refine x_aload_n (pc := 15) dX5_takesItem_15 rfl ?_
      refine x_cV0i (pc := 16) dX5_takesItem_16 xl_X5_28 xv_X5_addsWay (hAt_n n_o_rd hAt_same) rfl (C_X5_addsWay G _ o nw rd sd pa xt F1.2 tr (hAt_n n_o_rd hAt_same) hAt_same) rfl rfl rfl ?_
      obtain ⟨F17, eF17⟩ : ∃ F, f_X5_addsWay F1.2 tr = F := ⟨_, rfl⟩
      rw [eF17]
      try rw [eF17] at eF18
      try rw [eF17] at qr12
      have bF17_1 : xB F17.1 := by rw [← eF17]; exact (B_X5_addsWay _ _)
      refine Wp.eqh (h' := (hSet (hSet h o (moC nw rd sd pa xt F1.2)) rd (arI 103 F17.2))) (hSet_set) ?_
      refine x_istore_n (pc := 19) (L' := [(3, .int F17.1), (1, .long F1.1), (0, .ref o)]) dX5_takesItem_19 rfl rfl ?_
      refine x_goto (pc := 20) (tgt := 155) dX5_takesItem_20 (by decide) ?_
      subst eF18
      exact J
  refine x_iload_n (pc := 155) dX5_takesItem_155 rfl ?_
  obtain ⟨qr156, hp⟩ := hp
  obtain ⟨F21, eF21⟩ : ∃ F, g_X5_takesItem_156 tx F18.1 F18.2.1 = F := ⟨_, rfl⟩
  try rw [eF21] at er
  try rw [eF21] at hp
  have bF21_1 : xB F21.1 := by rw [← eF21]; exact (Bg_X5_takesItem_156 _ _ _)
  refine x_mrg (pc' := 173) (L' := [(3, .int F18.1), (1, .long F1.1), (0, .ref o)]) (st' := [.int F21.1]) (h' := (hSet (hSet h o (moC nw rd sd pa xt F21.2)) rd (arI 103 F18.2.2))) (fun J => ?_) ?_
  · unfold g_X5_takesItem_156 at eF21
    unfold h_X5_takesItem_156 at qr156
    try rw [eF1] at eF21
    try rw [eF1] at qr156
    refine x_if_eq (pc := 156) (tgt := 172) dX5_takesItem_156 (by decide) (fun (c19 : F18.1 = 0) => ?_) (fun (c19 : ¬ (F18.1 = 0)) => ?_)
    · rw [if_pos c19] at eF21
      replace qr156 := qr156.1 c19
      refine x_iconst (pc := 172) (v := (0 : Int32)) dX5_takesItem_172 (by decide) ?_
      subst eF21
      exact J
    · rw [if_neg c19] at eF21
      replace qr156 := qr156.2 c19
      refine x_aload_n (pc := 159) dX5_takesItem_159 rfl ?_
      refine x_bipush (pc := 160) (v := (59 : Int32)) dX5_takesItem_160 (by decide) ?_
      obtain ⟨q162, qr156⟩ := qr156
      refine x_cV1i (pc := 162) dX5_takesItem_162 xl_X5_70 xv_X5_takesSign (hAt_n n_o_rd hAt_same) rfl (C_X5_takesSign G _ o nw rd sd pa xt F18.2.1 tx (59 : Int32) (hAt_n n_o_rd hAt_same) (hAt_n n_xt_rd (hAt_n n_xt_o k_xt)) q162) rfl rfl rfl ?_
      obtain ⟨F20, eF20⟩ : ∃ F, f_X5_takesSign F18.2.1 tx (59 : Int32) = F := ⟨_, rfl⟩
      rw [eF20]
      try rw [eF20] at eF21
      try rw [eF20] at qr156
      have bF20_1 : xB F20.1 := by rw [← eF20]; exact (B_X5_takesSign _ _ _)
      refine Wp.eqh (h' := (hSet (hSet h o (moC nw rd sd pa xt F20.2)) rd (arI 103 F18.2.2))) (hSet_sw1 n_o_rd) ?_
      refine x_if_eq (pc := 165) (tgt := 172) dX5_takesItem_165 (by decide) (fun (c20 : F20.1 = 0) => ?_) (fun (c20 : ¬ (F20.1 = 0)) => ?_)
      · rw [if_pos c20] at eF21
        replace qr156 := qr156.1 c20
        refine x_iconst (pc := 172) (v := (0 : Int32)) dX5_takesItem_172 (by decide) ?_
        subst eF21
        exact J
      · rw [if_neg c20] at eF21
        replace qr156 := qr156.2 c20
        refine x_iconst (pc := 168) (v := (1 : Int32)) dX5_takesItem_168 (by decide) ?_
        refine x_goto (pc := 169) (tgt := 173) dX5_takesItem_169 (by decide) ?_
        subst eF21
        exact J
  subst er
  exact x_iret (pc := 173) dX5_takesItem_173 rfl (xb_nar bF21_1) rfl rfl ⟨rfl, rfl⟩
theorem B_X5_takesItem (m tr tx : Nat → Int32) : xB (f_X5_takesItem m tr tx).1 := by
  unfold f_X5_takesItem
  exact (xB_fst (Bg_X5_takesItem_156 _ _ _))

def l_X5_reads_9 : Nat → (Nat → Int32) → (Nat → Int32) → (Nat → Int32) → (Nat → Int32) → (Nat → Int32) → Int32 × (Nat → Int32) × (Nat → Int32)
  | 0, _, _, _, _, _ => (0, (fun _ => 0), (fun _ => 0))
  | n + 1, m, tr, tx, x_o, x_rd => (if (x_o 1) ≤ (x_o 2) then ((-4 : Int32), x_o, x_rd) else (if (f_X5_takesItem x_o x_rd tx).1 = 0 then ((x_o 2), (f_X5_takesItem x_o x_rd tx).2.1, (f_X5_takesItem x_o x_rd tx).2.2) else (l_X5_reads_9 n m tr tx (f_X5_takesItem x_o x_rd tx).2.1 (f_X5_takesItem x_o x_rd tx).2.2)))
def q_X5_reads_9 : Nat → (Nat → Int32) → (Nat → Int32) → (Nat → Int32) → (Nat → Int32) → (Nat → Int32) → Prop
  | 0, _, _, _, _, _ => False
  | n + 1, m, tr, tx, x_o, x_rd => (((x_o 1) ≤ (x_o 2) → True) ∧ (¬ ((x_o 1) ≤ (x_o 2)) → (p_X5_takesItem x_o x_rd tx ∧ (((f_X5_takesItem x_o x_rd tx).1 = 0 → True) ∧ (¬ ((f_X5_takesItem x_o x_rd tx).1 = 0) → (q_X5_reads_9 n m tr tx (f_X5_takesItem x_o x_rd tx).2.1 (f_X5_takesItem x_o x_rd tx).2.2))))))
set_option maxRecDepth 100000 in
set_option maxHeartbeats 4000000 in
theorem L_X5_reads_9 (G : xG) (h : xH) (o nw rd sd pa xt : Nat) (m tr tx : Nat → Int32) (k_o : hAt h o = some (moC nw rd sd pa xt m)) (k_rd : hAt h rd = some (arI 103 tr)) (k_xt : hAt h xt = some (arI 240 tx)) (n_rd_xt : rd ≠ xt) : ∀ (n : Nat) (x_o : (Nat → Int32)) (x_rd : (Nat → Int32)), q_X5_reads_9 n m tr tx x_o x_rd → Wp G yX5_reads.cls cX5_reads 2 yX5_reads.name (some .int) (xR 7 0 0) (xZd G (some (.int (l_X5_reads_9 n m tr tx x_o x_rd).1)) (hSet (hSet h o (moC nw rd sd pa xt (l_X5_reads_9 n m tr tx x_o x_rd).2.1)) rd (arI 103 (l_X5_reads_9 n m tr tx x_o x_rd).2.2))) 0 0 9 [(0, .ref o)] [] (hSet (hSet h o (moC nw rd sd pa xt x_o)) rd (arI 103 x_rd)) := by
  have n_o_rd : o ≠ rd := hne_k k_o k_rd rfl
  have n_xt_o : xt ≠ o := hne_k k_xt k_o rfl
  have n_xt_rd : xt ≠ rd := Ne.symm n_rd_xt
  intro n
  induction n with
  | zero => intro x_o x_rd hp; exact absurd hp id
  | succ n ih =>
    intro x_o x_rd hp
    obtain ⟨R, er⟩ : ∃ R, l_X5_reads_9 (n + 1) m tr tx x_o x_rd = R := ⟨_, rfl⟩
    rw [er]
    rw [l_X5_reads_9] at er
    rw [q_X5_reads_9] at hp
    refine x_aload_n (pc := 9) dX5_reads_9 rfl ?_
    refine x_getf (pc := 10) (v := .int (x_o 2)) dX5_reads_10 xf_X5_51 (hAt_n n_o_rd hAt_same) rfl ?_
    refine x_aload_n (pc := 13) dX5_reads_13 rfl ?_
    refine x_getf (pc := 14) (v := .int (x_o 1)) dX5_reads_14 xf_X5_54 (hAt_n n_o_rd hAt_same) rfl ?_
    refine x_icmp_ge (pc := 17) (tgt := 37) dX5_reads_17 (by decide) (fun (c1 : (x_o 1) ≤ (x_o 2)) => ?_) (fun (c1 : ¬ ((x_o 1) ≤ (x_o 2))) => ?_)
    · rw [if_pos c1] at er
      replace hp := hp.1 c1
      refine x_bipush (pc := 37) (v := (-4 : Int32)) dX5_reads_37 (by decide) ?_
      subst er
      exact x_iret (pc := 39) dX5_reads_39 rfl rfl rfl rfl ⟨rfl, rfl⟩
    · rw [if_neg c1] at er
      replace hp := hp.2 c1
      refine x_aload_n (pc := 20) dX5_reads_20 rfl ?_
      refine x_getf (pc := 21) (v := .int (x_o 2)) dX5_reads_21 xf_X5_51 (hAt_n n_o_rd hAt_same) rfl ?_
      refine x_istore_n (pc := 24) (L' := [(1, .int (x_o 2)), (0, .ref o)]) dX5_reads_24 rfl rfl ?_
      refine x_aload_n (pc := 25) dX5_reads_25 rfl ?_
      obtain ⟨q26, hp⟩ := hp
      refine x_cV0i (pc := 26) dX5_reads_26 xl_X5_123 xv_X5_takesItem (hAt_n n_o_rd hAt_same) rfl (C_X5_takesItem G _ o nw rd sd pa xt x_o x_rd tx (hAt_n n_o_rd hAt_same) hAt_same (hAt_n n_xt_rd (hAt_n n_xt_o k_xt)) n_rd_xt q26) rfl rfl rfl ?_
      obtain ⟨F2, eF2⟩ : ∃ F, f_X5_takesItem x_o x_rd tx = F := ⟨_, rfl⟩
      rw [eF2]
      try rw [eF2] at er
      try rw [eF2] at hp
      have bF2_1 : xB F2.1 := by rw [← eF2]; exact (B_X5_takesItem _ _ _)
      refine Wp.eqh (h' := (hSet (hSet h o (moC nw rd sd pa xt F2.2.1)) rd (arI 103 F2.2.2))) ((congrArg (fun z => hSet z rd _) (hSet_sw1 n_o_rd)).trans (hSet_set)) ?_
      refine x_if_ne (pc := 29) (tgt := 34) dX5_reads_29 (by decide) (fun (c2 : ¬ (F2.1 = 0)) => ?_) (fun (c2 : F2.1 = 0) => ?_)
      · rw [if_neg c2] at er
        replace hp := hp.2 c2
        refine x_goto (pc := 34) (tgt := 9) dX5_reads_34 (by decide) ?_
        subst er
        refine Wp.sub [1] (L' := [(0, .ref o)]) rfl ?_
        exact ih F2.2.1 F2.2.2 hp
      · rw [if_pos c2] at er
        replace hp := hp.1 c2
        refine x_iload_n (pc := 32) dX5_reads_32 rfl ?_
        subst er
        exact x_iret (pc := 33) dX5_reads_33 rfl rfl rfl rfl ⟨rfl, rfl⟩
def f_X5_reads (m tr tx : Nat → Int32) : Int32 × (Nat → Int32) × (Nat → Int32) := (l_X5_reads_9 xK m tr tx (upd m 2 (0 : Int32)) (f_X5_begins m tr))
def p_X5_reads (m tr tx : Nat → Int32) : Prop := (p_X5_begins m tr ∧ (q_X5_reads_9 xK m tr tx (upd m 2 (0 : Int32)) (f_X5_begins m tr)))
set_option maxRecDepth 100000 in
set_option maxHeartbeats 4000000 in
theorem C_X5_reads (G : xG) (h : xH) (o nw rd sd pa xt : Nat) (m tr tx : Nat → Int32) (k_o : hAt h o = some (moC nw rd sd pa xt m)) (k_rd : hAt h rd = some (arI 103 tr)) (k_xt : hAt h xt = some (arI 240 tx)) (n_rd_xt : rd ≠ xt) (hp : p_X5_reads m tr tx) : Cd G 7 yX5_reads cX5_reads 2 (some .int) [.ref o] h (some (.int (f_X5_reads m tr tx).1)) (hSet (hSet h o (moC nw rd sd pa xt (f_X5_reads m tr tx).2.1)) rd (arI 103 (f_X5_reads m tr tx).2.2)) := by
  have n_o_rd : o ≠ rd := hne_k k_o k_rd rfl
  have n_xt_o : xt ≠ o := hne_k k_xt k_o rfl
  have n_xt_rd : xt ≠ rd := Ne.symm n_rd_xt
  refine Ct.of (by decide) (by rfl) ?_
  refine Wp.eqs (L' := [(0, .ref o)]) (st' := []) rfl rfl ?_
  refine Wp.eqh (h' := (hSet (hSet h o (moC nw rd sd pa xt m)) rd (arI 103 tr))) (by rw [hSet_self k_o, hSet_self k_rd]) ?_
  obtain ⟨R, er⟩ : ∃ R, f_X5_reads m tr tx = R := ⟨_, rfl⟩
  rw [er]
  unfold f_X5_reads at er
  unfold p_X5_reads at hp
  refine x_aload_n (pc := 0) dX5_reads_0 rfl ?_
  obtain ⟨q1, hp⟩ := hp
  refine x_cV0v (pc := 1) dX5_reads_1 xl_X5_25 xv_X5_begins (hAt_n n_o_rd hAt_same) rfl (C_X5_begins G _ o nw rd sd pa xt m tr (hAt_n n_o_rd hAt_same) hAt_same q1) rfl rfl rfl ?_
  obtain ⟨F1, eF1⟩ : ∃ F, f_X5_begins m tr = F := ⟨_, rfl⟩
  rw [eF1]
  try rw [eF1] at er
  try rw [eF1] at hp
  refine Wp.eqh (h' := (hSet (hSet h o (moC nw rd sd pa xt m)) rd (arI 103 F1))) (hSet_set) ?_
  refine x_aload_n (pc := 4) dX5_reads_4 rfl ?_
  refine x_iconst (pc := 5) (v := (0 : Int32)) dX5_reads_5 (by decide) ?_
  refine x_putf (pc := 6) (e' := moC nw rd sd pa xt (upd m 2 (0 : Int32))) dX5_reads_6 xf_X5_51 (hAt_n n_o_rd hAt_same) rfl rfl rfl rfl ?_
  refine Wp.eqh (h' := (hSet (hSet h o (moC nw rd sd pa xt (upd m 2 (0 : Int32)))) rd (arI 103 F1))) (hSet_sw1 n_o_rd) ?_
  subst er
  exact L_X5_reads_9 G h o nw rd sd pa xt m tr tx k_o k_rd k_xt n_rd_xt xK (upd m 2 (0 : Int32)) F1 hp

def f_X5_write (m tx : Nat → Int32) (letter : Int32) : Int32 × (Nat → Int32) × (Nat → Int32) := (if (f_X5_in letter (32 : Int32) (126 : Int32)) = 0 then ((-1 : Int32), m, tx) else (if (m 1) = (240 : Int32) then ((-3 : Int32), m, tx) else (((upd m 1 ((m 1) + (1 : Int32))) 1), (upd m 1 ((m 1) + (1 : Int32))), (upd tx ((m 1).toNatClampNeg) letter))))
def p_X5_write (m tx : Nat → Int32) (letter : Int32) : Prop := (((f_X5_in letter (32 : Int32) (126 : Int32)) = 0 → True) ∧ (¬ ((f_X5_in letter (32 : Int32) (126 : Int32)) = 0) → (((m 1) = (240 : Int32) → True) ∧ (¬ ((m 1) = (240 : Int32)) → (vp_in (m 1) 240 ∧ True)))))
set_option maxRecDepth 100000 in
set_option maxHeartbeats 4000000 in
theorem C_X5_write (G : xG) (h : xH) (o nw rd sd pa xt : Nat) (m tx : Nat → Int32) (letter : Int32) (k_o : hAt h o = some (moC nw rd sd pa xt m)) (k_xt : hAt h xt = some (arI 240 tx)) (hp : p_X5_write m tx letter) : Cd G 1 yX5_write cX5_write 2 (some .int) [.ref o, .int letter] h (some (.int (f_X5_write m tx letter).1)) (hSet (hSet h o (moC nw rd sd pa xt (f_X5_write m tx letter).2.1)) xt (arI 240 (f_X5_write m tx letter).2.2)) := by
  have n_o_xt : o ≠ xt := hne_k k_o k_xt rfl
  refine Ct.of (by decide) (by rfl) ?_
  refine Wp.eqs (L' := [(0, .ref o), (1, .int letter)]) (st' := []) rfl rfl ?_
  refine Wp.eqh (h' := (hSet (hSet h o (moC nw rd sd pa xt m)) xt (arI 240 tx))) (by rw [hSet_self k_o, hSet_self k_xt]) ?_
  obtain ⟨R, er⟩ : ∃ R, f_X5_write m tx letter = R := ⟨_, rfl⟩
  rw [er]
  unfold f_X5_write at er
  unfold p_X5_write at hp
  refine x_iload_n (pc := 0) dX5_write_0 rfl ?_
  refine x_bipush (pc := 1) (v := (32 : Int32)) dX5_write_1 (by decide) ?_
  refine x_bipush (pc := 3) (v := (126 : Int32)) dX5_write_3 (by decide) ?_
  refine x_cS3i (pc := 5) dX5_write_5 xl_X5_57 xs_X5_in (C_X5_in G _ letter (32 : Int32) (126 : Int32)) rfl rfl rfl ?_
  obtain ⟨F1, eF1⟩ : ∃ F, f_X5_in letter (32 : Int32) (126 : Int32) = F := ⟨_, rfl⟩
  rw [eF1]
  try rw [eF1] at er
  try rw [eF1] at hp
  have bF1 : xB F1 := by rw [← eF1]; exact (B_X5_in _ _ _)
  refine x_if_ne (pc := 8) (tgt := 13) dX5_write_8 (by decide) (fun (c1 : ¬ (F1 = 0)) => ?_) (fun (c1 : F1 = 0) => ?_)
  · rw [if_neg c1] at er
    replace hp := hp.2 c1
    refine x_aload_n (pc := 13) dX5_write_13 rfl ?_
    refine x_getf (pc := 14) (v := .int (m 1)) dX5_write_14 xf_X5_54 (hAt_n n_o_xt hAt_same) rfl ?_
    refine x_sipush (pc := 17) (v := (240 : Int32)) dX5_write_17 (by decide) ?_
    refine x_icmp_ne (pc := 20) (tgt := 26) dX5_write_20 (by decide) (fun (c2 : ¬ ((m 1) = (240 : Int32))) => ?_) (fun (c2 : (m 1) = (240 : Int32)) => ?_)
    · rw [if_neg c2] at er
      replace hp := hp.2 c2
      refine x_aload_n (pc := 26) dX5_write_26 rfl ?_
      refine x_getf (pc := 27) (v := .ref xt) dX5_write_27 xf_X5_22 (hAt_n n_o_xt hAt_same) rfl ?_
      refine x_aload_n (pc := 30) dX5_write_30 rfl ?_
      refine x_getf (pc := 31) (v := .int (m 1)) dX5_write_31 xf_X5_54 (hAt_n n_o_xt hAt_same) rfl ?_
      refine x_iload_n (pc := 34) dX5_write_34 rfl ?_
      obtain ⟨q35, hp⟩ := hp
      refine x_iast (pc := 35) (e' := arI 240 (upd tx ((m 1).toNatClampNeg) letter)) dX5_write_35 hAt_same q35 (j := ((m 1).toNatClampNeg)) rfl rfl ?_
      refine Wp.eqh (h' := (hSet (hSet h o (moC nw rd sd pa xt m)) xt (arI 240 (upd tx ((m 1).toNatClampNeg) letter)))) (hSet_set) ?_
      refine x_aload_n (pc := 36) dX5_write_36 rfl ?_
      refine x_dup (pc := 37) dX5_write_37 rfl ?_
      refine x_getf (pc := 38) (v := .int (m 1)) dX5_write_38 xf_X5_54 (hAt_n n_o_xt hAt_same) rfl ?_
      refine x_iconst (pc := 41) (v := (1 : Int32)) dX5_write_41 (by decide) ?_
      refine x_iadd (pc := 42) dX5_write_42 ?_
      refine x_putf (pc := 43) (e' := moC nw rd sd pa xt (upd m 1 ((m 1) + (1 : Int32)))) dX5_write_43 xf_X5_54 (hAt_n n_o_xt hAt_same) rfl rfl rfl rfl ?_
      refine Wp.eqh (h' := (hSet (hSet h o (moC nw rd sd pa xt (upd m 1 ((m 1) + (1 : Int32))))) xt (arI 240 (upd tx ((m 1).toNatClampNeg) letter)))) (hSet_sw1 n_o_xt) ?_
      refine x_aload_n (pc := 46) dX5_write_46 rfl ?_
      refine x_getf (pc := 47) (v := .int ((upd m 1 ((m 1) + (1 : Int32))) 1)) dX5_write_47 xf_X5_54 (hAt_n n_o_xt hAt_same) rfl ?_
      subst er
      exact x_iret (pc := 50) dX5_write_50 rfl rfl rfl rfl ⟨rfl, rfl⟩
    · rw [if_pos c2] at er
      replace hp := hp.1 c2
      refine x_bipush (pc := 23) (v := (-3 : Int32)) dX5_write_23 (by decide) ?_
      subst er
      exact x_iret (pc := 25) dX5_write_25 rfl rfl rfl rfl ⟨rfl, rfl⟩
  · rw [if_pos c1] at er
    replace hp := hp.1 c1
    refine x_iconst (pc := 11) (v := (-1 : Int32)) dX5_write_11 (by decide) ?_
    subst er
    exact x_iret (pc := 12) dX5_write_12 rfl rfl rfl rfl ⟨rfl, rfl⟩
