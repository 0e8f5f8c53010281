/-! PURE. Part 38: letters written and wiped, the fault, laid -/
def TT (x lf m tx : Nat → Int32) : Prop := ∃ n c, x 0 = nI n ∧ m 1 = nI n ∧ TX c n lf ∧ TX c n tx
theorem TX.push {c : Nat → Nat} {n l : Nat} {lf : Nat → Int32} (h : TX c n lf) (hn : n < 240) (h1 : 32 ≤ l) (h2 : l ≤ 126) : TX (fun j => if j = n then l else c j) (n + 1) (upd lf n (nI l)) := by
  refine ⟨hn, fun j hj => ?_⟩
  by_cases q : j = n
  · subst q
    show upd lf j (nI l) j = nI (if j = j then l else c j) ∧ 32 ≤ (if j = j then l else c j) ∧ (if j = j then l else c j) ≤ 126
    rw [upd_s, if_pos rfl]
    exact ⟨rfl, h1, h2⟩
  · show upd lf n (nI l) j = nI (if j = n then l else c j) ∧ 32 ≤ (if j = n then l else c j) ∧ (if j = n then l else c j) ≤ 126
    rw [upd_o q, if_neg q]
    exact h.2 j (by omega)
theorem TT.xm {x lf m tx x' m' : Nat → Int32} (h : TT x lf m tx) (e1 : x' 0 = x 0) (e2 : m' 1 = m 1) : TT x' lf m' tx := by
  obtain ⟨n, c, h1, h2, h3, h4⟩ := h
  exact ⟨n, c, by rw [e1]; exact h1, by rw [e2]; exact h2, h3, h4⟩
theorem writeM {s x lf m tx : Nat → Int32} {l : Int32} (h : TT x lf m tx) : p_X4_write s x lf l ∧ p_X5_write m tx l ∧ ∃ a x' lf' m' tx', f_X4_write s x lf l = (a, x', lf') ∧ f_X5_write m tx l = (a, m', tx') ∧ TT x' lf' m' tx' ∧ m' 0 = m 0 := by
  have h' := h
  obtain ⟨n, c, hx, hm, ht, ht'⟩ := h
  have h240 := ht.1
  unfold p_X4_write p_X5_write f_X4_write f_X5_write
  rw [inB]
  by_cases a : l < (32 : Int32)
  · have b : f_X4_isBetween l (32 : Int32) (126 : Int32) = 0 := if_pos a
    rw [if_pos a, if_pos b]
    exact ⟨⟨fun _ => trivial, fun z => absurd a z⟩, ⟨fun _ => trivial, fun z => absurd b z⟩, _, _, _, _, _, rfl, rfl, h', rfl⟩
  · rw [if_neg a]
    by_cases d : l ≤ (126 : Int32)
    · have d' : ¬ ((126 : Int32) < l) := i_nlt.mpr d
      have b : ¬ (f_X4_isBetween l (32 : Int32) (126 : Int32) = 0) := by
        unfold f_X4_isBetween
        rw [if_neg a, if_neg d']; exact n10
      rw [if_pos d, if_neg b]
      obtain ⟨q, q1, q2⟩ := nI_of2 (x := l) (M := 126) (n := 126) rfl (fun z => a ((fa_lt _ _).mpr (by have := (fa_lt _ _).mp z; rw [z0] at this; have e32 : (32 : Int32).toInt = 32 := rfl; omega))) d
      have q3 : 32 ≤ q := by
        have a' : ¬ (l.toInt < (32 : Int32).toInt) := fun z => a ((fa_lt l 32).mpr z)
        rw [q2, nI_toInt (by omega)] at a'
        have e32 : (32 : Int32).toInt = 32 := rfl
        omega
      have ech : (l.toUInt32 % 65536).toInt32 = nI q := by
        rw [pk_char, q2, pk_tn (by omega), Nat.mod_eq_of_lt (by omega)]
      have ev : vp_nar .char (l.toUInt32 % 65536).toInt32 = nI q := by rw [pk_vc, ech]
      unfold p_X2_append f_X2_append g_X2_append_7 h_X2_append_7
      rw [ev, hx, hm]
      by_cases e : n < 240
      · have e1 : nI n < (240 : Int32) := nI_lt (b := 240) e (by decide)
        have e2 : ¬ ((240 : Int32) ≤ nI n) := nI_ge (b := 240) e (by decide)
        have e3 : ¬ (nI n = (240 : Int32)) := fun z => by have := (nI_eq (b := 240) (by omega) (by decide)).mp z; omega
        have hc : (nI n).toNatClampNeg = n := nI_clamp (by omega)
        have hv : vp_in (nI n) 240 := vp_in_nI e (by decide)
        rw [if_pos e1, if_neg e2, if_neg e3, hc, nI_1]
        refine ⟨⟨fun z => absurd z a, fun _ => ⟨fun _ => ⟨fun _ => ⟨⟨⟨fun z => absurd z e2, fun _ => ⟨hv, trivial⟩⟩, trivial⟩, trivial⟩, fun z => absurd e1 z⟩, fun z => absurd d z⟩⟩, ⟨fun z => absurd z b, fun _ => ⟨fun z => absurd z e3, fun _ => ⟨hv, trivial⟩⟩⟩, nI (n + 1), upd x 0 (nI (n + 1)), upd lf n (nI q), upd m 1 (nI (n + 1)), upd tx n (nI q), ?_, ?_, ⟨n + 1, fun j => if j = n then q else c j, upd_s, upd_s, TX.push ht e q3 q1, TX.push ht' e q3 q1⟩, upd_o (by decide)⟩
        · simp only [upd_s]
        · rw [upd_s, q2]
      · have e1 : ¬ (nI n < (240 : Int32)) := nI_nlt (b := 240) (by omega) (by omega)
        have e3 : nI n = (240 : Int32) := by rw [show n = 240 by omega]; rfl
        rw [if_neg e1, if_pos e3]
        exact ⟨⟨fun z => absurd z a, fun _ => ⟨fun _ => ⟨fun z => absurd z e1, fun _ => trivial⟩, fun z => absurd d z⟩⟩, ⟨fun z => absurd z b, fun _ => ⟨fun _ => trivial, fun z => absurd e3 z⟩⟩, _, _, _, _, _, rfl, rfl, h', rfl⟩
    · have d' : (126 : Int32) < l := i_nle.mp d
      have b : f_X4_isBetween l (32 : Int32) (126 : Int32) = 0 := by
        unfold f_X4_isBetween
        rw [if_neg a, if_pos d']
      rw [if_neg d, if_pos b]
      exact ⟨⟨fun z => absurd z a, fun _ => ⟨fun z => absurd z d, fun _ => trivial⟩⟩, ⟨fun _ => trivial, fun z => absurd b z⟩, _, _, _, _, _, rfl, rfl, h', rfl⟩
theorem wipeM {s x lf m tx : Nat → Int32} (h : TT x lf m tx) : ∃ a x' m', f_X4_wipe s x = (a, x') ∧ f_X5_wipe m = (a, m') ∧ TT x' lf m' tx ∧ m' 0 = m 0 := by
  obtain ⟨n, c, hx, hm, ht, ht'⟩ := h
  unfold f_X4_wipe f_X5_wipe
  rw [hx, hm]
  exact ⟨nI n, _, _, rfl, rfl, ⟨0, c, upd_s, upd_s, ⟨by decide, fun j hj => absurd hj (by omega)⟩, ⟨by decide, fun j hj => absurd hj (by omega)⟩⟩, upd_o (by decide)⟩
theorem faultM {s x lf m tx tr dr dt : Nat → Int32} {DW DL DK : Nat → Nat → Int32} (h : TT x lf m tx) : p_X4_fault s x lf dr dt DW DL DK ∧ p_X5_fault m tr tx ∧ ∃ a x' dr' dt' DW' DL' DK' m' tr', f_X4_fault s x lf dr dt DW DL DK = (a, x', dr', dt', DW', DL', DK') ∧ f_X5_fault m tr tx = (a, m', tr') ∧ TT x' lf m' tx ∧ m' 0 = m 0 := by
  have h' := h
  obtain ⟨n, c, hx, hm, ht, ht'⟩ := h
  obtain ⟨u1, u2, a, r', t', W', LF', KF', q, q', tr', e1, e2, _⟩ := readR (dr := dr) (dt := dt) (tr := tr) (DW := DW) (DL := DL) (DK := DK) ht ht' hx hm
  have hT : TT (upd x 1 (nI q)) lf (upd m 2 (nI q')) tx := TT.xm h' (upd_o (by decide)) (upd_o (by decide))
  have k0 : (upd m 2 (nI q')) 0 = m 0 := upd_o (by decide)
  unfold p_X4_fault p_X5_fault f_X4_fault f_X5_fault
  rw [e1, e2]
  exact ⟨⟨u1, trivial⟩, ⟨u2, trivial⟩, _, _, _, _, _, _, _, _, _, rfl, rfl, hT, k0⟩
theorem UR.zero {s s' m m' tp : Nat → Int32} {ER ET : Nat → Nat → Int32} {EW EL EK : Nat → Nat → Nat → Int32} (h : UR s ER ET EW EL EK m tp) (e0 : s' 0 = s 0) (e1 : s' 1 = 0) (e2 : m' 0 = 0) : UR s' ER ET EW EL EK m' tp := by
  obtain ⟨U, S, h1, h2, h3, h4, h5, h6⟩ := h
  exact ⟨0, S, by decide, h2, by rw [e0]; exact h3, e1, e2, fun c hc => absurd hc (by omega)⟩
theorem layM {s x lf r t m tn tx tr dr dt tp : Nat → Int32} {W LF KF DW DL DK ER ET : Nat → Nat → Int32} {EW EL EK : Nat → Nat → Nat → Int32} (hn : NR r t W LF KF tn) (hu : UR s ER ET EW EL EK m tp) (h : TT x lf m tx) : p_X4_lay s x lf r t W LF KF dr dt DW DL DK ∧ p_X5_lay m tn tr tx ∧ ∃ a s' x' r' t' W' LF' KF' dr' dt' DW' DL' DK' m' tn' tr', f_X4_lay s x lf r t W LF KF dr dt DW DL DK = (a, s', x', r', t', W', LF', KF', dr', dt', DW', DL', DK') ∧ f_X5_lay m tn tr tx = (a, m', tn', tr') ∧ NR r' t' W' LF' KF' tn' ∧ UR s' ER ET EW EL EK m' tp ∧ TT x' lf m' tx := by
  have h' := h
  obtain ⟨n, c, hx, hm, ht, ht'⟩ := h
  obtain ⟨u1, u2, a, r', t', W', LF', KF', q, q', tr', e1, e2, e3⟩ := readR (dr := dr) (dt := dt) (tr := tr) (DW := DW) (DL := DL) (DK := DK) ht ht' hx hm
  have hT : TT (upd x 1 (nI q)) lf (upd m 2 (nI q')) tx := TT.xm h' (upd_o (by decide)) (upd_o (by decide))
  have hU : UR s ER ET EW EL EK (upd m 2 (nI q')) tp := UR.m hu (upd_o (by decide))
  unfold p_X4_lay p_X5_lay f_X4_lay f_X5_lay
  rw [e1, e2]
  simp only
  rcases e3 with e3 | ⟨e3, e4⟩
  · rw [if_neg e3, if_neg e3]
    exact ⟨⟨u1, fun z => absurd z e3, fun _ => trivial⟩, ⟨u2, fun z => absurd z e3, fun _ => trivial⟩, _, _, _, _, _, _, _, _, _, _, _, _, _, _, _, _, rfl, rfl, hn, hU, hT⟩
  · rw [if_pos e3, if_pos e3]
    obtain ⟨v1, tn', tr'', v2, v3, v4, v5⟩ := takesR (m := upd m 2 (nI q')) (tn := tn) e4
    obtain ⟨w1, w2⟩ := NR.copy (r := r) (t := t) (W := W) (LF := LF) (KF := KF) v3
    rw [v5]
    by_cases b : t' 0 = 0
    · rw [if_pos b, if_pos b]
      exact ⟨⟨u1, fun _ => ⟨fun _ => trivial, fun z => absurd b z⟩, fun z => absurd e3 z⟩, ⟨u2, fun _ => ⟨fun _ => trivial, fun z => absurd b z⟩, fun z => absurd e3 z⟩, _, _, _, _, _, _, _, _, _, _, _, _, _, _, _, _, rfl, rfl, hn, hU, hT⟩
    · rw [if_neg b, if_neg b, v2]
      simp only
      have k0 : (f_X0_copy r t W LF KF r' t' W' LF' KF').2.1 0 = tn' 0 := by
        obtain ⟨N, _, k1, _, k2⟩ := w2
        rw [k1, k2.1]
      have hU' : UR (upd s 1 (0 : Int32)) ER ET EW EL EK (upd (upd m 2 (nI q')) 0 (0 : Int32)) tp := UR.zero hU (upd_o (by decide)) upd_s upd_s
      have hT' : TT (upd x 1 (nI q)) lf (upd (upd m 2 (nI q')) 0 (0 : Int32)) tx := TT.xm hT rfl (upd_o (by decide))
      rw [k0]
      exact ⟨⟨u1, fun _ => ⟨fun z => absurd z b, fun _ => ⟨w1, trivial⟩⟩, fun z => absurd e3 z⟩, ⟨u2, fun _ => ⟨fun z => absurd z b, fun _ => ⟨v1, trivial⟩⟩, fun z => absurd e3 z⟩, _, _, _, _, _, _, _, _, _, _, _, _, _, _, _, _, rfl, rfl, w2, hU', hT'⟩
