/-! PURE. Part 26: nets: copies, sums, the ring -/
def CW (a b : Nat → Int32) : Prop := (∀ k, k < 12 → a k = b k) ∧ a 24 = b 24
theorem WI.congr {w w' r r' : Nat → Int32} (h : WI w r) (e : ∀ k, k < 6 → w' k = w k) (er : ∀ k, k < 3 → r' k = r k) : WI w' r' := by
  unfold WI
  rw [e 0 (by decide), e 1 (by decide), e 2 (by decide), e 3 (by decide), e 4 (by decide), e 5 (by decide), er 0 (by decide), er 1 (by decide), er 2 (by decide)]
  exact h
theorem AR.copy {N : Nat} {W2 LF2 KF2 W' L' K' : Nat → Nat → Int32} {r2 r' tn : Nat → Int32} (h : AR N W2 LF2 KF2 r2 tn) (e : ∀ i, i < N → CW (W' i) (W2 i) ∧ (∀ k, k < 6 → L' i k = LF2 i k) ∧ (∀ k, k < 6 → K' i k = KF2 i k)) (er : ∀ k, k < 5 → r' k = r2 k) : AR N W' L' K' r' tn := by
  refine ⟨h.1, fun k hk => by rw [er k hk]; exact h.2.1 k hk, fun i hi => ?_⟩
  obtain ⟨H, hH, ⟨h1, h2, h3, h4, h5⟩, hw⟩ := h.2.2 i hi
  obtain ⟨⟨c1, c2⟩, c3, c4⟩ := e i hi
  refine ⟨H, hH, ⟨fun k hk => by rw [c1 k hk]; exact h1 k hk, by rw [c2]; exact h2, by rw [c1 11 (by decide)]; exact h3, fun k hk => by rw [c3 k (by omega)]; exact h4 k hk, fun k hk => by rw [c4 k (by omega)]; exact h5 k hk⟩, WI.congr hw (fun k hk => c1 k (by omega)) (fun k hk => er k (by omega))⟩
theorem AR.row {N : Nat} (hN : N ≤ 4) {W LF KF : Nat → Nat → Int32} {r tn tn' : Nat → Int32} (h : AR N W LF KF r tn) (e : ∀ q, q < 103 → tn' q = tn q) : AR N W LF KF r tn' := by
  refine ⟨by rw [e 0 (by decide)]; exact h.1, fun k hk => by rw [e _ (by omega)]; exact h.2.1 k hk, fun i hi => ?_⟩
  obtain ⟨H, hH, ⟨h1, h2, h3, h4, h5⟩, hw⟩ := h.2.2 i hi
  exact ⟨H, hH, ⟨fun k hk => by rw [e _ (by omega)]; exact h1 k hk, h2, h3, fun k hk => by rw [e _ (by omega)]; exact h4 k hk, fun k hk => by rw [e _ (by omega)]; exact h5 k hk⟩, hw⟩
def NR (r t : Nat → Int32) (W LF KF : Nat → Nat → Int32) (tn : Nat → Int32) : Prop := ∃ N, N ≤ 4 ∧ t 0 = nI N ∧ tn 1 = t 1 ∧ AR N W LF KF r tn
theorem NR.row {W LF KF : Nat → Nat → Int32} {r t tn tn' : Nat → Int32} (h : NR r t W LF KF tn) (e : ∀ q, q < 103 → tn' q = tn q) : NR r t W LF KF tn' := by
  obtain ⟨N, hN, h0, h1, h2⟩ := h
  exact ⟨N, hN, h0, by rw [e 1 (by decide)]; exact h1, AR.row hN h2 e⟩
theorem copyW {w lf kf w2 lf2 kf2 : Nat → Int32} : CW (f_X3_copy w lf kf w2 lf2 kf2).1 w2 ∧ (∀ k, k < 6 → (f_X3_copy w lf kf w2 lf2 kf2).2.1 k = lf2 k) ∧ (∀ k, k < 6 → (f_X3_copy w lf kf w2 lf2 kf2).2.2 k = kf2 k) := by
  unfold f_X3_copy
  refine ⟨⟨fun k hk => ?_, ?_⟩, fun k hk => ?_, fun k hk => ?_⟩
  · have : k = 0 ∨ k = 1 ∨ k = 2 ∨ k = 3 ∨ k = 4 ∨ k = 5 ∨ k = 6 ∨ k = 7 ∨ k = 8 ∨ k = 9 ∨ k = 10 ∨ k = 11 := by omega
    rcases this with e | e | e | e | e | e | e | e | e | e | e | e <;> subst e <;> simp +decide only [upd, ↓reduceIte]
  · simp +decide only [upd, ↓reduceIte]
  · show va_cpy lf2 lf 0 0 6 k = lf2 k
    rw [pk_cpy_in (by omega) (by omega)]
    exact congrArg lf2 (by omega)
  · show va_cpy kf2 kf 0 0 6 k = kf2 k
    rw [pk_cpy_in (by omega) (by omega)]
    exact congrArg kf2 (by omega)
theorem copyR {r r2 : Nat → Int32} : ∀ k, k < 5 → (f_X1_copy r r2) k = r2 k := by
  intro k hk
  unfold f_X1_copy
  have : k = 0 ∨ k = 1 ∨ k = 2 ∨ k = 3 ∨ k = 4 := by omega
  rcases this with e | e | e | e | e <;> subst e <;> simp +decide only [upd, ↓reduceIte]
theorem va_s {F : Nat → Nat → Int32} {i : Nat} {x : Nat → Int32} : va_up F i x i = x := by simp [va_up]
theorem va_o {F : Nat → Nat → Int32} {i j : Nat} {x : Nat → Int32} (h : j ≠ i) : va_up F i x j = F j := by simp [va_up, h]
theorem copyL {N : Nat} (hN : N ≤ 4) {r t r2 t2 xr : Nat → Int32} {W LF KF W2 LF2 KF2 : Nat → Nat → Int32} (ht : t2 0 = nI N) : ∀ (n v fuel : Nat) (XW XL XK : Nat → Nat → Int32), v + n = N → n < fuel → ∃ W' L' K', l_X0_copy_13 fuel r t W LF KF r2 t2 W2 LF2 KF2 xr (nI v) XW XL XK = (xr, nI N, W', L', K') ∧ q_X0_copy_13 fuel r t W LF KF r2 t2 W2 LF2 KF2 xr (nI v) XW XL XK ∧ (∀ i, v ≤ i → i < N → CW (W' i) (W2 i) ∧ (∀ k, k < 6 → L' i k = LF2 i k) ∧ (∀ k, k < 6 → K' i k = KF2 i k)) ∧ (∀ i, i < v → W' i = XW i ∧ L' i = XL i ∧ K' i = XK i) := by
  intro n
  induction n with
  | zero =>
    intro v fuel XW XL XK e hf
    obtain ⟨f, rfl⟩ : ∃ f, fuel = f + 1 := ⟨fuel - 1, by omega⟩
    have ej : v = N := by omega
    subst ej
    have c : t2 0 ≤ nI v := by rw [ht]; exact nI_le (Nat.le_refl _) (by omega)
    rw [l_X0_copy_13, q_X0_copy_13, if_pos c]
    exact ⟨XW, XL, XK, rfl, ⟨fun _ => trivial, fun z => absurd c z⟩, fun i h1 h2 => absurd h2 (by omega), fun i _ => ⟨rfl, rfl, rfl⟩⟩
  | succ n ih =>
    intro v fuel XW XL XK e hf
    obtain ⟨f, rfl⟩ : ∃ f, fuel = f + 1 := ⟨fuel - 1, by omega⟩
    have c : ¬ (t2 0 ≤ nI v) := by rw [ht]; exact nI_ge (by omega) (by omega)
    have hc : (nI v).toNatClampNeg = v := nI_clamp (by omega)
    have hv : vp_in (nI v) 4 := vp_in_nI (by omega) (by omega)
    rw [l_X0_copy_13, q_X0_copy_13, if_neg c, hc, nI_1]
    obtain ⟨W', L', K', g1, g2, g3, g4⟩ := ih (v + 1) f _ _ _ (by omega) (by omega)
    refine ⟨W', L', K', g1, ⟨fun z => absurd z c, fun _ => ⟨hv, hv, g2⟩⟩, fun i h1 h2 => ?_, fun i hi => ?_⟩
    · by_cases d : i = v
      · subst d
        obtain ⟨e1, e2, e3⟩ := g4 i (by omega)
        rw [va_s] at e1 e2 e3
        rw [e1, e2, e3]
        exact copyW
      · exact g3 i (by omega) h2
    · obtain ⟨e1, e2, e3⟩ := g4 i (by omega)
      rw [va_o (by omega)] at e1 e2 e3
      exact ⟨e1, e2, e3⟩
theorem NR.copy {r t r2 t2 tn : Nat → Int32} {W LF KF W2 LF2 KF2 : Nat → Nat → Int32} (h : NR r2 t2 W2 LF2 KF2 tn) : p_X0_copy r t W LF KF r2 t2 W2 LF2 KF2 ∧ NR (f_X0_copy r t W LF KF r2 t2 W2 LF2 KF2).1 (f_X0_copy r t W LF KF r2 t2 W2 LF2 KF2).2.1 (f_X0_copy r t W LF KF r2 t2 W2 LF2 KF2).2.2.1 (f_X0_copy r t W LF KF r2 t2 W2 LF2 KF2).2.2.2.1 (f_X0_copy r t W LF KF r2 t2 W2 LF2 KF2).2.2.2.2 tn := by
  obtain ⟨N, hN, h0, h1, h2⟩ := h
  obtain ⟨W', L', K', g1, g2, g3, g4⟩ := copyL (r := r) (t := t) (W := W) (LF := LF) (KF := KF) (r2 := r2) (W2 := W2) (LF2 := LF2) (KF2 := KF2) (xr := f_X1_copy r r2) hN h0 N 0 xK W LF KF (by omega) (by unfold xK; omega)
  rw [nI_0] at g1 g2
  refine ⟨⟨g2, trivial⟩, ?_⟩
  unfold f_X0_copy
  rw [g1]
  refine ⟨N, hN, ?_, ?_, AR.copy h2 (fun i hi => g3 i (by omega) hi) copyR⟩
  · show upd (upd t 0 (t2 0)) 1 (t2 1) 0 = nI N
    rw [upd_o (by decide), upd_s, h0]
  · show tn 1 = upd (upd t 0 (t2 0)) 1 (t2 1) 1
    rw [upd_s, h1]
theorem cpL_A {ff gf : Nat → Int32} {a b : Nat} (ha : a + 103 ≤ 103) (hb : b + 103 ≤ 103) : ∀ (n v fuel : Nat) (x : Nat → Int32), v + n = 103 → n < fuel → (∀ q, (l_X5_copiesA_3 fuel ff gf (nI a) (nI b) (nI v) x).2 q = if b + v ≤ q ∧ q < b + 103 then ff (a + (q - b)) else x q) ∧ q_X5_copiesA_3 fuel ff gf (nI a) (nI b) (nI v) x := by
  intro n
  induction n with
  | zero =>
    intro v fuel x e hf
    obtain ⟨f, rfl⟩ : ∃ f, fuel = f + 1 := ⟨fuel - 1, by omega⟩
    have c : (103 : Int32) ≤ nI v := nI_le (a := 103) (b := v) (by omega) (by omega)
    rw [l_X5_copiesA_3, q_X5_copiesA_3, if_pos c]
    exact ⟨fun q => by rw [if_neg (by omega)], fun _ => trivial, fun z => absurd c z⟩
  | succ n ih =>
    intro v fuel x e hf
    obtain ⟨f, rfl⟩ : ∃ f, fuel = f + 1 := ⟨fuel - 1, by omega⟩
    have c : ¬ ((103 : Int32) ≤ nI v) := nI_ge (a := v) (b := 103) (by omega) (by omega)
    have h1 : (nI a + nI v).toNatClampNeg = a + v := by rw [nI_add]; exact nI_clamp (by omega)
    have h2 : (nI b + nI v).toNatClampNeg = b + v := by rw [nI_add]; exact nI_clamp (by omega)
    have v1 : vp_in (nI a + nI v) 103 := by rw [nI_add]; exact vp_in_nI (by omega) (by omega)
    have v2 : vp_in (nI b + nI v) 103 := by rw [nI_add]; exact vp_in_nI (by omega) (by omega)
    rw [l_X5_copiesA_3, q_X5_copiesA_3, if_neg c, h1, h2, nI_1]
    obtain ⟨g1, g2⟩ := ih (v + 1) f (upd x (b + v) (ff (a + v))) (by omega) (by omega)
    refine ⟨fun q => ?_, fun z => absurd z c, fun _ => ⟨v1, v2, g2⟩⟩
    rw [g1 q]
    by_cases d : b + (v + 1) ≤ q ∧ q < b + 103
    · rw [if_pos d, if_pos (by omega)]
    · rw [if_neg d]
      by_cases d2 : q = b + v
      · subst d2
        rw [upd_s, if_pos (by omega)]
        exact congrArg ff (by omega)
      · rw [upd_o d2, if_neg (by omega)]
theorem cp_A {ff gf : Nat → Int32} {a b : Nat} {x y : Int32} (hx : x = nI a) (hy : y = nI b) (ha : a + 103 ≤ 103) (hb : b + 103 ≤ 103) : (∀ q, (f_X5_copiesA ff gf x y) q = if b ≤ q ∧ q < b + 103 then ff (a + (q - b)) else gf q) ∧ p_X5_copiesA ff gf x y := by
  subst hx
  subst hy
  obtain ⟨g1, g2⟩ := cpL_A (ff := ff) (gf := gf) ha hb 103 0 xK gf (by omega) (by unfold xK; omega)
  rw [nI_0] at g1 g2
  exact ⟨fun q => by rw [Nat.add_zero] at g1; exact g1 q, g2, trivial⟩
theorem cpL_B {ff gf : Nat → Int32} {a b : Nat} (ha : a + 103 ≤ 103) (hb : b + 103 ≤ 412) : ∀ (n v fuel : Nat) (x : Nat → Int32), v + n = 103 → n < fuel → (∀ q, (l_X5_copiesB_3 fuel ff gf (nI a) (nI b) (nI v) x).2 q = if b + v ≤ q ∧ q < b + 103 then ff (a + (q - b)) else x q) ∧ q_X5_copiesB_3 fuel ff gf (nI a) (nI b) (nI v) x := by
  intro n
  induction n with
  | zero =>
    intro v fuel x e hf
    obtain ⟨f, rfl⟩ : ∃ f, fuel = f + 1 := ⟨fuel - 1, by omega⟩
    have c : (103 : Int32) ≤ nI v := nI_le (a := 103) (b := v) (by omega) (by omega)
    rw [l_X5_copiesB_3, q_X5_copiesB_3, if_pos c]
    exact ⟨fun q => by rw [if_neg (by omega)], fun _ => trivial, fun z => absurd c z⟩
  | succ n ih =>
    intro v fuel x e hf
    obtain ⟨f, rfl⟩ : ∃ f, fuel = f + 1 := ⟨fuel - 1, by omega⟩
    have c : ¬ ((103 : Int32) ≤ nI v) := nI_ge (a := v) (b := 103) (by omega) (by omega)
    have h1 : (nI a + nI v).toNatClampNeg = a + v := by rw [nI_add]; exact nI_clamp (by omega)
    have h2 : (nI b + nI v).toNatClampNeg = b + v := by rw [nI_add]; exact nI_clamp (by omega)
    have v1 : vp_in (nI a + nI v) 103 := by rw [nI_add]; exact vp_in_nI (by omega) (by omega)
    have v2 : vp_in (nI b + nI v) 412 := by rw [nI_add]; exact vp_in_nI (by omega) (by omega)
    rw [l_X5_copiesB_3, q_X5_copiesB_3, if_neg c, h1, h2, nI_1]
    obtain ⟨g1, g2⟩ := ih (v + 1) f (upd x (b + v) (ff (a + v))) (by omega) (by omega)
    refine ⟨fun q => ?_, fun z => absurd z c, fun _ => ⟨v1, v2, g2⟩⟩
    rw [g1 q]
    by_cases d : b + (v + 1) ≤ q ∧ q < b + 103
    · rw [if_pos d, if_pos (by omega)]
    · rw [if_neg d]
      by_cases d2 : q = b + v
      · subst d2
        rw [upd_s, if_pos (by omega)]
        exact congrArg ff (by omega)
      · rw [upd_o d2, if_neg (by omega)]
theorem cp_B {ff gf : Nat → Int32} {a b : Nat} {x y : Int32} (hx : x = nI a) (hy : y = nI b) (ha : a + 103 ≤ 103) (hb : b + 103 ≤ 412) : (∀ q, (f_X5_copiesB ff gf x y) q = if b ≤ q ∧ q < b + 103 then ff (a + (q - b)) else gf q) ∧ p_X5_copiesB ff gf x y := by
  subst hx
  subst hy
  obtain ⟨g1, g2⟩ := cpL_B (ff := ff) (gf := gf) ha hb 103 0 xK gf (by omega) (by unfold xK; omega)
  rw [nI_0] at g1 g2
  exact ⟨fun q => by rw [Nat.add_zero] at g1; exact g1 q, g2, trivial⟩
theorem cpL_C {ff gf : Nat → Int32} {a b : Nat} (ha : a + 103 ≤ 412) (hb : b + 103 ≤ 103) : ∀ (n v fuel : Nat) (x : Nat → Int32), v + n = 103 → n < fuel → (∀ q, (l_X5_copiesC_3 fuel ff gf (nI a) (nI b) (nI v) x).2 q = if b + v ≤ q ∧ q < b + 103 then ff (a + (q - b)) else x q) ∧ q_X5_copiesC_3 fuel ff gf (nI a) (nI b) (nI v) x := by
  intro n
  induction n with
  | zero =>
    intro v fuel x e hf
    obtain ⟨f, rfl⟩ : ∃ f, fuel = f + 1 := ⟨fuel - 1, by omega⟩
    have c : (103 : Int32) ≤ nI v := nI_le (a := 103) (b := v) (by omega) (by omega)
    rw [l_X5_copiesC_3, q_X5_copiesC_3, if_pos c]
    exact ⟨fun q => by rw [if_neg (by omega)], fun _ => trivial, fun z => absurd c z⟩
  | succ n ih =>
    intro v fuel x e hf
    obtain ⟨f, rfl⟩ : ∃ f, fuel = f + 1 := ⟨fuel - 1, by omega⟩
    have c : ¬ ((103 : Int32) ≤ nI v) := nI_ge (a := v) (b := 103) (by omega) (by omega)
    have h1 : (nI a + nI v).toNatClampNeg = a + v := by rw [nI_add]; exact nI_clamp (by omega)
    have h2 : (nI b + nI v).toNatClampNeg = b + v := by rw [nI_add]; exact nI_clamp (by omega)
    have v1 : vp_in (nI a + nI v) 412 := by rw [nI_add]; exact vp_in_nI (by omega) (by omega)
    have v2 : vp_in (nI b + nI v) 103 := by rw [nI_add]; exact vp_in_nI (by omega) (by omega)
    rw [l_X5_copiesC_3, q_X5_copiesC_3, if_neg c, h1, h2, nI_1]
    obtain ⟨g1, g2⟩ := ih (v + 1) f (upd x (b + v) (ff (a + v))) (by omega) (by omega)
    refine ⟨fun q => ?_, fun z => absurd z c, fun _ => ⟨v1, v2, g2⟩⟩
    rw [g1 q]
    by_cases d : b + (v + 1) ≤ q ∧ q < b + 103
    · rw [if_pos d, if_pos (by omega)]
    · rw [if_neg d]
      by_cases d2 : q = b + v
      · subst d2
        rw [upd_s, if_pos (by omega)]
        exact congrArg ff (by omega)
      · rw [upd_o d2, if_neg (by omega)]
theorem cp_C {ff gf : Nat → Int32} {a b : Nat} {x y : Int32} (hx : x = nI a) (hy : y = nI b) (ha : a + 103 ≤ 412) (hb : b + 103 ≤ 103) : (∀ q, (f_X5_copiesC ff gf x y) q = if b ≤ q ∧ q < b + 103 then ff (a + (q - b)) else gf q) ∧ p_X5_copiesC ff gf x y := by
  subst hx
  subst hy
  obtain ⟨g1, g2⟩ := cpL_C (ff := ff) (gf := gf) ha hb 103 0 xK gf (by omega) (by unfold xK; omega)
  rw [nI_0] at g1 g2
  exact ⟨fun q => by rw [Nat.add_zero] at g1; exact g1 q, g2, trivial⟩
theorem shiftL {m tn tp : Nat → Int32} : ∀ (n v fuel : Nat) (x : Nat → Int32), v + n = 309 → n < fuel → (∀ q, (l_X5_keeps_10 fuel m tn tp (nI v) x).2 q = if v ≤ q ∧ q < 309 then x (q + 103) else x q) ∧ q_X5_keeps_10 fuel m tn tp (nI v) x := by
  intro n
  induction n with
  | zero =>
    intro v fuel x e hf
    obtain ⟨f, rfl⟩ : ∃ f, fuel = f + 1 := ⟨fuel - 1, by omega⟩
    have c : (309 : Int32) ≤ nI v := nI_le (a := 309) (b := v) (by omega) (by omega)
    rw [l_X5_keeps_10, q_X5_keeps_10, if_pos c]
    exact ⟨fun q => by rw [if_neg (by omega)], fun _ => trivial, fun z => absurd c z⟩
  | succ n ih =>
    intro v fuel x e hf
    obtain ⟨f, rfl⟩ : ∃ f, fuel = f + 1 := ⟨fuel - 1, by omega⟩
    have c : ¬ ((309 : Int32) ≤ nI v) := nI_ge (a := v) (b := 309) (by omega) (by omega)
    have e1 : nI v + (103 : Int32) = nI (v + 103) := nI_add v 103
    have h1 : (nI v + (103 : Int32)).toNatClampNeg = v + 103 := by rw [e1]; exact nI_clamp (by omega)
    have h2 : (nI v).toNatClampNeg = v := nI_clamp (by omega)
    have v1 : vp_in (nI v + (103 : Int32)) 412 := by rw [e1]; exact vp_in_nI (by omega) (by omega)
    have v2 : vp_in (nI v) 412 := vp_in_nI (by omega) (by omega)
    rw [l_X5_keeps_10, q_X5_keeps_10, if_neg c, h1, h2, nI_1]
    obtain ⟨g1, g2⟩ := ih (v + 1) f (upd x v (x (v + 103))) (by omega) (by omega)
    refine ⟨fun q => ?_, fun z => absurd z c, fun _ => ⟨v1, v2, g2⟩⟩
    rw [g1 q]
    by_cases d : v + 1 ≤ q ∧ q < 309
    · rw [if_pos d, if_pos (by omega), upd_o (by omega)]
    · rw [if_neg d]
      by_cases d2 : q = v
      · subst d2
        rw [upd_s, if_pos (by omega)]
      · rw [upd_o d2, if_neg (by omega)]
