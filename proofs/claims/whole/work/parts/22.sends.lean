/-! PURE. Part 22: what a letter meets, and sending -/
theorem fb_rng (x : Int32) : -2147483648 ≤ x.toInt ∧ x.toInt < 2147483648 := by
  have h1 := Int32.le_toInt x
  have h2 := Int32.toInt_lt x
  omega
theorem fb_bmod {z : Int} (h1 : -2147483648 ≤ z) (h2 : z < 2147483648) : z.bmod (2 ^ 32) = z := by
  rw [Int.bmod_eq_of_le (by omega) (by omega)]
theorem fb_addI {x y : Int32} (h1 : -2147483648 ≤ x.toInt + y.toInt) (h2 : x.toInt + y.toInt < 2147483648) : (x + y).toInt = x.toInt + y.toInt := by
  rw [Int32.toInt_add, fb_bmod h1 h2]
theorem fb_subI {x y : Int32} (h1 : -2147483648 ≤ x.toInt - y.toInt) (h2 : x.toInt - y.toInt < 2147483648) : (x - y).toInt = x.toInt - y.toInt := by
  rw [Int32.toInt_sub, fb_bmod h1 h2]
theorem fa_lt (a b : Int32) : a < b ↔ a.toInt < b.toInt := Int32.lt_iff_toInt_lt
theorem fa_le (a b : Int32) : a ≤ b ↔ a.toInt ≤ b.toInt := Int32.le_iff_toInt_le
theorem fa_eq (a b : Int32) : a = b ↔ a.toInt = b.toInt := Int32.toInt_inj.symm
theorem z0 : (0 : Int32).toInt = 0 := rfl
theorem z1 : (1 : Int32).toInt = 1 := rfl
theorem z2 : (2 : Int32).toInt = 2 := rfl
theorem z3 : (3 : Int32).toInt = 3 := rfl
theorem i_add0 (x : Int32) : x + 0 = x := Int32.add_zero x
theorem u_self0 {t : Nat → Int32} {k : Nat} : upd t k (t k + (0 : Int32)) = t := by rw [i_add0, upd_self]
theorem i_lt2 {a : Int32} : a < 2 ↔ a ≤ 1 := by rw [fa_lt, fa_le, z2, z1]; omega
theorem i_inc {a : Int32} (h : -1000000 ≤ a.toInt) (h2 : a.toInt ≤ 1000000) : (a + 1).toInt = a.toInt + 1 := by
  rw [fb_addI (by rw [z1]; omega) (by rw [z1]; omega), z1]
theorem i_dec {a : Int32} (h : -1000000 ≤ a.toInt) (h2 : a.toInt ≤ 1000000) : (a - 1).toInt = a.toInt - 1 := by
  rw [fb_subI (by rw [z1]; omega) (by rw [z1]; omega), z1]
theorem dropR {t w lf kf : Nat → Int32} {i H : Nat} {size : Int32} (hi : i < 4) (hH : H ≤ 6) (h : WR t i w lf kf H) : f_X5_dropper t (nI i) size = dropI (dropS lf size 0 H) ∧ p_X5_dropper t (nI i) size ∧ f_X3_dropper w lf size = dropI (dropS lf size 0 H) ∧ p_X3_dropper w lf size := by
  obtain ⟨h1, h2, h3, h4, h5⟩ := h
  have e11 : t (7 + 24 * i + 11) = nI H := by rw [h1 11 (by decide), h3]
  obtain ⟨c1, c2⟩ := dropC (w := w) (lf := lf) (size := size) hH h3 H 0 xK (by omega) (by unfold xK; omega)
  obtain ⟨m1, m2⟩ := dropM (t := t) hi (size := size) hH e11 H 0 xK (by omega) (by unfold xK; omega)
  have eS : dropS (fun j => t (19 + 24 * i + j)) size 0 H = dropS lf size 0 H := dropS_congr H 0 (fun j _ hj => h4 j (by omega))
  rw [eS, nI_0] at m1
  rw [nI_0] at c1 c2 m2
  refine ⟨?_, ⟨m2, ai hi (k := 11) (by decide) rfl, trivial⟩, c1, c2⟩
  unfold f_X5_dropper
  rw [a11 hi, e11]
  cases hd : dropS lf size 0 H with
  | none =>
    rw [hd] at m1
    have m1' : l_X5_dropper_2 xK t (nI i) size 0 = nI H := m1
    rw [m1', if_pos (nI_le (Nat.le_refl _) (by omega))]
    rfl
  | some j =>
    rw [hd] at m1
    have m1' : l_X5_dropper_2 xK t (nI i) size 0 = nI j := m1
    have hj := dropS_lt H 0 j hd
    rw [m1', if_neg (nI_ge (by omega) (by omega))]
    rfl
theorem gr0 {x : Int32} : f_X5_greater 0 x = if (0 : Int32) < x then x else 0 := by
  unfold f_X5_greater
  by_cases c : (0 : Int32) ≤ x
  · rw [if_pos c]
    by_cases d : (0 : Int32) < x
    · rw [if_pos d]
    · rw [if_neg d]
      rw [fa_eq]
      rw [fa_le] at c
      rw [fa_lt] at d
      omega
  · rw [if_neg c, if_neg]
    rw [fa_le] at c
    rw [fa_lt]
    omega
theorem metR {t w lf kf : Nat → Int32} {i H : Nat} {size : Int32} (hi : i < 4) (hH : H ≤ 6) (h : WR t i w lf kf H) : f_X5_met t (nI i) size = f_X3_meeting w lf kf size ∧ p_X5_met t (nI i) size ∧ p_X3_meeting w lf kf size := by
  obtain ⟨d1, d2, d3, d4⟩ := dropR (size := size) hi hH h
  obtain ⟨h1, h2, h3, h4, h5⟩ := h
  unfold f_X5_met f_X3_meeting p_X5_met p_X3_meeting
  rw [d1, d3]
  cases hd : dropS lf size 0 H with
  | none =>
    rw [show dropI none = (-4 : Int32) from rfl]
    refine ⟨?_, ⟨d2, fun _ => trivial, fun z => absurd rfl z⟩, ⟨d4, fun _ => trivial, fun z => absurd rfl z⟩⟩
    rw [if_pos rfl, if_pos rfl]
  | some j =>
    have hj := dropS_lt H 0 j hd
    have n4 := nI_ne4 j (by omega)
    have e12 : (12 : Int32) + nI j = nI (12 + j) := nI_add 12 j
    have e18 : (18 : Int32) + nI j = nI (18 + j) := nI_add 18 j
    have ec : (nI j).toNatClampNeg = j := nI_clamp (by omega)
    have l12 : (f_X5_at (nI i) (nI (12 + j))).toNatClampNeg = 19 + 24 * i + j := by rw [at_cl hi (by omega)]; omega
    have l18 : (f_X5_at (nI i) (nI (18 + j))).toNatClampNeg = 25 + 24 * i + j := by rw [at_cl hi (by omega)]; omega
    have v12 : vp_in (f_X5_at (nI i) (nI (12 + j))) 103 := at_in hi (by omega)
    have v18 : vp_in (f_X5_at (nI i) (nI (18 + j))) 103 := at_in hi (by omega)
    have vj : vp_in (nI j) 6 := vp_in_nI (by omega) (by omega)
    rw [show dropI (some j) = nI j from rfl, e12, e18, l12, l18, ec, h4 j (by omega), h5 j (by omega), gr0]
    refine ⟨?_, ⟨d2, fun _ => trivial, fun _ => ⟨v12, v18, fun _ => trivial, fun _ => ⟨fun _ => trivial, fun _ => ⟨fun _ => trivial, fun _ => trivial⟩⟩⟩⟩, ⟨d4, fun _ => trivial, fun _ => ⟨vj, fun _ => ⟨vj, trivial⟩, fun _ => ⟨fun _ => ⟨vj, trivial⟩, fun _ => ⟨fun _ => trivial, fun _ => trivial⟩⟩⟩⟩⟩
    rw [if_neg n4]
theorem drawnR {t w lf kf r : Nat → Int32} {i H : Nat} {k : Int32} (h : WR t i w lf kf H) (hr : RR t r) : f_X5_drawn t (nI i) k = f_X3_drawn w r k := by
  unfold f_X5_drawn f_X3_drawn
  rw [show t 6 = r 4 from hr 4 (by decide), h.2.1]
theorem believedR {t r : Nat → Int32} {told size : Int32} (hr : RR t r) : f_X5_isBelieved t told size = f_X1_trusts r told size := by
  unfold f_X5_isBelieved g_X5_isBelieved_3 f_X1_trusts
  rw [show t 5 = r 3 from hr 3 (by decide), show t 2 = r 0 from hr 0 (by decide)]
theorem trusts_B {r : Nat → Int32} {told size : Int32} : xB (f_X1_trusts r told size) := by
  unfold f_X1_trusts
  exact xB_ite xB1 (xB_ite (xB_ite xB0 (xB_ite xB0 xB1)) xB0)
/-- what a letter met is believed -/
def bel (r : Nat → Int32) (a size : Int32) : Prop := 2 ≤ a.toInt ∧ f_X1_trusts r (a - 2) size ≠ 0
/-- it is lost, or not believed -/
def gon (r : Nat → Int32) (a size : Int32) : Prop := a.toInt = 1 ∨ (2 ≤ a.toInt ∧ f_X1_trusts r (a - 2) size = 0)
theorem lost_iff {w r : Nat → Int32} {a size : Int32} : (f_X3_isLost w r a size = 0 ↔ ¬ gon r a size) := by
  unfold f_X3_isLost g_X3_isLost_2 gon
  have n10 : ¬ ((1 : Int32) = 0) := by decide
  by_cases c : a = 1
  · rw [if_pos c]
    have : a.toInt = 1 := by rw [c]; rfl
    exact ⟨fun z => absurd z n10, fun z => absurd (Or.inl this) z⟩
  · have c' : ¬ (a.toInt = 1) := fun z => c ((fa_eq a 1).mpr z)
    rw [if_neg c]
    by_cases d : a < 2
    · rw [if_pos d]
      have d' := (fa_lt a 2).mp d
      rw [z2] at d'
      exact ⟨fun _ z => by rcases z with z | z <;> omega, fun _ => rfl⟩
    · have d' : 2 ≤ a.toInt := by
        have := mt (fa_lt a 2).mpr d
        rw [z2] at this; omega
      rw [if_neg d]
      by_cases e : f_X1_trusts r (a - 2) size = 0
      · rw [if_pos e]
        exact ⟨fun z => absurd z n10, fun z => absurd (Or.inr ⟨d', e⟩) z⟩
      · rw [if_neg e]
        exact ⟨fun _ z => by
          rcases z with z | z
          · exact c' z
          · exact e z.2, fun _ => rfl⟩
def MF (m m' : Nat → Int32) : Prop := ∀ k, k < 3 → m' k = m k
theorem MF.refl {m : Nat → Int32} : MF m m := fun _ _ => rfl
theorem MF.trans {m m1 m2 : Nat → Int32} (h : MF m m1) (g : MF m1 m2) : MF m m2 := fun k hk => (g k hk).trans (h k hk)
def WF (w w' : Nat → Int32) : Prop := w' 0 = w 0 ∧ w' 1 = w 1 ∧ w' 2 = w 2 ∧ w' 3 = w 3 ∧ w' 4 = w 4 ∧ w' 5 = w 5 ∧ w' 6 = w 6
theorem sendsR {m t w lf kf r : Nat → Int32} {i H : Nat} {size : Int32} (hi : i < 4) (hH : H ≤ 6) (h : WR t i w lf kf H) (hr : RR t r) :
    ∃ a m' t' w', f_X5_sends m t (nI i) size = (m', t') ∧ f_X3_post w lf kf r size = (a, w') ∧ m' 3 = a ∧ (m' 4 = 0 ↔ ¬ bel r a size) ∧ (f_X5_isGone m' = 0 ↔ ¬ gon r a size) ∧ p_X5_sends m t (nI i) size ∧ p_X3_post w lf kf r size ∧ WR t' i w' lf kf H ∧ FW t t' i ∧ MF m m' ∧ WF w w' := by
  obtain ⟨q1, q2, q3⟩ := metR (size := size) hi hH h
  have hd := fun k => drawnR (k := k) h hr
  have e7 : t (7 + 24 * i + 7) = w 7 := h.1 7 (by decide)
  have e10 : t (7 + 24 * i + 10) = w 10 := h.1 10 (by decide)
  obtain ⟨c, hc⟩ : ∃ c, ((if (w 10) ≤ ((f_X3_drawn w r (w 7)) - (f_X3_drawn w r (w 7)) / (100 : Int32) * (100 : Int32)) then (0 : Int32) else (1 : Int32))) = c := ⟨_, rfl⟩
  obtain ⟨a, ha⟩ : ∃ a, (g_X3_post_26 w lf kf size c) = a := ⟨_, rfl⟩
  have hc5 : ((if (t ((f_X5_at (nI i) (10 : Int32)).toNatClampNeg)) ≤ ((f_X5_drawn t (nI i) (t ((f_X5_at (nI i) (7 : Int32)).toNatClampNeg))) - (f_X5_drawn t (nI i) (t ((f_X5_at (nI i) (7 : Int32)).toNatClampNeg))) / (100 : Int32) * (100 : Int32)) then (0 : Int32) else (1 : Int32))) = c := by
    rw [a10 hi, a7 hi, e7, e10, hd]; exact hc
  have ha5 : (g_X5_sends_37 t (nI i) size c) = a := by
    unfold g_X5_sends_37; rw [q1]; exact ha
  obtain ⟨b, hb⟩ : ∃ b, (g_X5_sends_59 t size (upd m 3 a) ((upd m 3 a) 3)) = b := ⟨_, rfl⟩
  have hb' := hb
  unfold g_X5_sends_59 at hb'
  rw [upd_s, believedR hr] at hb'
  have hbB : xB b := by rw [← hb']; exact xB_ite xB0 (xB_ite xB0 xB1)
  have n10 : ¬ ((1 : Int32) = 0) := by decide
  have hbe : b = 0 ↔ ¬ bel r a size := by
    rw [← hb']
    unfold bel
    by_cases d : a ≤ 1
    · rw [if_pos d]
      have d' := (fa_le a 1).mp d
      rw [z1] at d'
      exact ⟨fun _ z => by omega, fun _ => rfl⟩
    · rw [if_neg d]
      have d' : 2 ≤ a.toInt := by
        have := mt (fa_le a 1).mpr d
        rw [z1] at this; omega
      by_cases e : f_X1_trusts r (a - 2) size = 0
      · rw [if_pos e]; exact ⟨fun _ z => z.2 e, fun _ => rfl⟩
      · rw [if_neg e]; exact ⟨fun z => absurd z n10, fun z => absurd ⟨d', e⟩ z⟩
  have hm4 : (upd (upd m 3 a) 4 b) 4 = b := upd_s
  have hm3 : (upd (upd m 3 a) 4 b) 3 = a := by rw [upd_o (by decide), upd_s]
  have hgo : f_X5_isGone (upd (upd m 3 a) 4 b) = 0 ↔ ¬ gon r a size := by
    unfold f_X5_isGone
    rw [hm3, hm4]
    unfold gon
    by_cases d : a ≤ 0
    · rw [if_pos d]
      have d' := (fa_le a 0).mp d
      rw [z0] at d'
      exact ⟨fun _ z => by rcases z with z | z <;> omega, fun _ => rfl⟩
    · have d' : 1 ≤ a.toInt := by
        have := mt (fa_le a 0).mpr d
        rw [z0] at this; omega
      rw [if_neg d]
      by_cases e : b = 0
      · rw [if_pos e]
        have e' := hbe.mp e
        unfold bel at e'
        refine ⟨fun z => absurd z n10, fun z => absurd ?_ z⟩
        by_cases f : a.toInt = 1
        · exact Or.inl f
        · by_cases g : f_X1_trusts r (a - 2) size = 0
          · exact Or.inr ⟨by omega, g⟩
          · exact absurd ⟨by omega, g⟩ e'
      · rw [if_neg e]
        have e' : bel r a size := Classical.byContradiction (fun z => e (hbe.mpr z))
        unfold bel at e'
        exact ⟨fun _ z => by
          rcases z with z | z
          · omega
          · exact e'.2 z.2, fun _ => rfl⟩
  have hx : ∀ w', (f_X3_isLost w' r a size = 0 ↔ ¬ gon r a size) := fun w' => lost_iff
  refine ⟨a, upd (upd m 3 a) 4 b, _, _, f_X5_sends_e hc5 ha5 hb, f_X3_post_e hc ha, hm3, by rw [hm4]; exact hbe, hgo, ?_, ?_, ?_, ?_, ?_, ?_⟩
  · rw [p_X5_sends_e hc5 ha5 hb]
    refine ⟨ai hi (k := 7) (by decide) rfl, ai hi (k := 10) (by decide) rfl, ?_, hbB, ai hi (k := 7) (by decide) rfl, ai hi (k := 7) (by decide) rfl, ai hi (k := 9) (by decide) rfl, ai hi (k := 9) (by decide) rfl, ai hi (k := 8) (by decide) rfl, ai hi (k := 8) (by decide) rfl, trivial⟩
    exact ⟨fun _ => ⟨q2, trivial⟩, fun _ => trivial⟩
  · rw [p_X3_post_e hc]
    exact ⟨⟨fun _ => ⟨q3, trivial⟩, fun _ => trivial⟩, trivial⟩
  · rw [hm4, a7 hi, a8 hi, a9 hi, e7]
    unfold g_X3_post_58
    have hw := WR.upd (k := 7) (v := w 7 + 1) h (by decide)
    have h8 := hw.1 8 (by decide)
    have h9 := hw.1 9 (by decide)
    by_cases g : gon r a size
    · have k1 : ¬ (f_X3_isLost (upd w 7 (w 7 + 1)) r a size = 0) := fun z => (hx _).mp z g
      have k2 : ¬ (f_X5_isGone (upd (upd m 3 a) 4 b) = 0) := fun z => hgo.mp z g
      have k3 : b = 0 := hbe.mpr (fun z => by
        unfold gon at g; unfold bel at z
        rcases g with g | g
        · omega
        · exact z.2 g.2)
      rw [if_neg k1, if_neg k2, if_pos k3, u_self0, h8]
      exact WR.upd hw (by decide)
    · have k1 : (f_X3_isLost (upd w 7 (w 7 + 1)) r a size = 0) := (hx _).mpr g
      have k2 : (f_X5_isGone (upd (upd m 3 a) 4 b) = 0) := hgo.mpr g
      rw [if_pos k1, if_pos k2, u_self0]
      by_cases d : a < 2
      · have k3 : b = 0 := hbe.mpr (fun z => by
          have d' := (fa_lt a 2).mp d
          rw [z2] at d'
          have := z.1
          omega)
        rw [if_pos d, if_pos k3, u_self0]
        exact hw
      · have d' : 2 ≤ a.toInt := by
          have := mt (fa_lt a 2).mpr d
          rw [z2] at this; omega
        have k3 : ¬ (b = 0) := fun z => hbe.mp z ⟨d', fun y => g (Or.inr ⟨d', y⟩)⟩
        rw [if_neg d, if_neg k3, h9]
        exact WR.upd hw (by decide)
  · rw [a7 hi, a8 hi, a9 hi]
    exact FW.upd (FW.upd (FW.upd FW.refl (by decide)) (by decide)) (by decide)
  · intro k hk
    rw [upd_o (by omega), upd_o (by omega)]
  · unfold WF g_X3_post_58
    split
    · split
      · simp +decide only [upd, ↓reduceIte, and_self]
      · simp +decide only [upd, ↓reduceIte, and_self]
    · simp +decide only [upd, ↓reduceIte, and_self]
