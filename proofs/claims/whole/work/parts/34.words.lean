/-! PURE. Part 34: words, kinds, beliefs, the items of the draft -/
def kW_way : List Nat := [119, 97, 121]
theorem kO_way : wOK kW_way (23609 : Int64) := ⟨by decide, by decide, by decide +kernel⟩
theorem kD_way : wd 1 = kW_way := rfl
def kW_hop : List Nat := [104, 111, 112]
theorem kO_hop : wOK kW_hop (8688 : Int64) := ⟨by decide, by decide, by decide +kernel⟩
theorem kD_hop : wd 2 = kW_hop ++ [32] := rfl
def kW_loss : List Nat := [108, 111, 115, 115]
theorem kO_loss : wOK kW_loss (409203 : Int64) := ⟨by decide, by decide, by decide +kernel⟩
theorem kD_loss : wd 8 = kW_loss ++ [32] := rfl
def kW_base : List Nat := [98, 97, 115, 101]
theorem kO_base : wOK kW_base (67173 : Int64) := ⟨by decide, by decide, by decide +kernel⟩
theorem kD_base : wd 9 = kW_base ++ [32] := rfl
def kW_top : List Nat := [116, 111, 112]
theorem kO_top : wOK kW_top (20976 : Int64) := ⟨by decide, by decide, by decide +kernel⟩
theorem kD_top : wd 10 = kW_top ++ [32] := rfl
def kW_age : List Nat := [97, 103, 101]
theorem kO_age : wOK kW_age (1253 : Int64) := ⟨by decide, by decide, by decide +kernel⟩
theorem kD_age : wd 11 = kW_age ++ [32] := rfl
def kW_believe : List Nat := [98, 101, 108, 105, 101, 118, 101]
theorem kO_believe : wOK kW_believe (2328139461 : Int64) := ⟨by decide, by decide, by decide +kernel⟩
theorem kD_believe : wd 12 = kW_believe ++ [32] := rfl
def kW_draws : List Nat := [100, 114, 97, 119, 115]
theorem kO_draws : wOK kW_draws (4785907 : Int64) := ⟨by decide, by decide, by decide +kernel⟩
theorem kD_draws : wd 16 = kW_draws ++ [32] := rfl
def kW_tell : List Nat := [116, 101, 108, 108]
theorem kO_tell : wOK kW_tell (660876 : Int64) := ⟨by decide, by decide, by decide +kernel⟩
theorem kD_tell : wd 4 = kW_tell := rfl
def kW_wrong : List Nat := [119, 114, 111, 110, 103]
theorem kO_wrong : wOK kW_wrong (24722887 : Int64) := ⟨by decide, by decide, by decide +kernel⟩
theorem kD_wrong : wd 5 = kW_wrong := rfl
def kW_old : List Nat := [111, 108, 100]
theorem kO_old : wOK kW_old (15748 : Int64) := ⟨by decide, by decide, by decide +kernel⟩
theorem kD_old : wd 6 = kW_old := rfl
def kW_silent : List Nat := [115, 105, 108, 101, 110, 116]
theorem kO_silent : wOK kW_silent (647370196 : Int64) := ⟨by decide, by decide, by decide +kernel⟩
theorem kD_silent : wd 7 = kW_silent := rfl
def kW_all : List Nat := [97, 108, 108]
theorem kO_all : wOK kW_all (1420 : Int64) := ⟨by decide, by decide, by decide +kernel⟩
theorem kD_all : wd 13 = kW_all := rfl
def kW_checked : List Nat := [99, 104, 101, 99, 107, 101, 100]
theorem kO_checked : wOK kW_checked (3495013540 : Int64) := ⟨by decide, by decide, by decide +kernel⟩
theorem kD_checked : wd 14 = kW_checked := rfl
def kW_none : List Nat := [110, 111, 110, 101]
theorem kO_none : wOK kW_none (474565 : Int64) := ⟨by decide, by decide, by decide +kernel⟩
theorem kD_none : wd 15 = kW_none := rfl
def conf (w1 w2 : List Nat) : Bool := (List.range (min w1.length w2.length)).any (fun j => w1.getD j 0 != w2.getD j 0)
theorem mtX {c : Nat → Nat} {n p : Nat} {w1 w2 : List Nat} (hc : conf w1 w2 = true) (h1 : mt c n p w1) (h2 : mt c n p w2) : False := by
  unfold conf at hc
  rw [List.any_eq_true] at hc
  obtain ⟨j, hj, e⟩ := hc
  rw [List.mem_range] at hj
  have a : j < w1.length := by omega
  have b : j < w2.length := by omega
  have e' : w1.getD j 0 ≠ w2.getD j 0 := by simpa using e
  exact e' ((h1.2 j a).symm.trans (h2.2 j b))
theorem isW_mt {c : Nat → Nat} {n p L : Nat} {w : List Nat} {V : Int64} (hr : RL_ c n p L) (hw : wOK w V) (h : isW c p L w) : mt c n p w := ((isW_iff hr hw.2.1).mp h).1
theorem nsg {c : Nat → Nat} {n p L : Nat} {w : List Nat} {V : Int64} (hr : RL_ c n p L) (hw : wOK w V) (h : mt c n p w) (hn : ¬ isW c p L w) : ¬ sg c n (p + w.length) 59 := by
  intro z
  apply hn
  rw [isW_iff hr hw.2.1]
  exact ⟨h, fun q => by have := q.2.1; have := z.2; omega⟩
theorem sg_mt {c : Nat → Nat} {n p s : Nat} : mt c n p [s] ↔ sg c n p s := by
  unfold mt sg
  constructor
  · rintro ⟨h1, h2⟩
    exact ⟨h1, h2 0 Nat.zero_lt_one⟩
  · rintro ⟨h1, h2⟩
    refine ⟨h1, fun j hj => ?_⟩
    have : j = 0 := by have : j < 1 := hj; omega
    subst this
    exact h2
theorem kindR_c0 {X Y lf : Nat → Int32} (t0 : f_X2_take X lf 4 = (1, Y)) : f_X2_takeKind X lf = (0, Y) := by
  simp only [f_X2_takeKind, t0, n10, ↓reduceIte]
theorem kindR_p0 {X Y lf : Nat → Int32} (t0 : f_X2_take X lf 4 = (1, Y)) (u0 : p_X2_take X lf 4) : p_X2_takeKind X lf := by
  simp [p_X2_takeKind, t0, u0]
theorem kindR_c1 {X Y lf : Nat → Int32} (t0 : f_X2_take X lf 4 = (0, X)) (t1 : f_X2_take X lf 5 = (1, Y)) : f_X2_takeKind X lf = (1, Y) := by
  simp only [f_X2_takeKind, t0, t1, n10, ↓reduceIte]
theorem kindR_p1 {X Y lf : Nat → Int32} (t0 : f_X2_take X lf 4 = (0, X)) (t1 : f_X2_take X lf 5 = (1, Y)) (u0 : p_X2_take X lf 4) (u1 : p_X2_take X lf 5) : p_X2_takeKind X lf := by
  simp [p_X2_takeKind, t0, t1, u0, u1]
theorem kindR_c2 {X Y lf : Nat → Int32} (t0 : f_X2_take X lf 4 = (0, X)) (t1 : f_X2_take X lf 5 = (0, X)) (t2 : f_X2_take X lf 6 = (1, Y)) : f_X2_takeKind X lf = (2, Y) := by
  simp only [f_X2_takeKind, t0, t1, t2, n10, ↓reduceIte]
theorem kindR_p2 {X Y lf : Nat → Int32} (t0 : f_X2_take X lf 4 = (0, X)) (t1 : f_X2_take X lf 5 = (0, X)) (t2 : f_X2_take X lf 6 = (1, Y)) (u0 : p_X2_take X lf 4) (u1 : p_X2_take X lf 5) (u2 : p_X2_take X lf 6) : p_X2_takeKind X lf := by
  simp [p_X2_takeKind, t0, t1, t2, u0, u1, u2]
theorem kindR_c3 {X Y lf : Nat → Int32} (t0 : f_X2_take X lf 4 = (0, X)) (t1 : f_X2_take X lf 5 = (0, X)) (t2 : f_X2_take X lf 6 = (0, X)) (t3 : f_X2_take X lf 7 = (1, Y)) : f_X2_takeKind X lf = (3, Y) := by
  simp only [f_X2_takeKind, t0, t1, t2, t3, n10, ↓reduceIte]
theorem kindR_p3 {X Y lf : Nat → Int32} (t0 : f_X2_take X lf 4 = (0, X)) (t1 : f_X2_take X lf 5 = (0, X)) (t2 : f_X2_take X lf 6 = (0, X)) (t3 : f_X2_take X lf 7 = (1, Y)) (u0 : p_X2_take X lf 4) (u1 : p_X2_take X lf 5) (u2 : p_X2_take X lf 6) (u3 : p_X2_take X lf 7) : p_X2_takeKind X lf := by
  simp [p_X2_takeKind, t0, t1, t2, t3, u0, u1, u2, u3]
theorem kindR_c4 {X lf : Nat → Int32} (t0 : f_X2_take X lf 4 = (0, X)) (t1 : f_X2_take X lf 5 = (0, X)) (t2 : f_X2_take X lf 6 = (0, X)) (t3 : f_X2_take X lf 7 = (0, X)) : f_X2_takeKind X lf = (-4, X) := by
  simp only [f_X2_takeKind, t0, t1, t2, t3, n10, ↓reduceIte]
theorem kindR_p4 {X lf : Nat → Int32} (t0 : f_X2_take X lf 4 = (0, X)) (t1 : f_X2_take X lf 5 = (0, X)) (t2 : f_X2_take X lf 6 = (0, X)) (t3 : f_X2_take X lf 7 = (0, X)) (u0 : p_X2_take X lf 4) (u1 : p_X2_take X lf 5) (u2 : p_X2_take X lf 6) (u3 : p_X2_take X lf 7) : p_X2_takeKind X lf := by
  simp [p_X2_takeKind, t0, t1, t2, t3, u0, u1, u2, u3]
theorem kindR_m0 {V : Int64} (t0 : lg_cmp V (660876 : Int64) = 0) : g_X5_takesHop_37 V (lg_cmp V (660876 : Int64)) = 0 := by
  unfold g_X5_takesHop_37
  rw [if_pos t0]
theorem kindR_m1 {V : Int64} (t0 : ¬ (lg_cmp V (660876 : Int64) = 0)) (t1 : lg_cmp V (24722887 : Int64) = 0) : g_X5_takesHop_37 V (lg_cmp V (660876 : Int64)) = 1 := by
  unfold g_X5_takesHop_37
  rw [if_neg t0, if_pos t1]
theorem kindR_m2 {V : Int64} (t0 : ¬ (lg_cmp V (660876 : Int64) = 0)) (t1 : ¬ (lg_cmp V (24722887 : Int64) = 0)) (t2 : lg_cmp V (15748 : Int64) = 0) : g_X5_takesHop_37 V (lg_cmp V (660876 : Int64)) = 2 := by
  unfold g_X5_takesHop_37
  rw [if_neg t0, if_neg t1, if_pos t2]
theorem kindR_m3 {V : Int64} (t0 : ¬ (lg_cmp V (660876 : Int64) = 0)) (t1 : ¬ (lg_cmp V (24722887 : Int64) = 0)) (t2 : ¬ (lg_cmp V (15748 : Int64) = 0)) (t3 : lg_cmp V (647370196 : Int64) = 0) : g_X5_takesHop_37 V (lg_cmp V (660876 : Int64)) = 3 := by
  unfold g_X5_takesHop_37
  rw [if_neg t0, if_neg t1, if_neg t2, if_pos t3]
theorem kindR_m4 {V : Int64} (t0 : ¬ (lg_cmp V (660876 : Int64) = 0)) (t1 : ¬ (lg_cmp V (24722887 : Int64) = 0)) (t2 : ¬ (lg_cmp V (15748 : Int64) = 0)) (t3 : ¬ (lg_cmp V (647370196 : Int64) = 0)) : g_X5_takesHop_37 V (lg_cmp V (660876 : Int64)) = -4 := by
  unfold g_X5_takesHop_37
  rw [if_neg t0, if_neg t1, if_neg t2, if_neg t3]
theorem kindR {c : Nat → Nat} {n : Nat} {lf tx x m : Nat → Int32} (h : TX c n lf) (h' : TX c n tx) (hx : x 0 = nI n) (hm : m 1 = nI n) {p : Nat} (hp : p ≤ n) : p_X2_takeKind (upd x 1 (nI p)) lf ∧ p_X5_takesWord (upd m 2 (nI p)) tx ∧ ∃ kc q V q0 km, f_X2_takeKind (upd x 1 (nI p)) lf = (kc, upd x 1 (nI q)) ∧ f_X5_takesWord (upd m 2 (nI p)) tx = (V, upd m 2 (nI q0)) ∧ g_X5_takesHop_37 V (lg_cmp V (660876 : Int64)) = km ∧ q ≤ n ∧ q0 ≤ n ∧ p ≤ q ∧ ((km = -4 ∧ (kc = -4 ∨ ¬ sg c n q 59)) ∨ (¬ (km = -4) ∧ kc = km ∧ q = q0)) := by
  obtain ⟨pw, L, hr, hw⟩ := takesWordM h' hm hp
  have hL := hr.1
  obtain ⟨u0, k0⟩ := takeC (si := 4) h hx (by decide) hp
  obtain ⟨u1, k1⟩ := takeC (si := 5) h hx (by decide) hp
  obtain ⟨u2, k2⟩ := takeC (si := 6) h hx (by decide) hp
  obtain ⟨u3, k3⟩ := takeC (si := 7) h hx (by decide) hp
  rcases k0 with ⟨m0, e0⟩ | ⟨m0, e0⟩
  · have b0 := m0.1
    by_cases w0 : isW c p L kW_tell
    · exact ⟨kindR_p0 e0 u0, pw, _, _, _, _, _, kindR_c0 e0, hw, kindR_m0  ((cmpW hr kO_tell).mpr w0), b0, hL, by omega, Or.inr ⟨by decide, rfl, by rw [w0.1]; rfl⟩⟩
    · exact ⟨kindR_p0 e0 u0, pw, _, _, _, _, _, kindR_c0 e0, hw, kindR_m4  (fun z => w0 ((cmpW hr kO_tell).mp z)) (fun z => mtX (by decide) m0 (isW_mt hr kO_wrong ((cmpW hr kO_wrong).mp z))) (fun z => mtX (by decide) m0 (isW_mt hr kO_old ((cmpW hr kO_old).mp z))) (fun z => mtX (by decide) m0 (isW_mt hr kO_silent ((cmpW hr kO_silent).mp z))), b0, hL, by omega, Or.inl ⟨rfl, Or.inr (nsg hr kO_tell m0 w0)⟩⟩
  · rcases k1 with ⟨m1, e1⟩ | ⟨m1, e1⟩
    · have b1 := m1.1
      by_cases w1 : isW c p L kW_wrong
      · exact ⟨kindR_p1 e0 e1 u0 u1, pw, _, _, _, _, _, kindR_c1 e0 e1, hw, kindR_m1 (fun z => m0 (isW_mt hr kO_tell ((cmpW hr kO_tell).mp z))) ((cmpW hr kO_wrong).mpr w1), b1, hL, by omega, Or.inr ⟨by decide, rfl, by rw [w1.1]; rfl⟩⟩
      · exact ⟨kindR_p1 e0 e1 u0 u1, pw, _, _, _, _, _, kindR_c1 e0 e1, hw, kindR_m4 (fun z => m0 (isW_mt hr kO_tell ((cmpW hr kO_tell).mp z))) (fun z => w1 ((cmpW hr kO_wrong).mp z)) (fun z => mtX (by decide) m1 (isW_mt hr kO_old ((cmpW hr kO_old).mp z))) (fun z => mtX (by decide) m1 (isW_mt hr kO_silent ((cmpW hr kO_silent).mp z))), b1, hL, by omega, Or.inl ⟨rfl, Or.inr (nsg hr kO_wrong m1 w1)⟩⟩
    · rcases k2 with ⟨m2, e2⟩ | ⟨m2, e2⟩
      · have b2 := m2.1
        by_cases w2 : isW c p L kW_old
        · exact ⟨kindR_p2 e0 e1 e2 u0 u1 u2, pw, _, _, _, _, _, kindR_c2 e0 e1 e2, hw, kindR_m2 (fun z => m0 (isW_mt hr kO_tell ((cmpW hr kO_tell).mp z))) (fun z => m1 (isW_mt hr kO_wrong ((cmpW hr kO_wrong).mp z))) ((cmpW hr kO_old).mpr w2), b2, hL, by omega, Or.inr ⟨by decide, rfl, by rw [w2.1]; rfl⟩⟩
        · exact ⟨kindR_p2 e0 e1 e2 u0 u1 u2, pw, _, _, _, _, _, kindR_c2 e0 e1 e2, hw, kindR_m4 (fun z => m0 (isW_mt hr kO_tell ((cmpW hr kO_tell).mp z))) (fun z => m1 (isW_mt hr kO_wrong ((cmpW hr kO_wrong).mp z))) (fun z => w2 ((cmpW hr kO_old).mp z)) (fun z => mtX (by decide) m2 (isW_mt hr kO_silent ((cmpW hr kO_silent).mp z))), b2, hL, by omega, Or.inl ⟨rfl, Or.inr (nsg hr kO_old m2 w2)⟩⟩
      · rcases k3 with ⟨m3, e3⟩ | ⟨m3, e3⟩
        · have b3 := m3.1
          by_cases w3 : isW c p L kW_silent
          · exact ⟨kindR_p3 e0 e1 e2 e3 u0 u1 u2 u3, pw, _, _, _, _, _, kindR_c3 e0 e1 e2 e3, hw, kindR_m3 (fun z => m0 (isW_mt hr kO_tell ((cmpW hr kO_tell).mp z))) (fun z => m1 (isW_mt hr kO_wrong ((cmpW hr kO_wrong).mp z))) (fun z => m2 (isW_mt hr kO_old ((cmpW hr kO_old).mp z))) ((cmpW hr kO_silent).mpr w3), b3, hL, by omega, Or.inr ⟨by decide, rfl, by rw [w3.1]; rfl⟩⟩
          · exact ⟨kindR_p3 e0 e1 e2 e3 u0 u1 u2 u3, pw, _, _, _, _, _, kindR_c3 e0 e1 e2 e3, hw, kindR_m4 (fun z => m0 (isW_mt hr kO_tell ((cmpW hr kO_tell).mp z))) (fun z => m1 (isW_mt hr kO_wrong ((cmpW hr kO_wrong).mp z))) (fun z => m2 (isW_mt hr kO_old ((cmpW hr kO_old).mp z))) (fun z => w3 ((cmpW hr kO_silent).mp z)) , b3, hL, by omega, Or.inl ⟨rfl, Or.inr (nsg hr kO_silent m3 w3)⟩⟩
        · have nn : ∀ w V, wOK w V → ¬ mt c n p w → ¬ (lg_cmp (wq c p L) V = 0) := fun w V a b z => b (isW_mt hr a ((cmpW hr a).mp z))
          exact ⟨kindR_p4 e0 e1 e2 e3 u0 u1 u2 u3, pw, _, _, _, _, _, kindR_c4 e0 e1 e2 e3, hw, kindR_m4 (nn _ _ kO_tell m0) (nn _ _ kO_wrong m1) (nn _ _ kO_old m2) (nn _ _ kO_silent m3), hp, hL, Nat.le_refl _, Or.inl ⟨rfl, Or.inl rfl⟩⟩
theorem beliefR_c0 {X Y lf : Nat → Int32} (t0 : f_X2_take X lf 13 = (1, Y)) : f_X2_takeBelief X lf = (0, Y) := by
  simp only [f_X2_takeBelief, t0, n10, ↓reduceIte]
theorem beliefR_p0 {X Y lf : Nat → Int32} (t0 : f_X2_take X lf 13 = (1, Y)) (u0 : p_X2_take X lf 13) : p_X2_takeBelief X lf := by
  simp [p_X2_takeBelief, t0, u0]
theorem beliefR_c1 {X Y lf : Nat → Int32} (t0 : f_X2_take X lf 13 = (0, X)) (t1 : f_X2_take X lf 14 = (1, Y)) : f_X2_takeBelief X lf = (1, Y) := by
  simp only [f_X2_takeBelief, t0, t1, n10, ↓reduceIte]
theorem beliefR_p1 {X Y lf : Nat → Int32} (t0 : f_X2_take X lf 13 = (0, X)) (t1 : f_X2_take X lf 14 = (1, Y)) (u0 : p_X2_take X lf 13) (u1 : p_X2_take X lf 14) : p_X2_takeBelief X lf := by
  simp [p_X2_takeBelief, t0, t1, u0, u1]
theorem beliefR_c2 {X Y lf : Nat → Int32} (t0 : f_X2_take X lf 13 = (0, X)) (t1 : f_X2_take X lf 14 = (0, X)) (t2 : f_X2_take X lf 15 = (1, Y)) : f_X2_takeBelief X lf = (2, Y) := by
  simp only [f_X2_takeBelief, t0, t1, t2, n10, ↓reduceIte]
theorem beliefR_p2 {X Y lf : Nat → Int32} (t0 : f_X2_take X lf 13 = (0, X)) (t1 : f_X2_take X lf 14 = (0, X)) (t2 : f_X2_take X lf 15 = (1, Y)) (u0 : p_X2_take X lf 13) (u1 : p_X2_take X lf 14) (u2 : p_X2_take X lf 15) : p_X2_takeBelief X lf := by
  simp [p_X2_takeBelief, t0, t1, t2, u0, u1, u2]
theorem beliefR_c3 {X lf : Nat → Int32} (t0 : f_X2_take X lf 13 = (0, X)) (t1 : f_X2_take X lf 14 = (0, X)) (t2 : f_X2_take X lf 15 = (0, X)) : f_X2_takeBelief X lf = (-4, X) := by
  simp only [f_X2_takeBelief, t0, t1, t2, n10, ↓reduceIte]
theorem beliefR_p3 {X lf : Nat → Int32} (t0 : f_X2_take X lf 13 = (0, X)) (t1 : f_X2_take X lf 14 = (0, X)) (t2 : f_X2_take X lf 15 = (0, X)) (u0 : p_X2_take X lf 13) (u1 : p_X2_take X lf 14) (u2 : p_X2_take X lf 15) : p_X2_takeBelief X lf := by
  simp [p_X2_takeBelief, t0, t1, t2, u0, u1, u2]
theorem beliefR_m0 {V : Int64} (t0 : lg_cmp V (1420 : Int64) = 0) : g_X5_takesBelief_21 V (lg_cmp V (1420 : Int64)) = 0 := by
  unfold g_X5_takesBelief_21
  rw [if_pos t0]
theorem beliefR_m1 {V : Int64} (t0 : ¬ (lg_cmp V (1420 : Int64) = 0)) (t1 : lg_cmp V (3495013540 : Int64) = 0) : g_X5_takesBelief_21 V (lg_cmp V (1420 : Int64)) = 1 := by
  unfold g_X5_takesBelief_21
  rw [if_neg t0, if_pos t1]
theorem beliefR_m2 {V : Int64} (t0 : ¬ (lg_cmp V (1420 : Int64) = 0)) (t1 : ¬ (lg_cmp V (3495013540 : Int64) = 0)) (t2 : lg_cmp V (474565 : Int64) = 0) : g_X5_takesBelief_21 V (lg_cmp V (1420 : Int64)) = 2 := by
  unfold g_X5_takesBelief_21
  rw [if_neg t0, if_neg t1, if_pos t2]
theorem beliefR_m3 {V : Int64} (t0 : ¬ (lg_cmp V (1420 : Int64) = 0)) (t1 : ¬ (lg_cmp V (3495013540 : Int64) = 0)) (t2 : ¬ (lg_cmp V (474565 : Int64) = 0)) : g_X5_takesBelief_21 V (lg_cmp V (1420 : Int64)) = -4 := by
  unfold g_X5_takesBelief_21
  rw [if_neg t0, if_neg t1, if_neg t2]
theorem beliefR {c : Nat → Nat} {n : Nat} {lf tx x m : Nat → Int32} (h : TX c n lf) (h' : TX c n tx) (hx : x 0 = nI n) (hm : m 1 = nI n) {p : Nat} (hp : p ≤ n) : p_X2_takeBelief (upd x 1 (nI p)) lf ∧ p_X5_takesWord (upd m 2 (nI p)) tx ∧ ∃ kc q V q0 km, f_X2_takeBelief (upd x 1 (nI p)) lf = (kc, upd x 1 (nI q)) ∧ f_X5_takesWord (upd m 2 (nI p)) tx = (V, upd m 2 (nI q0)) ∧ g_X5_takesBelief_21 V (lg_cmp V (1420 : Int64)) = km ∧ q ≤ n ∧ q0 ≤ n ∧ p ≤ q ∧ ((km = -4 ∧ (kc = -4 ∨ ¬ sg c n q 59)) ∨ (¬ (km = -4) ∧ kc = km ∧ q = q0)) := by
  obtain ⟨pw, L, hr, hw⟩ := takesWordM h' hm hp
  have hL := hr.1
  obtain ⟨u0, k0⟩ := takeC (si := 13) h hx (by decide) hp
  obtain ⟨u1, k1⟩ := takeC (si := 14) h hx (by decide) hp
  obtain ⟨u2, k2⟩ := takeC (si := 15) h hx (by decide) hp
  rcases k0 with ⟨m0, e0⟩ | ⟨m0, e0⟩
  · have b0 := m0.1
    by_cases w0 : isW c p L kW_all
    · exact ⟨beliefR_p0 e0 u0, pw, _, _, _, _, _, beliefR_c0 e0, hw, beliefR_m0  ((cmpW hr kO_all).mpr w0), b0, hL, by omega, Or.inr ⟨by decide, rfl, by rw [w0.1]; rfl⟩⟩
    · exact ⟨beliefR_p0 e0 u0, pw, _, _, _, _, _, beliefR_c0 e0, hw, beliefR_m3  (fun z => w0 ((cmpW hr kO_all).mp z)) (fun z => mtX (by decide) m0 (isW_mt hr kO_checked ((cmpW hr kO_checked).mp z))) (fun z => mtX (by decide) m0 (isW_mt hr kO_none ((cmpW hr kO_none).mp z))), b0, hL, by omega, Or.inl ⟨rfl, Or.inr (nsg hr kO_all m0 w0)⟩⟩
  · rcases k1 with ⟨m1, e1⟩ | ⟨m1, e1⟩
    · have b1 := m1.1
      by_cases w1 : isW c p L kW_checked
      · exact ⟨beliefR_p1 e0 e1 u0 u1, pw, _, _, _, _, _, beliefR_c1 e0 e1, hw, beliefR_m1 (fun z => m0 (isW_mt hr kO_all ((cmpW hr kO_all).mp z))) ((cmpW hr kO_checked).mpr w1), b1, hL, by omega, Or.inr ⟨by decide, rfl, by rw [w1.1]; rfl⟩⟩
      · exact ⟨beliefR_p1 e0 e1 u0 u1, pw, _, _, _, _, _, beliefR_c1 e0 e1, hw, beliefR_m3 (fun z => m0 (isW_mt hr kO_all ((cmpW hr kO_all).mp z))) (fun z => w1 ((cmpW hr kO_checked).mp z)) (fun z => mtX (by decide) m1 (isW_mt hr kO_none ((cmpW hr kO_none).mp z))), b1, hL, by omega, Or.inl ⟨rfl, Or.inr (nsg hr kO_checked m1 w1)⟩⟩
    · rcases k2 with ⟨m2, e2⟩ | ⟨m2, e2⟩
      · have b2 := m2.1
        by_cases w2 : isW c p L kW_none
        · exact ⟨beliefR_p2 e0 e1 e2 u0 u1 u2, pw, _, _, _, _, _, beliefR_c2 e0 e1 e2, hw, beliefR_m2 (fun z => m0 (isW_mt hr kO_all ((cmpW hr kO_all).mp z))) (fun z => m1 (isW_mt hr kO_checked ((cmpW hr kO_checked).mp z))) ((cmpW hr kO_none).mpr w2), b2, hL, by omega, Or.inr ⟨by decide, rfl, by rw [w2.1]; rfl⟩⟩
        · exact ⟨beliefR_p2 e0 e1 e2 u0 u1 u2, pw, _, _, _, _, _, beliefR_c2 e0 e1 e2, hw, beliefR_m3 (fun z => m0 (isW_mt hr kO_all ((cmpW hr kO_all).mp z))) (fun z => m1 (isW_mt hr kO_checked ((cmpW hr kO_checked).mp z))) (fun z => w2 ((cmpW hr kO_none).mp z)) , b2, hL, by omega, Or.inl ⟨rfl, Or.inr (nsg hr kO_none m2 w2)⟩⟩
      · have nn : ∀ w V, wOK w V → ¬ mt c n p w → ¬ (lg_cmp (wq c p L) V = 0) := fun w V a b z => b (isW_mt hr a ((cmpW hr a).mp z))
        exact ⟨beliefR_p3 e0 e1 e2 u0 u1 u2, pw, _, _, _, _, _, beliefR_c3 e0 e1 e2, hw, beliefR_m3 (nn _ _ kO_all m0) (nn _ _ kO_checked m1) (nn _ _ kO_none m2), hp, hL, Nat.le_refl _, Or.inl ⟨rfl, Or.inl rfl⟩⟩
