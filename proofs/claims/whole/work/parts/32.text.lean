/-! PURE. Part 32: the text: words, numbers, signs -/
theorem upd_upd {f : Nat → Int32} {k : Nat} {x y : Int32} : upd (upd f k x) k y = upd f k y := by
  funext j
  by_cases h : j = k
  · subst h; simp [upd]
  · simp [upd, h]
theorem n10 : ¬ ((1 : Int32) = 0) := by decide
/-- the letters of a text, and how many -/
def TX (c : Nat → Nat) (n : Nat) (lf : Nat → Int32) : Prop := n ≤ 240 ∧ ∀ j, j < n → lf j = nI (c j) ∧ 32 ≤ c j ∧ c j ≤ 126
def wdT : List (List Nat) := [[119, 97, 121, 59, 104, 111, 112, 32, 55, 48, 48, 32, 116, 101, 108, 108, 59, 104, 111, 112, 32, 51, 51, 51, 32, 115, 105, 108, 101, 110, 116, 59, 119, 97, 121, 59, 104, 111, 112, 32, 53, 48, 48, 32, 119, 114, 111, 110, 103, 59, 104, 111, 112, 32, 57, 48, 48, 32, 116, 101, 108, 108, 59, 108, 111, 115, 115, 32, 49, 48, 59, 119, 97, 121, 59, 104, 111, 112, 32, 54, 52, 48, 32, 111, 108, 100, 59], [119, 97, 121], [104, 111, 112, 32], [32], [116, 101, 108, 108], [119, 114, 111, 110, 103], [111, 108, 100], [115, 105, 108, 101, 110, 116], [108, 111, 115, 115, 32], [98, 97, 115, 101, 32], [116, 111, 112, 32], [97, 103, 101, 32], [98, 101, 108, 105, 101, 118, 101, 32], [97, 108, 108], [99, 104, 101, 99, 107, 101, 100], [110, 111, 110, 101], [100, 114, 97, 119, 115, 32], [59]]
def wd (si : Nat) : List Nat := wdT.getD si []
theorem wd_len : ∀ si, si < 18 → sLen si = nI (wd si).length ∧ xLen.getD si 0 = (wd si).length := by decide +kernel
theorem wd_ch : ∀ si, si < 18 → ∀ k, k < (wd si).length → sCh si (nI k) = nI ((wd si).getD k 0) := by decide +kernel
theorem wd_sm : ∀ si, si < 18 → (wd si).length < 100 := by decide +kernel
theorem wd_b : ∀ si, si < 18 → ∀ k, k < (wd si).length → (wd si).getD k 0 < 127 := by decide +kernel
def mt (c : Nat → Nat) (n p : Nat) (w : List Nat) : Prop := p + w.length ≤ n ∧ ∀ j, j < w.length → c (p + j) = w.getD j 0
theorem takeL {c : Nat → Nat} {n : Nat} {lf X : Nat → Int32} (h : TX c n lf) {si p : Nat} {v2 : Int32} (hs : si < 18) (hp : X 1 = nI p) (hb : p + (wd si).length ≤ n) : ∀ (k j fuel : Nat), j + k = (wd si).length → k < fuel → q_X2_take_22 fuel X lf si v2 (nI j) ∧ (((∀ i, j ≤ i → i < (wd si).length → c (p + i) = (wd si).getD i 0) ∧ l_X2_take_22 fuel X lf si v2 (nI j) = (1, upd X 1 v2)) ∨ ((¬ ∀ i, j ≤ i → i < (wd si).length → c (p + i) = (wd si).getD i 0) ∧ l_X2_take_22 fuel X lf si v2 (nI j) = (0, X))) := by
  obtain ⟨e1, e2⟩ := wd_len si hs
  have sm := wd_sm si hs
  have h240 := h.1
  intro k
  induction k with
  | zero =>
    intro j fuel e hf
    obtain ⟨f, rfl⟩ : ∃ f, fuel = f + 1 := ⟨fuel - 1, by omega⟩
    have c1 : sLen si ≤ nI j := by rw [e1]; exact nI_le (by omega) (by omega)
    rw [l_X2_take_22, q_X2_take_22, if_pos c1]
    exact ⟨⟨hs, fun _ => trivial, fun z => absurd c1 z⟩, Or.inl ⟨fun i h1 h2 => absurd h2 (by omega), rfl⟩⟩
  | succ k ih =>
    intro j fuel e hf
    obtain ⟨f, rfl⟩ : ∃ f, fuel = f + 1 := ⟨fuel - 1, by omega⟩
    have c1 : ¬ (sLen si ≤ nI j) := by rw [e1]; exact nI_ge (by omega) (by omega)
    obtain ⟨g1, g2⟩ := ih (j + 1) f (by omega) (by omega)
    have ea : X 1 + nI j = nI (p + j) := by rw [hp, nI_add]
    have hc : (nI (p + j)).toNatClampNeg = p + j := nI_clamp (by omega)
    have v1 : vp_in (nI (p + j)) 240 := vp_in_nI (by omega) (by decide)
    have v2' : vp_in (nI j) (xLen.getD si 0) := by rw [e2]; exact vp_in_nI (by omega) (by omega)
    obtain ⟨t1, t2, t3⟩ := h.2 (p + j) (by omega)
    have wb := wd_b si hs j (by omega)
    rw [l_X2_take_22, q_X2_take_22, if_neg c1, ea, hc, t1, wd_ch si hs j (by omega), nI_1]
    by_cases d : c (p + j) = (wd si).getD j 0
    · have d' : nI (c (p + j)) = nI ((wd si).getD j 0) := congrArg nI d
      rw [if_pos d']
      refine ⟨⟨hs, fun z => absurd z c1, fun _ => ⟨v1, ⟨hs, v2'⟩, fun _ => g1, fun z => absurd d' z⟩⟩, ?_⟩
      rcases g2 with ⟨a1, a2⟩ | ⟨a1, a2⟩
      · refine Or.inl ⟨fun i h1 h2 => ?_, a2⟩
        by_cases hij : i = j
        · subst hij; exact d
        · exact a1 i (by omega) h2
      · exact Or.inr ⟨fun z => a1 (fun i h1 h2 => z i (by omega) h2), a2⟩
    · have d' : ¬ (nI (c (p + j)) = nI ((wd si).getD j 0)) := fun z => d ((nI_eq (by omega) (by omega)).mp z)
      rw [if_neg d']
      exact ⟨⟨hs, fun z => absurd z c1, fun _ => ⟨v1, ⟨hs, v2'⟩, fun z => absurd z d', fun _ => trivial⟩⟩, Or.inr ⟨fun z => d (z j (Nat.le_refl _) (by omega)), rfl⟩⟩
theorem takeC {c : Nat → Nat} {n : Nat} {lf x : Nat → Int32} (h : TX c n lf) (hx : x 0 = nI n) {si p : Nat} (hs : si < 18) (hp : p ≤ n) : p_X2_take (upd x 1 (nI p)) lf si ∧ ((mt c n p (wd si) ∧ f_X2_take (upd x 1 (nI p)) lf si = (1, upd x 1 (nI (p + (wd si).length)))) ∨ (¬ mt c n p (wd si) ∧ f_X2_take (upd x 1 (nI p)) lf si = (0, upd x 1 (nI p)))) := by
  obtain ⟨e1, e2⟩ := wd_len si hs
  have sm := wd_sm si hs
  have h240 := h.1
  have e0 : (upd x 1 (nI p)) 0 = nI n := by rw [upd_o (by decide)]; exact hx
  have e3 : (upd x 1 (nI p)) 1 + sLen si = nI (p + (wd si).length) := by rw [upd_s, e1, nI_add]
  unfold p_X2_take f_X2_take
  rw [e0, e3]
  by_cases d : p + (wd si).length ≤ n
  · have d' : nI (p + (wd si).length) ≤ nI n := nI_le d (by omega)
    obtain ⟨g1, g2⟩ := takeL (X := upd x 1 (nI p)) (v2 := nI (p + (wd si).length)) h hs upd_s d (wd si).length 0 xK (by omega) (by unfold xK; omega)
    rw [nI_0, upd_upd] at g2
    rw [nI_0] at g1
    rw [if_pos d']
    refine ⟨⟨hs, fun _ => g1, fun z => absurd d' z⟩, ?_⟩
    rcases g2 with ⟨a1, a2⟩ | ⟨a1, a2⟩
    · exact Or.inl ⟨⟨d, fun j hj => a1 j (Nat.zero_le _) hj⟩, a2⟩
    · exact Or.inr ⟨fun z => a1 (fun i _ h2 => z.2 i h2), a2⟩
  · have d' : ¬ (nI (p + (wd si).length) ≤ nI n) := nI_ge (by omega) (by omega)
    rw [if_neg d']
    exact ⟨⟨hs, fun z => absurd z d', fun _ => trivial⟩, Or.inr ⟨fun z => d z.1, rfl⟩⟩
/-- figures: where they end, what they say -/
def dg (c : Nat → Nat) (n : Nat) : Nat → Nat → Nat → Nat × Nat
  | 0, p, v => (p, v)
  | f + 1, p, v => if p < n ∧ 48 ≤ c p ∧ c p ≤ 57 then dg c n f (p + 1) (10 * v + (c p - 48)) else (p, v)
theorem dg_b {c : Nat → Nat} {n : Nat} : ∀ (f p v : Nat), p ≤ n → p ≤ (dg c n f p v).1 ∧ (dg c n f p v).1 ≤ n ∧ (dg c n f p v).1 ≤ p + f ∧ (dg c n f p v).2 < 10 ^ f * (v + 1) := by
  intro f
  induction f with
  | zero => intro p v h; exact ⟨Nat.le_refl _, h, Nat.le_refl _, by show v < 10 ^ 0 * (v + 1); omega⟩
  | succ f ih =>
    intro p v h
    unfold dg
    have hp : 0 < 10 ^ f := Nat.pow_pos (by decide)
    have e : 10 ^ (f + 1) * (v + 1) = 10 ^ f * (10 * (v + 1)) := by rw [Nat.pow_succ, Nat.mul_assoc]
    by_cases d : p < n ∧ 48 ≤ c p ∧ c p ≤ 57
    · rw [if_pos d]
      obtain ⟨a1, a2, a3, a4⟩ := ih (p + 1) (10 * v + (c p - 48)) (by omega)
      refine ⟨by omega, a2, by omega, Nat.lt_of_lt_of_le a4 ?_⟩
      rw [e]
      exact Nat.mul_le_mul_left _ (by omega)
    · rw [if_neg d]
      refine ⟨Nat.le_refl _, h, by omega, ?_⟩
      rw [e]
      calc v < 1 * (10 * (v + 1)) := by omega
        _ ≤ 10 ^ f * (10 * (v + 1)) := Nat.mul_le_mul_right _ hp
theorem dgC {c : Nat → Nat} {n : Nat} {lf x t : Nat → Int32} {lo hi : Int32} (h : TX c n lf) (hx : x 0 = nI n) : ∀ (f g p v fuel : Nat), g + f = 4 → p ≤ n → f < fuel → q_X2_takeNumber_5 fuel t lf lo hi (nI g) (nI v) (upd x 1 (nI p)) ∧ l_X2_takeNumber_5 fuel t lf lo hi (nI g) (nI v) (upd x 1 (nI p)) = (nI (g + ((dg c n f p v).1 - p)), nI (dg c n f p v).2, upd x 1 (nI (dg c n f p v).1)) := by
  intro f
  have h240 := h.1
  induction f with
  | zero =>
    intro g p v fuel e hp hf
    obtain ⟨f, rfl⟩ : ∃ f, fuel = f + 1 := ⟨fuel - 1, by omega⟩
    have c1 : (4 : Int32) ≤ nI g := nI_le (a := 4) (by omega) (by omega)
    rw [l_X2_takeNumber_5, q_X2_takeNumber_5, if_pos c1]
    refine ⟨⟨fun _ => trivial, fun z => absurd c1 z⟩, ?_⟩
    show (nI g, nI v, upd x 1 (nI p)) = (nI (g + (p - p)), nI v, upd x 1 (nI p))
    rw [Nat.sub_self, Nat.add_zero]
  | succ f ih =>
    intro g p v fuel e hp hf
    obtain ⟨f', rfl⟩ : ∃ f, fuel = f + 1 := ⟨fuel - 1, by omega⟩
    have c1 : ¬ ((4 : Int32) ≤ nI g) := nI_ge (b := 4) (by omega) (by omega)
    have e0 : (upd x 1 (nI p)) 0 = nI n := by rw [upd_o (by decide)]; exact hx
    have e1 : (upd x 1 (nI p)) 1 = nI p := upd_s
    rw [l_X2_takeNumber_5, q_X2_takeNumber_5, if_neg c1, e0, e1]
    unfold dg
    by_cases d : p < n
    · have d' : ¬ (nI n ≤ nI p) := nI_ge d (by omega)
      have hc : (nI p).toNatClampNeg = p := nI_clamp (by omega)
      have vp : vp_in (nI p) 240 := vp_in_nI (by omega) (by decide)
      obtain ⟨t1, t2, t3⟩ := h.2 p d
      rw [if_neg d', hc, t1]
      by_cases a : 48 ≤ c p
      · have a' : ¬ (nI (c p) < (48 : Int32)) := nI_nlt (b := 48) a (by omega)
        rw [if_neg a']
        by_cases b : c p ≤ 57
        · have b' : ¬ ((57 : Int32) < nI (c p)) := nI_nlt (a := 57) b (by omega)
          have ev : nI v * (10 : Int32) + (nI (c p) - (48 : Int32)) = nI (10 * v + (c p - 48)) := by
            rw [show (10 : Int32) = nI 10 from rfl, show (48 : Int32) = nI 48 from rfl, pk_mul, pk_sub a, nI_add, Nat.mul_comm]
          rw [if_neg b', ev, nI_1, nI_1, upd_upd, if_pos ⟨d, a, b⟩]
          obtain ⟨g1, g2⟩ := ih (g + 1) (p + 1) (10 * v + (c p - 48)) f' (by omega) (by omega) (by omega)
          refine ⟨⟨fun z => absurd z c1, fun _ => ⟨fun z => absurd z d', fun _ => ⟨vp, fun z => absurd z a', fun _ => ⟨vp, fun z => absurd z b', fun _ => ⟨vp, g1⟩⟩⟩⟩⟩, ?_⟩
          rw [g2]
          have hb := (dg_b (c := c) (n := n) f (p + 1) (10 * v + (c p - 48)) (by omega)).1
          have ee : g + 1 + ((dg c n f (p + 1) (10 * v + (c p - 48))).1 - (p + 1)) = g + ((dg c n f (p + 1) (10 * v + (c p - 48))).1 - p) := by omega
          rw [ee]
        · have b' : (57 : Int32) < nI (c p) := nI_lt (a := 57) (by omega) (by omega)
          rw [if_pos b', if_neg (fun z => b z.2.2)]
          refine ⟨⟨fun z => absurd z c1, fun _ => ⟨fun z => absurd z d', fun _ => ⟨vp, fun z => absurd z a', fun _ => ⟨vp, fun _ => trivial, fun z => absurd b' z⟩⟩⟩⟩, ?_⟩
          show (nI g, nI v, upd x 1 (nI p)) = (nI (g + (p - p)), nI v, upd x 1 (nI p))
          rw [Nat.sub_self, Nat.add_zero]
      · have a' : nI (c p) < (48 : Int32) := nI_lt (b := 48) (by omega) (by omega)
        rw [if_pos a', if_neg (fun z => a z.2.1)]
        refine ⟨⟨fun z => absurd z c1, fun _ => ⟨fun z => absurd z d', fun _ => ⟨vp, fun _ => trivial, fun z => absurd a' z⟩⟩⟩, ?_⟩
        show (nI g, nI v, upd x 1 (nI p)) = (nI (g + (p - p)), nI v, upd x 1 (nI p))
        rw [Nat.sub_self, Nat.add_zero]
    · have d' : nI n ≤ nI p := nI_le (by omega) (by omega)
      rw [if_pos d', if_neg (fun z => d z.1)]
      refine ⟨⟨fun z => absurd z c1, fun _ => ⟨fun _ => trivial, fun z => absurd d' z⟩⟩, ?_⟩
      show (nI g, nI v, upd x 1 (nI p)) = (nI (g + (p - p)), nI v, upd x 1 (nI p))
      rw [Nat.sub_self, Nat.add_zero]
/-- a number within its bounds, or none -/
def nv (p : Nat) (d : Nat × Nat) (lo hi : Nat) : Int32 := if d.1 ≤ p then -4 else if d.2 < lo ∨ hi < d.2 then -4 else nI d.2
theorem nv_of {p lo hi : Nat} {d : Nat × Nat} (hh : hi < 10000) : nv p d lo hi = -4 ∨ ∃ v, lo ≤ v ∧ v ≤ hi ∧ p < d.1 ∧ nv p d lo hi = nI v ∧ ¬ (nv p d lo hi = -4) := by
  unfold nv
  by_cases a : d.1 ≤ p
  · rw [if_pos a]; exact Or.inl rfl
  · rw [if_neg a]
    by_cases b : d.2 < lo ∨ hi < d.2
    · rw [if_pos b]; exact Or.inl rfl
    · rw [if_neg b]; exact Or.inr ⟨d.2, by omega, by omega, by omega, rfl, nI_ne4 _ (by omega)⟩
theorem btwN {v lo hi : Nat} (hv : v < 100000) (hl : lo < 100000) (hh : hi < 100000) : (f_X4_isBetween (nI v) (nI lo) (nI hi) = 0 ∧ (v < lo ∨ hi < v)) ∨ (¬ (f_X4_isBetween (nI v) (nI lo) (nI hi) = 0) ∧ ¬ (v < lo ∨ hi < v)) := by
  unfold f_X4_isBetween
  by_cases a : v < lo
  · rw [if_pos (nI_lt a (by omega))]; exact Or.inl ⟨rfl, Or.inl a⟩
  · rw [if_neg (nI_nlt (by omega) (by omega))]
    by_cases b : hi < v
    · rw [if_pos (nI_lt b (by omega))]; exact Or.inl ⟨rfl, Or.inr b⟩
    · rw [if_neg (nI_nlt (by omega) (by omega))]; exact Or.inr ⟨n10, by omega⟩
theorem takeNumberC {c : Nat → Nat} {n : Nat} {lf x : Nat → Int32} (h : TX c n lf) (hx : x 0 = nI n) {lo hi p : Nat} (hp : p ≤ n) (hl : lo < 100000) (hh : hi < 100000) : p_X2_takeNumber (upd x 1 (nI p)) lf (nI lo) (nI hi) ∧ f_X2_takeNumber (upd x 1 (nI p)) lf (nI lo) (nI hi) = (nv p (dg c n 4 p 0) lo hi, upd x 1 (nI (dg c n 4 p 0).1)) := by
  obtain ⟨g1, g2⟩ := dgC (t := upd x 1 (nI p)) (lo := nI lo) (hi := nI hi) h hx 4 0 p 0 xK (by decide) hp (by unfold xK; omega)
  rw [nI_0] at g1 g2
  refine ⟨⟨g1, trivial⟩, ?_⟩
  unfold f_X2_takeNumber
  rw [g2]
  obtain ⟨b1, b2, b3, b4⟩ := dg_b (c := c) (n := n) 4 p 0 hp
  generalize dg c n 4 p 0 = D at *
  unfold g_X2_takeNumber_86 nv
  show (if nI (0 + (D.1 - p)) ≤ 0 then (-4 : Int32) else if f_X4_isBetween (nI D.2) (nI lo) (nI hi) = 0 then -4 else nI D.2, upd x 1 (nI D.1)) = _
  rw [Nat.zero_add]
  by_cases a : D.1 ≤ p
  · rw [if_pos a, show D.1 - p = 0 by omega, if_pos (by decide)]
  · rw [if_neg a, if_neg (nI_nle (by omega) (by omega))]
    rcases btwN (v := D.2) (lo := lo) (hi := hi) (by omega) hl hh with ⟨u1, u2⟩ | ⟨u1, u2⟩
    · rw [if_pos u1, if_pos u2]
    · rw [if_neg u1, if_neg u2]
/-- the model's look at one letter -/
theorem isAtM {c : Nat → Nat} {n : Nat} {tx m : Nat → Int32} (h : TX c n tx) (hm : m 1 = nI n) {lo hi p : Nat} (hp : p ≤ n) (hl : lo < 100000) (hh : hi < 100000) : p_X5_isAt (upd m 2 (nI p)) tx (nI lo) (nI hi) ∧ (((p < n ∧ lo ≤ c p ∧ c p ≤ hi) ∧ f_X5_isAt (upd m 2 (nI p)) tx (nI lo) (nI hi) = 1) ∨ (¬ (p < n ∧ lo ≤ c p ∧ c p ≤ hi) ∧ f_X5_isAt (upd m 2 (nI p)) tx (nI lo) (nI hi) = 0)) := by
  have h240 := h.1
  have e1 : (upd m 2 (nI p)) 1 = nI n := by rw [upd_o (by decide)]; exact hm
  have e2 : (upd m 2 (nI p)) 2 = nI p := upd_s
  unfold p_X5_isAt f_X5_isAt h_X5_isAt_8 g_X5_isAt_8
  rw [e1, e2, inB]
  by_cases d : p < n
  · have d' : ¬ (nI n ≤ nI p) := nI_ge d (by omega)
    have hc : (nI p).toNatClampNeg = p := nI_clamp (by omega)
    have vp : vp_in (nI p) 240 := vp_in_nI (by omega) (by decide)
    obtain ⟨t1, t2, t3⟩ := h.2 p d
    rw [if_neg d', hc, t1]
    refine ⟨⟨⟨fun _ => trivial, fun _ => ⟨vp, fun _ => trivial, fun _ => trivial⟩⟩, trivial⟩, ?_⟩
    rcases btwN (v := c p) (lo := lo) (hi := hi) (by omega) hl hh with ⟨u1, u2⟩ | ⟨u1, u2⟩
    · rw [if_pos u1]; exact Or.inr ⟨by omega, rfl⟩
    · rw [if_neg u1]; exact Or.inl ⟨by omega, rfl⟩
  · have d' : nI n ≤ nI p := nI_le (by omega) (by omega)
    rw [if_pos d']
    exact ⟨⟨⟨fun _ => trivial, fun z => absurd d' z⟩, trivial⟩, Or.inr ⟨fun z => d z.1, rfl⟩⟩
def sg (c : Nat → Nat) (n p s : Nat) : Prop := p < n ∧ c p = s
theorem takesSignM {c : Nat → Nat} {n : Nat} {tx m : Nat → Int32} (h : TX c n tx) (hm : m 1 = nI n) {s p : Nat} (hp : p ≤ n) (hs : s < 100000) : p_X5_takesSign (upd m 2 (nI p)) tx (nI s) ∧ ((sg c n p s ∧ f_X5_takesSign (upd m 2 (nI p)) tx (nI s) = (1, upd m 2 (nI (p + 1)))) ∨ (¬ sg c n p s ∧ f_X5_takesSign (upd m 2 (nI p)) tx (nI s) = (0, upd m 2 (nI p)))) := by
  obtain ⟨g1, g2⟩ := isAtM h hm hp hs hs
  refine ⟨⟨g1, trivial⟩, ?_⟩
  unfold f_X5_takesSign
  rcases g2 with ⟨a1, a2⟩ | ⟨a1, a2⟩
  · rw [a2, if_neg n10, upd_upd, upd_s, nI_1]
    exact Or.inl ⟨⟨a1.1, by omega⟩, rfl⟩
  · rw [a2, if_pos rfl, upd_upd, upd_s, i_add0]
    exact Or.inr ⟨fun z => a1 ⟨z.1, by rw [z.2]; exact Nat.le_refl _, by rw [z.2]; exact Nat.le_refl _⟩, rfl⟩
theorem dgM {c : Nat → Nat} {n : Nat} {tx m mm : Nat → Int32} {lo hi : Int32} (h : TX c n tx) (hm : m 1 = nI n) {p0 : Nat} (hp0 : p0 ≤ n) : ∀ (f p v fuel : Nat), p + f = p0 + 4 → p ≤ n → f < fuel → q_X5_takesNumber_20 fuel mm tx lo hi (nI p0) (upd m 2 (nI p)) (nI v) ∧ l_X5_takesNumber_20 fuel mm tx lo hi (nI p0) (upd m 2 (nI p)) (nI v) = (nI p0, upd m 2 (nI (dg c n f p v).1), nI (dg c n f p v).2) := by
  intro f
  have h240 := h.1
  have e4 : nI p0 + (4 : Int32) = nI (p0 + 4) := nI_add p0 4
  induction f with
  | zero =>
    intro p v fuel e hp hf
    obtain ⟨f, rfl⟩ : ∃ f, fuel = f + 1 := ⟨fuel - 1, by omega⟩
    have e2 : (upd m 2 (nI p)) 2 = nI p := upd_s
    have c1 : nI (p0 + 4) ≤ nI p := nI_le (by omega) (by omega)
    rw [l_X5_takesNumber_20, q_X5_takesNumber_20, e4, e2, if_pos c1]
    exact ⟨⟨fun _ => trivial, fun z => absurd c1 z⟩, rfl⟩
  | succ f ih =>
    intro p v fuel e hp hf
    obtain ⟨f', rfl⟩ : ∃ f, fuel = f + 1 := ⟨fuel - 1, by omega⟩
    have e2 : (upd m 2 (nI p)) 2 = nI p := upd_s
    have c1 : ¬ (nI (p0 + 4) ≤ nI p) := nI_ge (by omega) (by omega)
    obtain ⟨g1, g2⟩ := isAtM h hm (lo := 48) (hi := 57) hp (by decide) (by decide)
    rw [l_X5_takesNumber_20, q_X5_takesNumber_20, e4, e2, if_neg c1]
    unfold dg
    rcases g2 with ⟨a1, a2⟩ | ⟨a1, a2⟩
    · have a2' : ¬ (f_X5_isAt (upd m 2 (nI p)) tx (48 : Int32) (57 : Int32) = 0) := by
        show ¬ (f_X5_isAt (upd m 2 (nI p)) tx (nI 48) (nI 57) = 0)
        rw [a2]; exact n10
      have hc : (nI p).toNatClampNeg = p := nI_clamp (by omega)
      have vp : vp_in (nI p) 240 := vp_in_nI (by omega) (by decide)
      obtain ⟨t1, t2, t3⟩ := h.2 p a1.1
      have ev : (10 : Int32) * nI v + nI (c p) - (48 : Int32) = nI (10 * v + (c p - 48)) := by
        rw [show (10 : Int32) = nI 10 from rfl, show (48 : Int32) = nI 48 from rfl, pk_mul, nI_add, pk_sub (by omega)]
        exact congrArg nI (by omega)
      obtain ⟨k1, k2⟩ := ih (p + 1) (10 * v + (c p - 48)) f' (by omega) (by omega) (by omega)
      rw [if_neg a2', if_pos a1, hc, t1, ev, upd_upd, nI_1]
      exact ⟨⟨fun z => absurd z c1, fun _ => ⟨g1, fun z => absurd z a2', fun _ => ⟨vp, k1⟩⟩⟩, k2⟩
    · have a2' : f_X5_isAt (upd m 2 (nI p)) tx (48 : Int32) (57 : Int32) = 0 := a2
      rw [if_pos a2', if_neg a1]
      exact ⟨⟨fun z => absurd z c1, fun _ => ⟨g1, fun _ => trivial, fun z => absurd a2' z⟩⟩, rfl⟩
theorem takesNumberM {c : Nat → Nat} {n : Nat} {tx m : Nat → Int32} (h : TX c n tx) (hm : m 1 = nI n) {lo hi p : Nat} (hp : p ≤ n) (hl : lo < 100000) (hh : hi < 100000) : p_X5_takesNumber (upd m 2 (nI p)) tx (nI lo) (nI hi) ∧ ((sg c n p 32 ∧ f_X5_takesNumber (upd m 2 (nI p)) tx (nI lo) (nI hi) = (nv (p + 1) (dg c n 4 (p + 1) 0) lo hi, upd m 2 (nI (dg c n 4 (p + 1) 0).1))) ∨ (¬ sg c n p 32 ∧ f_X5_takesNumber (upd m 2 (nI p)) tx (nI lo) (nI hi) = (-4, upd m 2 (nI p)))) := by
  obtain ⟨g1, g2⟩ := takesSignM (s := 32) h hm hp (by decide)
  unfold p_X5_takesNumber f_X5_takesNumber
  rcases g2 with ⟨a1, a2⟩ | ⟨a1, a2⟩
  · have a2' : f_X5_takesSign (upd m 2 (nI p)) tx (32 : Int32) = (1, upd m 2 (nI (p + 1))) := a2
    rw [a2']
    have hp1 : p + 1 ≤ n := a1.1
    obtain ⟨k1, k2⟩ := dgM (mm := upd m 2 (nI p)) (lo := nI lo) (hi := nI hi) (p0 := p + 1) h hm hp1 4 (p + 1) 0 xK rfl hp1 (by unfold xK; omega)
    rw [nI_0] at k1 k2
    have e2 : ((1 : Int32), upd m 2 (nI (p + 1))).2 2 = nI (p + 1) := by
      show (upd m 2 (nI (p + 1))) 2 = _
      exact upd_s
    rw [e2, k2]
    refine ⟨⟨g1, fun z => absurd z n10, fun _ => ⟨k1, trivial⟩⟩, Or.inl ⟨a1, ?_⟩⟩
    obtain ⟨b1, b2, b3, b4⟩ := dg_b (c := c) (n := n) 4 (p + 1) 0 hp1
    generalize dg c n 4 (p + 1) 0 = D at *
    have h240 := h.1
    unfold g_X5_takesNumber_79 nv
    rw [inB]
    show (if (1 : Int32) = 0 then _ else ((if (upd m 2 (nI D.1)) 2 ≤ nI (p + 1) then (-4 : Int32) else if f_X4_isBetween (nI D.2) (nI lo) (nI hi) = 0 then -4 else nI D.2), upd m 2 (nI D.1))) = _
    rw [if_neg n10, upd_s]
    by_cases a : D.1 ≤ p + 1
    · rw [if_pos a, if_pos (nI_le a (by omega))]
    · rw [if_neg a, if_neg (nI_ge (by omega) (by omega))]
      rcases btwN (v := D.2) (lo := lo) (hi := hi) (by omega) hl hh with ⟨u1, u2⟩ | ⟨u1, u2⟩
      · rw [if_pos u1, if_pos u2]
      · rw [if_neg u1, if_neg u2]
  · have a2' : f_X5_takesSign (upd m 2 (nI p)) tx (32 : Int32) = (0, upd m 2 (nI p)) := a2
    rw [a2']
    exact ⟨⟨g1, fun _ => trivial, fun z => absurd rfl z⟩, Or.inr ⟨a1, rfl⟩⟩
/-- the value of k letters from s on, to the base of 32 -/
def wv (c : Nat → Nat) (s : Nat) : Nat → Nat
  | 0 => 0
  | k + 1 => 32 * wv c s k + (c (s + k) - 96)
def lw (c : Nat → Nat) (n p : Nat) : Prop := p < n ∧ 97 ≤ c p ∧ c p ≤ 122
theorem wv_lt {c : Nat → Nat} {s : Nat} : ∀ k, (∀ j, j < k → 97 ≤ c (s + j) ∧ c (s + j) ≤ 122) → wv c s k < 32 ^ k := by
  intro k
  induction k with
  | zero => intro _; show 0 < 1; decide
  | succ k ih =>
    intro h
    have a := ih (fun j hj => h j (by omega))
    have b := h k (by omega)
    show 32 * wv c s k + (c (s + k) - 96) < 32 ^ (k + 1)
    rw [Nat.pow_succ]
    omega
theorem wv_inj {c d : Nat → Nat} {s t : Nat} : ∀ k k', (∀ j, j < k → 97 ≤ c (s + j) ∧ c (s + j) ≤ 122) → (∀ j, j < k' → 97 ≤ d (t + j) ∧ d (t + j) ≤ 122) → wv c s k = wv d t k' → k = k' ∧ ∀ j, j < k → c (s + j) = d (t + j) := by
  intro k
  induction k with
  | zero =>
    intro k' _ h2 e
    cases k' with
    | zero => exact ⟨rfl, fun j hj => absurd hj (by omega)⟩
    | succ k' =>
      have b := h2 k' (by omega)
      have e' : 0 = 32 * wv d t k' + (d (t + k') - 96) := e
      omega
  | succ k ih =>
    intro k' h1 h2 e
    cases k' with
    | zero =>
      have b := h1 k (by omega)
      have e' : 32 * wv c s k + (c (s + k) - 96) = 0 := e
      omega
    | succ k' =>
      have b := h1 k (by omega)
      have b' := h2 k' (by omega)
      have e' : 32 * wv c s k + (c (s + k) - 96) = 32 * wv d t k' + (d (t + k') - 96) := e
      obtain ⟨i1, i2⟩ := ih k' (fun j hj => h1 j (by omega)) (fun j hj => h2 j (by omega)) (by omega)
      subst i1
      refine ⟨rfl, fun j hj => ?_⟩
      by_cases q : j = k
      · subst q; omega
      · exact i2 j (by omega)
def wk (k : Nat) : Int32 := if k ≤ 8 then nI k else 9
def wq (c : Nat → Nat) (s k : Nat) : Int64 := if k ≤ 8 then lN (wv c s k) else -4
theorem wordL {c : Nat → Nat} {n : Nat} {tx m mm : Nat → Int32} (h : TX c n tx) (hm : m 1 = nI n) {s : Nat} : ∀ (d k fuel : Nat), s + k + d = n → d < fuel → (∀ j, j < k → lw c n (s + j)) → ∃ L, s + k + L ≤ n ∧ (∀ j, j < k + L → lw c n (s + j)) ∧ ¬ lw c n (s + k + L) ∧ q_X5_takesWord_4 fuel mm tx (wk k) (wq c s k) (upd m 2 (nI (s + k))) ∧ l_X5_takesWord_4 fuel mm tx (wk k) (wq c s k) (upd m 2 (nI (s + k))) = (wk (k + L), wq c s (k + L), upd m 2 (nI (s + k + L))) := by
  intro d
  have h240 := h.1
  induction d with
  | zero =>
    intro k fuel e hf hl
    obtain ⟨f, rfl⟩ : ∃ f, fuel = f + 1 := ⟨fuel - 1, by omega⟩
    obtain ⟨g1, g2⟩ := isAtM h hm (lo := 97) (hi := 122) (p := s + k) (by omega) (by decide) (by decide)
    rcases g2 with ⟨a1, a2⟩ | ⟨a1, a2⟩
    · exact absurd a1.1 (by omega)
    · have a2' : f_X5_isAt (upd m 2 (nI (s + k))) tx (97 : Int32) (122 : Int32) = 0 := a2
      refine ⟨0, by omega, hl, a1, ?_, ?_⟩
      · rw [q_X5_takesWord_4]; exact ⟨g1, fun _ => trivial, fun z => absurd a2' z⟩
      · rw [l_X5_takesWord_4, if_pos a2']; rfl
  | succ d ih =>
    intro k fuel e hf hl
    obtain ⟨f, rfl⟩ : ∃ f, fuel = f + 1 := ⟨fuel - 1, by omega⟩
    obtain ⟨g1, g2⟩ := isAtM h hm (lo := 97) (hi := 122) (p := s + k) (by omega) (by decide) (by decide)
    rcases g2 with ⟨a1, a2⟩ | ⟨a1, a2⟩
    · have a2' : ¬ (f_X5_isAt (upd m 2 (nI (s + k))) tx (97 : Int32) (122 : Int32) = 0) := by
        show ¬ (f_X5_isAt (upd m 2 (nI (s + k))) tx (nI 97) (nI 122) = 0)
        rw [a2]; exact n10
      have hl' : ∀ j, j < k + 1 → lw c n (s + j) := fun j hj => by
        by_cases q : j = k
        · subst q; exact a1
        · exact hl j (by omega)
      obtain ⟨L, k1, k2, k3, k4, k5⟩ := ih (k + 1) f (by omega) (by omega) hl'
      have hc : (nI (s + k)).toNatClampNeg = s + k := nI_clamp (by omega)
      have vp : vp_in (nI (s + k)) 240 := vp_in_nI (by omega) (by decide)
      obtain ⟨t1, t2, t3⟩ := h.2 (s + k) a1.1
      have e2 : (upd m 2 (nI (s + k))) 2 = nI (s + k) := upd_s
      have hg : g_X5_takesWord_18 tx (wk k) (wq c s k) (upd m 2 (nI (s + k))) = wq c s (k + 1) ∧ (if 0 ≤ lg_cmp (wq c s (k + 1)) 0 then wk k + (1 : Int32) else 9) = wk (k + 1) := by
        unfold g_X5_takesWord_18
        rw [e2, hc, t1]
        by_cases q : k < 8
        · have q1 : wk k = nI k := if_pos (by omega)
          have q2 : wq c s k = lN (wv c s k) := if_pos (by omega)
          have q3 : wq c s (k + 1) = lN (wv c s (k + 1)) := if_pos (by omega)
          have q4 : wk (k + 1) = nI (k + 1) := if_pos (by omega)
          have hlt : wv c s (k + 1) < 32 ^ (k + 1) := wv_lt (k + 1) (fun j hj => (hl' j hj).2)
          have hp : 32 ^ (k + 1) ≤ 32 ^ 8 := Nat.pow_le_pow_right (by decide) (by omega)
          have hw : wv c s (k + 1) < 2 ^ 63 := Nat.lt_of_lt_of_le hlt (Nat.le_trans hp (by decide))
          have c8 : ¬ ((8 : Int32) ≤ nI k) := nI_ge (b := 8) q (by decide)
          rw [q1, q2, q3, q4, if_neg c8, nI_l (by omega)]
          refine ⟨?_, ?_⟩
          · rw [show (32 : Int64) = lN 32 from rfl, show (96 : Int64) = lN 96 from rfl, lN_mul, lN_add, lN_sub (by have := a1.2.1; omega)]
            exact congrArg lN (by show _ = 32 * wv c s k + (c (s + k) - 96); have := a1.2.1; omega)
          · rw [if_pos ((lg_cmp_ge _ _).mpr (by rw [show (0 : Int64) = lN 0 from rfl]; exact (pk_lLE (by decide) hw).mpr (Nat.zero_le _))), nI_1]
        · have q0 : (8 : Int32) ≤ wk k := by
            unfold wk
            by_cases q5 : k ≤ 8
            · rw [if_pos q5]; exact nI_le (a := 8) (by omega) (by omega)
            · rw [if_neg q5]; decide
          have q3 : wq c s (k + 1) = -4 := if_neg (by omega)
          have q4 : wk (k + 1) = 9 := if_neg (by omega)
          rw [if_pos q0, q3, q4]
          exact ⟨rfl, if_neg (by decide)⟩
      have hh : h_X5_takesWord_18 tx (wk k) (wq c s k) (upd m 2 (nI (s + k))) := by
        unfold h_X5_takesWord_18
        rw [e2]
        exact ⟨fun _ => trivial, fun _ => ⟨vp, trivial⟩⟩
      refine ⟨L + 1, by omega, fun j hj => k2 j (by omega), by rw [show s + k + (L + 1) = s + (k + 1) + L by omega]; exact k3, ?_, ?_⟩
      · rw [q_X5_takesWord_4, hg.1, hg.2, e2, upd_upd, nI_1]
        exact ⟨g1, fun z => absurd z a2', fun _ => ⟨hh, k4⟩⟩
      · rw [l_X5_takesWord_4, if_neg a2', hg.1, hg.2, e2, upd_upd, nI_1, show k + (L + 1) = k + 1 + L by omega, show s + k + (L + 1) = s + (k + 1) + L by omega]
        exact k5
    · have a2' : f_X5_isAt (upd m 2 (nI (s + k))) tx (97 : Int32) (122 : Int32) = 0 := a2
      refine ⟨0, by omega, hl, a1, ?_, ?_⟩
      · rw [q_X5_takesWord_4]; exact ⟨g1, fun _ => trivial, fun z => absurd a2' z⟩
      · rw [l_X5_takesWord_4, if_pos a2']; rfl
/-- the small letters that stand from p on: L of them -/
def RL_ (c : Nat → Nat) (n p L : Nat) : Prop := p + L ≤ n ∧ (∀ j, j < L → lw c n (p + j)) ∧ ¬ lw c n (p + L)
theorem takesWordM {c : Nat → Nat} {n : Nat} {tx m : Nat → Int32} (h : TX c n tx) (hm : m 1 = nI n) {p : Nat} (hp : p ≤ n) : p_X5_takesWord (upd m 2 (nI p)) tx ∧ ∃ L, RL_ c n p L ∧ f_X5_takesWord (upd m 2 (nI p)) tx = (wq c p L, upd m 2 (nI (p + L))) := by
  have h240 := h.1
  obtain ⟨L, k1, k2, k3, k4, k5⟩ := wordL (mm := upd m 2 (nI p)) (s := p) h hm (n - p) 0 xK (by omega) (by unfold xK; omega) (fun j hj => absurd hj (by omega))
  rw [Nat.add_zero] at k1 k3 k4 k5
  rw [Nat.zero_add] at k2 k5
  refine ⟨⟨k4, trivial⟩, L, ⟨k1, k2, k3⟩, ?_⟩
  unfold f_X5_takesWord
  have k5' : l_X5_takesWord_4 xK (upd m 2 (nI p)) tx 0 0 (upd m 2 (nI p)) = (wk L, wq c p L, upd m 2 (nI (p + L))) := k5
  rw [k5']
/-- the letters are just this word -/
def isW (c : Nat → Nat) (p L : Nat) (w : List Nat) : Prop := L = w.length ∧ ∀ j, j < w.length → c (p + j) = w.getD j 0
def wOK (w : List Nat) (V : Int64) : Prop := w.length ≤ 8 ∧ (∀ j, j < w.length → 97 ≤ w.getD j 0 ∧ w.getD j 0 ≤ 122) ∧ V = lN (wv (fun j => w.getD j 0) 0 w.length)
theorem cmpW {c : Nat → Nat} {n p L : Nat} {w : List Nat} {V : Int64} (hr : RL_ c n p L) (hw : wOK w V) : lg_cmp (wq c p L) V = 0 ↔ isW c p L w := by
  obtain ⟨h1, h2, h3⟩ := hw
  have h2' : ∀ j, j < w.length → 97 ≤ (fun j => w.getD j 0) (0 + j) ∧ (fun j => w.getD j 0) (0 + j) ≤ 122 := fun j hj => by
    rw [Nat.zero_add]; exact h2 j hj
  have b8 : ∀ k, k ≤ 8 → 32 ^ k ≤ 2 ^ 40 := fun k hk => Nat.le_trans (Nat.pow_le_pow_right (by decide) hk) (by decide)
  have hV : wv (fun j => w.getD j 0) 0 w.length < 2 ^ 63 := Nat.lt_of_lt_of_le (wv_lt _ h2') (Nat.le_trans (b8 _ h1) (by decide))
  rw [lg_cmp_eq, h3]
  unfold wq
  by_cases q : L ≤ 8
  · rw [if_pos q]
    have hL : ∀ j, j < L → 97 ≤ c (p + j) ∧ c (p + j) ≤ 122 := fun j hj => (hr.2.1 j hj).2
    have hv : wv c p L < 2 ^ 63 := Nat.lt_of_lt_of_le (wv_lt _ hL) (Nat.le_trans (b8 _ q) (by decide))
    rw [pk_lEQ hv hV]
    constructor
    · intro e
      obtain ⟨i1, i2⟩ := wv_inj L w.length hL h2' e
      exact ⟨i1, fun j hj => by have := i2 j (by omega); rw [Nat.zero_add] at this; exact this⟩
    · intro e
      obtain ⟨i1, i2⟩ := e
      subst i1
      have : ∀ k, k ≤ w.length → wv c p k = wv (fun j => w.getD j 0) 0 k := by
        intro k
        induction k with
        | zero => intro _; rfl
        | succ k ih =>
          intro hk
          show 32 * wv c p k + (c (p + k) - 96) = 32 * wv (fun j => w.getD j 0) 0 k + (w.getD (0 + k) 0 - 96)
          rw [ih (by omega), i2 k (by omega), Nat.zero_add]
      exact this _ (Nat.le_refl _)
  · rw [if_neg q]
    constructor
    · intro e
      have e' : (-4 : Int64).toInt = (lN (wv (fun j => w.getD j 0) 0 w.length)).toInt := congrArg Int64.toInt e
      rw [pk_lT hV] at e'
      have : (-4 : Int64).toInt = -4 := rfl
      omega
    · intro e
      exact absurd e.1 (by omega)
/-- just this word: it stands there, and no further letter behind it -/
theorem isW_iff {c : Nat → Nat} {n p L : Nat} {w : List Nat} (hr : RL_ c n p L) (hw : ∀ j, j < w.length → 97 ≤ w.getD j 0 ∧ w.getD j 0 ≤ 122) : isW c p L w ↔ mt c n p w ∧ ¬ lw c n (p + w.length) := by
  obtain ⟨r1, r2, r3⟩ := hr
  constructor
  · rintro ⟨e1, e2⟩
    subst e1
    exact ⟨⟨r1, e2⟩, r3⟩
  · rintro ⟨⟨e1, e2⟩, e3⟩
    have e4 : L = w.length := by
      by_cases a : L < w.length
      · have := hw L a
        exact absurd ⟨by omega, by rw [e2 L a]; exact this⟩ r3
      · by_cases b : w.length < L
        · exact absurd (r2 w.length b) e3
        · omega
    exact ⟨e4, e2⟩
theorem gD_l {w : List Nat} {s j : Nat} (h : j < w.length) : (w ++ [s]).getD j 0 = w.getD j 0 := by
  rw [List.getD_eq_getElem?_getD, List.getD_eq_getElem?_getD, List.getElem?_append_left h]
theorem gD_r {w : List Nat} {s : Nat} : (w ++ [s]).getD w.length 0 = s := by
  rw [List.getD_eq_getElem?_getD, List.getElem?_append_right (Nat.le_refl _), Nat.sub_self]; rfl
theorem mt_app {c : Nat → Nat} {n p s : Nat} {w : List Nat} : mt c n p (w ++ [s]) ↔ mt c n p w ∧ sg c n (p + w.length) s := by
  unfold mt sg
  rw [List.length_append, List.length_singleton]
  constructor
  · rintro ⟨h1, h2⟩
    refine ⟨⟨by omega, fun j hj => ?_⟩, by omega, ?_⟩
    · have := h2 j (by omega)
      rw [gD_l hj] at this
      exact this
    · have := h2 w.length (by omega)
      rw [gD_r] at this
      exact this
  · rintro ⟨⟨h1, h2⟩, h3, h4⟩
    refine ⟨by omega, fun j hj => ?_⟩
    by_cases a : j < w.length
    · rw [gD_l a]; exact h2 j a
    · have e : j = w.length := by omega
      subst e
      rw [gD_r]
      exact h4
/-- the word with a blank behind it -/
theorem mtB {c : Nat → Nat} {n p L : Nat} {w : List Nat} (hr : RL_ c n p L) (hw : ∀ j, j < w.length → 97 ≤ w.getD j 0 ∧ w.getD j 0 ≤ 122) : mt c n p (w ++ [32]) ↔ isW c p L w ∧ sg c n (p + w.length) 32 := by
  rw [mt_app, isW_iff hr hw]
  constructor
  · rintro ⟨a, b⟩
    exact ⟨⟨a, fun z => by have := z.2.1; have := b.2; omega⟩, b⟩
  · rintro ⟨⟨a, _⟩, b⟩
    exact ⟨a, b⟩
