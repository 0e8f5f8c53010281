/-! PURE LEVEL. Part 20: numbers, the model's row of numbers, the hop that drops a size -/
theorem upd_s {f : Nat → Int32} {k : Nat} {x : Int32} : upd f k x k = x := by simp [upd]
theorem upd_o {f : Nat → Int32} {k j : Nat} {x : Int32} (h : j ≠ k) : upd f k x j = f j := by simp [upd, h]
theorem upd_if {f : Nat → Int32} {k j : Nat} {x : Int32} : upd f k x j = if j = k then x else f j := rfl
theorem upd_self {f : Nat → Int32} {k : Nat} : upd f k (f k) = f := by
  funext j
  by_cases h : j = k
  · subst h; simp [upd]
  · simp [upd, h]
theorem i_lit (n : Nat) (h : n < 2 ^ 31) : (nI n).toInt = (n : Int) := nI_toInt h
/-- the places of a way's numbers in the model's row -/
theorem at_nI {i k : Nat} (hi : i < 4) (hk : k < 24) : f_X5_at (nI i) (nI k) = nI (7 + 24 * i + k) := by
  unfold f_X5_at
  have h24 : (24 : Int32) = nI 24 := rfl
  have h7 : (7 : Int32) = nI 7 := rfl
  rw [h24, h7, pk_mul, nI_add, nI_add]
theorem at_cl {i k : Nat} (hi : i < 4) (hk : k < 24) : (f_X5_at (nI i) (nI k)).toNatClampNeg = 7 + 24 * i + k := by
  rw [at_nI hi hk]
  exact nI_clamp (by omega)
theorem at_in {i k : Nat} (hi : i < 4) (hk : k < 24) : vp_in (f_X5_at (nI i) (nI k)) 103 := by
  rw [at_nI hi hk]
  exact vp_in_nI (by omega) (by omega)
theorem a0 {i : Nat} (hi : i < 4) : (f_X5_at (nI i) (0 : Int32)).toNatClampNeg = 7 + 24 * i + 0 := at_cl (k := 0) hi (by decide)
theorem a1 {i : Nat} (hi : i < 4) : (f_X5_at (nI i) (1 : Int32)).toNatClampNeg = 7 + 24 * i + 1 := at_cl (k := 1) hi (by decide)
theorem a2 {i : Nat} (hi : i < 4) : (f_X5_at (nI i) (2 : Int32)).toNatClampNeg = 7 + 24 * i + 2 := at_cl (k := 2) hi (by decide)
theorem a3 {i : Nat} (hi : i < 4) : (f_X5_at (nI i) (3 : Int32)).toNatClampNeg = 7 + 24 * i + 3 := at_cl (k := 3) hi (by decide)
theorem a4 {i : Nat} (hi : i < 4) : (f_X5_at (nI i) (4 : Int32)).toNatClampNeg = 7 + 24 * i + 4 := at_cl (k := 4) hi (by decide)
theorem a5 {i : Nat} (hi : i < 4) : (f_X5_at (nI i) (5 : Int32)).toNatClampNeg = 7 + 24 * i + 5 := at_cl (k := 5) hi (by decide)
theorem a6 {i : Nat} (hi : i < 4) : (f_X5_at (nI i) (6 : Int32)).toNatClampNeg = 7 + 24 * i + 6 := at_cl (k := 6) hi (by decide)
theorem a7 {i : Nat} (hi : i < 4) : (f_X5_at (nI i) (7 : Int32)).toNatClampNeg = 7 + 24 * i + 7 := at_cl (k := 7) hi (by decide)
theorem a8 {i : Nat} (hi : i < 4) : (f_X5_at (nI i) (8 : Int32)).toNatClampNeg = 7 + 24 * i + 8 := at_cl (k := 8) hi (by decide)
theorem a9 {i : Nat} (hi : i < 4) : (f_X5_at (nI i) (9 : Int32)).toNatClampNeg = 7 + 24 * i + 9 := at_cl (k := 9) hi (by decide)
theorem a10 {i : Nat} (hi : i < 4) : (f_X5_at (nI i) (10 : Int32)).toNatClampNeg = 7 + 24 * i + 10 := at_cl (k := 10) hi (by decide)
theorem a11 {i : Nat} (hi : i < 4) : (f_X5_at (nI i) (11 : Int32)).toNatClampNeg = 7 + 24 * i + 11 := at_cl (k := 11) hi (by decide)
theorem ai {i : Nat} (hi : i < 4) {k : Nat} (hk : k < 24) {x : Int32} (hx : x = nI k) : vp_in (f_X5_at (nI i) x) 103 := by rw [hx]; exact at_in hi hk
/-- a way of the class and its stretch of the model's row -/
def WR (t : Nat → Int32) (i : Nat) (w lf kf : Nat → Int32) (H : Nat) : Prop := (∀ k, k < 12 → t (7 + 24 * i + k) = w k) ∧ w 24 = nI i ∧ w 11 = nI H ∧ (∀ h, h < H → t (19 + 24 * i + h) = lf h) ∧ (∀ h, h < H → t (25 + 24 * i + h) = kf h)
def RR (t r : Nat → Int32) : Prop := ∀ k, k < 5 → t (2 + k) = r k
/-- only a way's numbers have changed -/
def FW (t t' : Nat → Int32) (i : Nat) : Prop := ∀ q, (q < 7 + 24 * i ∨ 18 + 24 * i ≤ q) → t' q = t q
theorem WR.upd {t : Nat → Int32} {i : Nat} {w lf kf : Nat → Int32} {H k : Nat} {v : Int32} (h : WR t i w lf kf H) (hk : k < 11) : WR (upd t (7 + 24 * i + k) v) i (upd w k v) lf kf H := by
  obtain ⟨h1, h2, h3, h4, h5⟩ := h
  refine ⟨fun j hj => ?_, by rw [upd_o (by omega)]; exact h2, by rw [upd_o (by omega)]; exact h3, fun j hj => by rw [upd_o (by omega)]; exact h4 j hj, fun j hj => by rw [upd_o (by omega)]; exact h5 j hj⟩
  by_cases e : j = k
  · subst e; rw [upd_s, upd_s]
  · rw [upd_o (by omega), upd_o e]; exact h1 j hj
theorem RR.upd {t r : Nat → Int32} {q : Nat} {v : Int32} (h : RR t r) (hq : 7 ≤ q) : RR (upd t q v) r := fun k hk => by rw [upd_o (by omega)]; exact h k hk
theorem FW.refl {t : Nat → Int32} {i : Nat} : FW t t i := fun _ _ => rfl
theorem FW.upd {t t' : Nat → Int32} {i k : Nat} {v : Int32} (h : FW t t' i) (hk : k < 11) : FW t (upd t' (7 + 24 * i + k) v) i := fun q hq => by rw [upd_o (by omega)]; exact h q hq
theorem FW.trans {t t1 t2 : Nat → Int32} {i : Nat} (h : FW t t1 i) (g : FW t1 t2 i) : FW t t2 i := fun q hq => (g q hq).trans (h q hq)
theorem RR.fw {t t' r : Nat → Int32} {i : Nat} (h : RR t r) (g : FW t t' i) : RR t' r := fun k hk => by rw [g (2 + k) (by omega)]; exact h k hk
/-- the first hop from h on, of n, whose limit is below a size -/
def dropS (lim : Nat → Int32) (size : Int32) : Nat → Nat → Option Nat
  | _, 0 => none
  | h, n + 1 => if lim h < size then some h else dropS lim size (h + 1) n
def dropI : Option Nat → Int32
  | some h => nI h
  | none => -4
theorem dropS_lt {lim : Nat → Int32} {size : Int32} : ∀ (n h j : Nat), dropS lim size h n = some j → h ≤ j ∧ j < h + n := by
  intro n
  induction n with
  | zero => intro h j e; cases e
  | succ n ih =>
    intro h j e
    unfold dropS at e
    by_cases c : lim h < size
    · rw [if_pos c] at e; cases e; omega
    · rw [if_neg c] at e; have := ih (h + 1) j e; omega
theorem dropS_congr {l1 l2 : Nat → Int32} {size : Int32} : ∀ (n h : Nat), (∀ j, h ≤ j → j < h + n → l1 j = l2 j) → dropS l1 size h n = dropS l2 size h n := by
  intro n
  induction n with
  | zero => intro h _; rfl
  | succ n ih =>
    intro h e
    unfold dropS
    rw [e h (by omega) (by omega), ih (h + 1) (fun j h1 h2 => e j (by omega) (by omega))]
theorem nI_ne4 (j : Nat) (h : j < 2 ^ 30) : ¬ (nI j = (-4 : Int32)) := fun e => by
  have h1 : (nI j).toInt = (j : Int) := nI_toInt (by omega)
  rw [e] at h1
  have h2 : (-4 : Int32).toInt = -4 := rfl
  omega
theorem i_nlt {a b : Int32} : (¬ a < b) ↔ b ≤ a := by
  rw [Int32.lt_iff_toInt_lt, Int32.le_iff_toInt_le]; omega
theorem i_nle {a b : Int32} : (¬ a ≤ b) ↔ b < a := by
  rw [Int32.lt_iff_toInt_lt, Int32.le_iff_toInt_le]; omega
/-- the class's loop -/
theorem dropC {w lf : Nat → Int32} {size : Int32} {H : Nat} (hH : H ≤ 6) (hw : w 11 = nI H) : ∀ (n h fuel : Nat), h + n = H → n < fuel → l_X3_dropper_2 fuel w lf size (nI h) = dropI (dropS lf size h n) ∧ q_X3_dropper_2 fuel w lf size (nI h) := by
  intro n
  induction n with
  | zero =>
    intro h fuel e hf
    obtain ⟨f, rfl⟩ : ∃ f, fuel = f + 1 := ⟨fuel - 1, by omega⟩
    have c : w 11 ≤ nI h := by rw [hw]; exact nI_le (by omega) (by omega)
    rw [l_X3_dropper_2, q_X3_dropper_2, if_pos c]
    exact ⟨rfl, fun _ => trivial, fun z => absurd c z⟩
  | succ n ih =>
    intro h fuel e hf
    obtain ⟨f, rfl⟩ : ∃ f, fuel = f + 1 := ⟨fuel - 1, by omega⟩
    have c : ¬ (w 11 ≤ nI h) := by rw [hw]; exact nI_ge (by omega) (by omega)
    have hc : (nI h).toNatClampNeg = h := nI_clamp (by omega)
    obtain ⟨g1, g2⟩ := ih (h + 1) f (by omega) (by omega)
    have hs : nI h + (1 : Int32) = nI (h + 1) := nI_1 h
    rw [l_X3_dropper_2, q_X3_dropper_2, if_neg c, hc, hs]
    unfold dropS
    by_cases d : lf h < size
    · have d' : ¬ (size ≤ lf h) := i_nle.mpr d
      rw [if_neg d', if_pos d]
      exact ⟨rfl, fun z => absurd z c, fun _ => ⟨vp_in_nI (by omega) (by omega), fun z => absurd z d', fun _ => trivial⟩⟩
    · have d' : size ≤ lf h := i_nlt.mp d
      rw [if_pos d', if_neg d]
      exact ⟨g1, fun z => absurd z c, fun _ => ⟨vp_in_nI (by omega) (by omega), fun _ => g2, fun z => absurd d' z⟩⟩
/-- the model's loop: the place where it ends -/
theorem dropM {t : Nat → Int32} {i : Nat} (hi : i < 4) {size : Int32} {H : Nat} (hH : H ≤ 6) (hw : t (7 + 24 * i + 11) = nI H) : ∀ (n h fuel : Nat), h + n = H → n < fuel → (l_X5_dropper_2 fuel t (nI i) size (nI h) = match dropS (fun j => t (19 + 24 * i + j)) size h n with | some j => nI j | none => nI H) ∧ q_X5_dropper_2 fuel t (nI i) size (nI h) := by
  intro n
  induction n with
  | zero =>
    intro h fuel e hf
    obtain ⟨f, rfl⟩ : ∃ f, fuel = f + 1 := ⟨fuel - 1, by omega⟩
    have c : t (7 + 24 * i + 11) ≤ nI h := by rw [hw]; exact nI_le (by omega) (by omega)
    rw [l_X5_dropper_2, q_X5_dropper_2, a11 hi, if_pos c]
    refine ⟨?_, ai hi (k := 11) (by decide) rfl, fun _ => trivial, fun z => absurd c z⟩
    have : h = H := by omega
    rw [this]; rfl
  | succ n ih =>
    intro h fuel e hf
    obtain ⟨f, rfl⟩ : ∃ f, fuel = f + 1 := ⟨fuel - 1, by omega⟩
    have c : ¬ (t (7 + 24 * i + 11) ≤ nI h) := by rw [hw]; exact nI_ge (by omega) (by omega)
    have h12 : (12 : Int32) + nI h = nI (12 + h) := nI_add 12 h
    have hc : (f_X5_at (nI i) ((12 : Int32) + nI h)).toNatClampNeg = 7 + 24 * i + (12 + h) := by rw [h12]; exact at_cl hi (by omega)
    have hv : vp_in (f_X5_at (nI i) ((12 : Int32) + nI h)) 103 := by rw [h12]; exact at_in hi (by omega)
    obtain ⟨g1, g2⟩ := ih (h + 1) f (by omega) (by omega)
    have hs : nI h + (1 : Int32) = nI (h + 1) := nI_1 h
    have hix : 7 + 24 * i + (12 + h) = 19 + 24 * i + h := by omega
    rw [l_X5_dropper_2, q_X5_dropper_2, a11 hi, if_neg c, hc, hs, hix]
    unfold dropS
    by_cases d : t (19 + 24 * i + h) < size
    · rw [if_pos d, if_pos d]
      exact ⟨rfl, ai hi (k := 11) (by decide) rfl, fun z => absurd z c, fun _ => ⟨hv, fun _ => trivial, fun z => absurd d z⟩⟩
    · rw [if_neg d, if_neg d]
      exact ⟨g1, ai hi (k := 11) (by decide) rfl, fun z => absurd z c, fun _ => ⟨hv, fun z => absurd z d, fun _ => g2⟩⟩
