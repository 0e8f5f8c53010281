/-! what is made: new cells come one behind the other -/
theorem hNew_s {h : xH} {e : gE} : hAt (hNew h e) h.1 = some e := by simp [hAt, hNew]
theorem hNew_o {h : xH} {e e1 : gE} {q : Nat} (hq : q ≠ h.1) (h1 : hAt h q = some e1) : hAt (hNew h e) q = some e1 := by
  have : hAt (hNew h e) q = hAt h q := by simp [hAt, hNew, hq]
  rw [this]; exact h1
theorem hNew_e {h : xH} {e : gE} {q : Nat} (hq : q ≠ h.1) : hAt (hNew h e) q = hAt h q := by simp [hAt, hNew, hq]
theorem nk_new {h : xH} {e : gE} {b : Nat} {r t : Nat → Int32} {W LF KF : Nat → Nat → Int32} (hb : b + 15 ≤ h.1) (N : nk h b r t W LF KF) : nk (hNew h e) b r t W LF KF := nk_fr (fun q h1 h2 => hNew_e (by omega)) N
section XCT
variable {G : xG} {own : String} {cc : ByteArray} {nL : Nat} {nm : String} {ret : Option FieldType} {R : Room} {Z : xZ} {kc ks pc : Nat} {L : List (Nat × Value)} {st : List Value} {h : xH}
theorem arr_ext {c : ClassId} {n : Nat} {f g : Nat → Option Nat} (hfg : ∀ j, j < n → f j = g j) : vp_cell c (n, .inr (.inr (.inr (.inr f)))) = vp_cell c (n, .inr (.inr (.inr (.inr g)))) := by
  rw [vp_cell_q, vp_cell_q]
  unfold arrV
  congr 1
  apply Array.ext
  · simp
  · intro i h1 h2
    simp at h1 h2 ⊢
    rw [hfg i h1]
/-- a row of references, told by other words for the same places -/
theorem x_arrEq {a t n : Nat} {f g : Nat → Option Nat} (hM : hAt h a = some (arR t n f)) (hfg : ∀ j, j < n → f j = g j) (kk : Wp G own cc nL nm ret R Z kc ks pc L st (hSet h a (arR t n g))) : Wp G own cc nL nm ret R Z kc ks pc L st h := by
  intro p e s m args below meth c H locs ls C hH hS hl
  refine kk p e s m args below meth c H locs ls C ⟨hH.1, fun b eb hb => ?_⟩ hS hl
  by_cases hq : b = a
  · subst hq
    rw [hAt_same] at hb
    cases hb
    have h1 := hH.2 b _ hM
    refine ⟨h1.1, ?_⟩
    have h2 : H[b]? = some (vp_cell (xg_a G t) (n, .inr (.inr (.inr (.inr f))))) := h1.2
    rw [arr_ext hfg] at h2
    exact h2
  · rw [hAt_ne hq] at hb
    exact hH.2 b eb hb
theorem W.mono {p : Program} {l : Launch} {e : Env} {s : State} {m : MethodId} {args : Array Value} {below : List Frame} {meth : Method} {c : Code} {H : Heap} {locs : List Loc} {Q Q' : State → Prop} {g : JFrame} (hq : ∀ t, Q t → Q' t) (k : W p l e R s m args below meth c H locs kc ks Q g) : W p l e R s m args below meth c H locs kc ks Q' g := by
  intro T hT X
  obtain ⟨t, a1, b1⟩ := k T hT X
  exact ⟨t, a1, hq t b1⟩
theorem Wp.mono {bc bs : Nat} {Q Q' : Option Value → xH → Prop} (hq : ∀ v h', Q v h' → Q' v h') (k : Wp G own cc nL nm ret R (xZm G bc bs Q) kc ks pc L st h) : Wp G own cc nL nm ret R (xZm G bc bs Q') kc ks pc L st h := by
  intro p e s m args below meth c H locs ls C hH hS hl
  refine W.mono ?_ (k p e s m args below meth c H locs ls C hH hS hl)
  rintro t ⟨o, h1, h2, ⟨⟨v, h', e1, e2, e3⟩, hF⟩, hL⟩
  exact ⟨o, h1, h2, ⟨⟨v, h', e1, hq v h' e2, e3⟩, hF⟩, hL⟩
end XCT
theorem cNe {a i j : Nat} (h : Nat.beq i j = false) : a + i ≠ a + j := fun z => by
  have e : i = j := Nat.add_left_cancel z
  rw [e] at h
  exact absurd (Nat.beq_refl j) (by rw [h]; decide)
theorem cNeL {a j : Nat} (h : Nat.beq 0 j = false) : a ≠ a + j := cNe (i := 0) h
theorem cNeR {a i : Nat} (h : Nat.beq i 0 = false) : a + i ≠ a := cNe (j := 0) h
theorem cLt {a q k : Nat} (hq : q < a) : q ≠ a + k := by omega
theorem cLt0 {a q : Nat} (hq : q < a) : q ≠ a := by omega
theorem cTo {a i j : Nat} (h : Nat.ble (i + 1) j = true) : a + i < a + j := Nat.add_lt_add_left (Nat.le_of_ble_eq_true h) a
theorem cTo0 {a j : Nat} (h : Nat.ble 1 j = true) : a < a + j := cTo (i := 0) h
theorem cToq {a q j : Nat} (hq : q < a) : q < a + j := by omega
theorem cOut {a k b : Nat} (h : (Nat.ble (k + 1) b || Nat.ble (b + 15) k) = true) : a + k < a + b ∨ a + b + 15 ≤ a + k := by
  rw [Bool.or_eq_true] at h
  rcases h with h | h
  · have := Nat.le_of_ble_eq_true h; omega
  · have := Nat.le_of_ble_eq_true h; omega
theorem cOut0 {a b : Nat} (h : Nat.ble 1 b = true) : a < a + b ∨ a + b + 15 ≤ a := Or.inl (cTo0 h)
theorem cZ {h : xH} {a k q : Nat} (z : h.1 = a + k) (hq : q ≠ a + k) : q ≠ h.1 := by rw [z]; exact hq
theorem cZb {h : xH} {a k b : Nat} (z : h.1 = a + k) (hb : Nat.ble (b + 15) k = true) : a + b + 15 ≤ h.1 := by
  have := Nat.le_of_ble_eq_true hb
  omega
theorem cZn {h : xH} {a k : Nat} {e : gE} (z : h.1 = a + k) : (hNew h e).1 = a + (k + 1) := by
  show h.1 + 1 = _
  omega
theorem cIn {a b k q : Nat} (h2 : q < a + b + 15) (hb : Nat.ble (b + 15) k = true) : q < a + k := by
  have := Nat.le_of_ble_eq_true hb
  omega
theorem hNew_p {h : xH} {e : gE} {a k : Nat} (z : h.1 = a + k) : hAt (hNew h e) (a + k) = some e := by rw [← z]; exact hNew_s
