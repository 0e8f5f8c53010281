/-! a Net with its Rules, its row of Ways and the Ways: fifteen cells one behind the other -/
def nkCell (b : Nat) (r t : Nat → Int32) (W LF KF : Nat → Nat → Int32) (k : Nat) : gE :=
  if k = 0 then ntC (b + 1) (b + 2) t else if k = 1 then ruC r else if k = 2 then arR 3 4 (fun j => some (b + 3 + 3 * j))
  else if (k - 3) % 3 = 0 then waC (b + 4 + 3 * ((k - 3) / 3)) (b + 5 + 3 * ((k - 3) / 3)) (W ((k - 3) / 3))
  else if (k - 3) % 3 = 1 then arI 6 (LF ((k - 3) / 3)) else arI 6 (KF ((k - 3) / 3))
def nk (h : xH) (b : Nat) (r t : Nat → Int32) (W LF KF : Nat → Nat → Int32) : Prop := ∀ k, k < 15 → hAt h (b + k) = some (nkCell b r t W LF KF k)
section NK
variable {h h' : xH} {b : Nat} {r t : Nat → Int32} {W LF KF : Nat → Nat → Int32}
theorem nk_nt (N : nk h b r t W LF KF) : hAt h b = some (ntC (b + 1) (b + 2) t) := N 0 (by decide)
theorem nk_ru (N : nk h b r t W LF KF) : hAt h (b + 1) = some (ruC r) := N 1 (by decide)
theorem nk_wy (N : nk h b r t W LF KF) : hAt h (b + 2) = some (arR 3 4 (fun j => some (b + 3 + 3 * j))) := N 2 (by decide)
theorem nkC_wa (j : Nat) : nkCell b r t W LF KF (3 + 3 * j) = waC (b + 4 + 3 * j) (b + 5 + 3 * j) (W j) := by
  have e1 : (3 + 3 * j - 3) / 3 = j := by omega
  have e2 : (3 + 3 * j - 3) % 3 = 0 := by omega
  unfold nkCell
  rw [if_neg (by omega), if_neg (by omega), if_neg (by omega), if_pos e2, e1]
theorem nkC_la (j : Nat) : nkCell b r t W LF KF (4 + 3 * j) = arI 6 (LF j) := by
  have e1 : (4 + 3 * j - 3) / 3 = j := by omega
  have e2 : (4 + 3 * j - 3) % 3 = 1 := by omega
  unfold nkCell
  rw [if_neg (by omega), if_neg (by omega), if_neg (by omega), if_neg (by omega), if_pos e2, e1]
theorem nkC_ka (j : Nat) : nkCell b r t W LF KF (5 + 3 * j) = arI 6 (KF j) := by
  have e1 : (5 + 3 * j - 3) / 3 = j := by omega
  have e2 : (5 + 3 * j - 3) % 3 = 2 := by omega
  unfold nkCell
  rw [if_neg (by omega), if_neg (by omega), if_neg (by omega), if_neg (by omega), if_neg (by omega), e1]
theorem nk_wa (N : nk h b r t W LF KF) {j : Nat} (hj : j < 4) : hAt h (b + 3 + 3 * j) = some (waC (b + 4 + 3 * j) (b + 5 + 3 * j) (W j)) := by
  have := N (3 + 3 * j) (by omega)
  rw [nkC_wa, ← Nat.add_assoc] at this
  exact this
theorem nk_la (N : nk h b r t W LF KF) {j : Nat} (hj : j < 4) : hAt h (b + 4 + 3 * j) = some (arI 6 (LF j)) := by
  have := N (4 + 3 * j) (by omega)
  rw [nkC_la, ← Nat.add_assoc] at this
  exact this
theorem nk_ka (N : nk h b r t W LF KF) {j : Nat} (hj : j < 4) : hAt h (b + 5 + 3 * j) = some (arI 6 (KF j)) := by
  have := N (5 + 3 * j) (by omega)
  rw [nkC_ka, ← Nat.add_assoc] at this
  exact this
theorem nk_cases {k : Nat} (hk : k < 15) : k = 0 ∨ k = 1 ∨ k = 2 ∨ (∃ j, j < 4 ∧ k = 3 + 3 * j) ∨ (∃ j, j < 4 ∧ k = 4 + 3 * j) ∨ (∃ j, j < 4 ∧ k = 5 + 3 * j) := by
  rcases Nat.lt_or_ge k 3 with h | h
  · omega
  · have h3 : k = 3 + 3 * ((k - 3) / 3) ∨ k = 4 + 3 * ((k - 3) / 3) ∨ k = 5 + 3 * ((k - 3) / 3) := by omega
    rcases h3 with e | e | e
    · exact Or.inr (Or.inr (Or.inr (Or.inl ⟨(k - 3) / 3, by omega, e⟩)))
    · exact Or.inr (Or.inr (Or.inr (Or.inr (Or.inl ⟨(k - 3) / 3, by omega, e⟩))))
    · exact Or.inr (Or.inr (Or.inr (Or.inr (Or.inr ⟨(k - 3) / 3, by omega, e⟩))))
/-- the block, part by part -/
theorem nk_mk (h0 : hAt h b = some (ntC (b + 1) (b + 2) t)) (h1 : hAt h (b + 1) = some (ruC r)) (h2 : hAt h (b + 2) = some (arR 3 4 (fun j => some (b + 3 + 3 * j)))) (h3 : ∀ j, j < 4 → hAt h (b + 3 + 3 * j) = some (waC (b + 4 + 3 * j) (b + 5 + 3 * j) (W j))) (h4 : ∀ j, j < 4 → hAt h (b + 4 + 3 * j) = some (arI 6 (LF j))) (h5 : ∀ j, j < 4 → hAt h (b + 5 + 3 * j) = some (arI 6 (KF j))) : nk h b r t W LF KF := by
  intro k hk
  rcases nk_cases hk with rfl | rfl | rfl | ⟨j, hj, rfl⟩ | ⟨j, hj, rfl⟩ | ⟨j, hj, rfl⟩
  · exact h0
  · exact h1
  · exact h2
  · rw [nkC_wa, ← Nat.add_assoc]; exact h3 j hj
  · rw [nkC_la, ← Nat.add_assoc]; exact h4 j hj
  · rw [nkC_ka, ← Nat.add_assoc]; exact h5 j hj
theorem nk_snt {t' : Nat → Int32} (N : nk h b r t W LF KF) : nk (hSet h b (ntC (b + 1) (b + 2) t')) b r t' W LF KF :=
  nk_mk hAt_same (hAt_n (by omega) (nk_ru N)) (hAt_n (by omega) (nk_wy N)) (fun j hj => hAt_n (by omega) (nk_wa N hj)) (fun j hj => hAt_n (by omega) (nk_la N hj)) (fun j hj => hAt_n (by omega) (nk_ka N hj))
theorem nk_sru {r' : Nat → Int32} (N : nk h b r t W LF KF) : nk (hSet h (b + 1) (ruC r')) b r' t W LF KF :=
  nk_mk (hAt_n (by omega) (nk_nt N)) hAt_same (hAt_n (by omega) (nk_wy N)) (fun j hj => hAt_n (by omega) (nk_wa N hj)) (fun j hj => hAt_n (by omega) (nk_la N hj)) (fun j hj => hAt_n (by omega) (nk_ka N hj))
theorem va_up_s {α : Type} {f : Nat → α} {k : Nat} {v : α} : va_up f k v k = v := by simp [va_up]
theorem va_up_o {α : Type} {f : Nat → α} {k j : Nat} {v : α} (hj : j ≠ k) : va_up f k v j = f j := by simp [va_up, hj]
theorem nk_swa {w' : Nat → Int32} {i : Nat} (N : nk h b r t W LF KF) (hi : i < 4) : nk (hSet h (b + 3 + 3 * i) (waC (b + 4 + 3 * i) (b + 5 + 3 * i) w')) b r t (va_up W i w') LF KF := by
  refine nk_mk (hAt_n (by omega) (nk_nt N)) (hAt_n (by omega) (nk_ru N)) (hAt_n (by omega) (nk_wy N)) (fun j hj => ?_) (fun j hj => hAt_n (by omega) (nk_la N hj)) (fun j hj => hAt_n (by omega) (nk_ka N hj))
  by_cases e : j = i
  · subst e; rw [va_up_s]; exact hAt_same
  · rw [va_up_o e]; exact hAt_n (by omega) (nk_wa N hj)
theorem nk_sla {w' : Nat → Int32} {i : Nat} (N : nk h b r t W LF KF) (hi : i < 4) : nk (hSet h (b + 4 + 3 * i) (arI 6 w')) b r t W (va_up LF i w') KF := by
  refine nk_mk (hAt_n (by omega) (nk_nt N)) (hAt_n (by omega) (nk_ru N)) (hAt_n (by omega) (nk_wy N)) (fun j hj => hAt_n (by omega) (nk_wa N hj)) (fun j hj => ?_) (fun j hj => hAt_n (by omega) (nk_ka N hj))
  by_cases e : j = i
  · subst e; rw [va_up_s]; exact hAt_same
  · rw [va_up_o e]; exact hAt_n (by omega) (nk_la N hj)
theorem nk_ska {w' : Nat → Int32} {i : Nat} (N : nk h b r t W LF KF) (hi : i < 4) : nk (hSet h (b + 5 + 3 * i) (arI 6 w')) b r t W LF (va_up KF i w') := by
  refine nk_mk (hAt_n (by omega) (nk_nt N)) (hAt_n (by omega) (nk_ru N)) (hAt_n (by omega) (nk_wy N)) (fun j hj => hAt_n (by omega) (nk_wa N hj)) (fun j hj => hAt_n (by omega) (nk_la N hj)) (fun j hj => ?_)
  by_cases e : j = i
  · subst e; rw [va_up_s]; exact hAt_same
  · rw [va_up_o e]; exact hAt_n (by omega) (nk_ka N hj)
theorem nk_fr (hf : ∀ q, b ≤ q → q < b + 15 → hAt h' q = hAt h q) (N : nk h b r t W LF KF) : nk h' b r t W LF KF := fun k hk => (hf (b + k) (by omega) (by omega)).trans (N k hk)
theorem nk_fr1 {a : Nat} {e : gE} (ha : a < b ∨ b + 15 ≤ a) (N : nk h b r t W LF KF) : nk (hSet h a e) b r t W LF KF := nk_fr (fun q h1 h2 => hAt_ne (by omega)) N
end NK
/-- four such blocks -/
def ek (h : xH) (b : Nat) (R T : Nat → Nat → Int32) (W LF KF : Nat → Nat → Nat → Int32) : Prop := ∀ j, j < 4 → nk h (b + 15 * j) (R j) (T j) (W j) (LF j) (KF j)
section EK
variable {h h' : xH} {b : Nat} {R T : Nat → Nat → Int32} {W LF KF : Nat → Nat → Nat → Int32}
theorem ek_fr (hf : ∀ q, b ≤ q → q < b + 60 → hAt h' q = hAt h q) (E : ek h b R T W LF KF) : ek h' b R T W LF KF := fun j hj => nk_fr (fun q h1 h2 => hf q (by omega) (by omega)) (E j hj)
theorem ek_fr1 {a : Nat} {e : gE} (ha : a < b ∨ b + 60 ≤ a) (E : ek h b R T W LF KF) : ek (hSet h a e) b R T W LF KF := ek_fr (fun q h1 h2 => hAt_ne (by omega)) E
theorem ek_set {i : Nat} {r t : Nat → Int32} {w lf kf : Nat → Nat → Int32} (E : ek h b R T W LF KF) (hi : i < 4) (N : nk h' (b + 15 * i) r t w lf kf) (hf : ∀ q, b ≤ q → q < b + 60 → (q < b + 15 * i ∨ b + 15 * i + 15 ≤ q) → hAt h' q = hAt h q) : ek h' b (va_up R i r) (va_up T i t) (va_up W i w) (va_up LF i lf) (va_up KF i kf) := by
  intro j hj
  by_cases e : j = i
  · subst e; rw [va_up_s, va_up_s, va_up_s, va_up_s, va_up_s]; exact N
  · rw [va_up_o e, va_up_o e, va_up_o e, va_up_o e, va_up_o e]; exact nk_fr (fun q h1 h2 => hf q (by omega) (by omega) (by omega)) (E j hj)
end EK
/-- what may have changed -/
def fr (P : Nat → Prop) (h h' : xH) : Prop := h'.1 = h.1 ∧ ∀ q, ¬ P q → hAt h' q = hAt h q
theorem fr_refl {P : Nat → Prop} {h : xH} : fr P h h := ⟨rfl, fun _ _ => rfl⟩
theorem fr_set {P : Nat → Prop} {h h1 : xH} {a : Nat} {e : gE} (f : fr P h h1) (ha : P a) : fr P h (hSet h1 a e) := ⟨f.1, fun q hq => (hAt_ne (fun z => hq (by rw [z]; exact ha))).trans (f.2 q hq)⟩
theorem fr_trans {P : Nat → Prop} {h h1 h2 : xH} (f : fr P h h1) (g : fr P h1 h2) : fr P h h2 := ⟨g.1.trans f.1, fun q hq => (g.2 q hq).trans (f.2 q hq)⟩
theorem fr_mono {P P' : Nat → Prop} {h h1 : xH} (hp : ∀ q, P' q → P q) (f : fr P' h h1) : fr P h h1 := ⟨f.1, fun q hq => f.2 q (fun z => hq (hp q z))⟩
section XQ2
variable {G : xG} {own : String} {cc : ByteArray} {nL : Nat} {nm : String} {ret : Option FieldType} {R : Room} {Z : xZ} {kc ks pc : Nat} {L : List (Nat × Value)} {st rest : List Value} {h : xH}
variable {d n nL' idx a : Nat} {y : MethodName} {cc' : ByteArray} {ret' : Option FieldType} {As : List Value} {Q : Option Value → xH → Prop}
theorem x_cVQ {ci : Nat} {fs : List Value} (hd : decode cc pc = .ok (.invokevirtual idx, 3)) (hlk : Cond.methodLink own idx y ∈ xW) (hy : xMv y cc' nL' ret' n) (hM : hAt h a = some (.inr (ci, fs))) (hci : vwCl[ci]?.map (fun q => q.1) = some y.cls) (hlen : As.length = n) (hR : (Nat.ble (d + 1) R.frames && Nat.ble (8 + (nL' + 11) + 39 * d) R.locals) = true) (hcs : (Nat.ble kc R.cells && Nat.ble ks R.slots) = true) (hsm : Nat.ble (rest.map fun v => v.category).sum 8 = true) (hst : st = As.reverse ++ .ref a :: rest) (hct : Ct G d 0 0 y cc' nL' ret' (.ref a :: As) h Q) (kk : ∀ v h1, Q v h1 → Wp G own cc nL nm ret R Z kc ks (pc + 3) L (v.toList ++ rest) h1) : Wp G own cc nL nm ret R Z kc ks pc L st h :=
  x_callV (mc := 0) (ms := 0) hd hlk hy hM hci hlen hR hcs hsm hst hct kk
theorem x_mrgR {pc' : Nat} {L' : List (Nat × Value)} {st' : List Value} {P : xH → Prop} (f : (∀ h', P h' → Wp G own cc nL nm ret R Z kc ks pc' L' st' h') → Wp G own cc nL nm ret R Z kc ks pc L st h) (kk : ∀ h', P h' → Wp G own cc nL nm ret R Z kc ks pc' L' st' h') : Wp G own cc nL nm ret R Z kc ks pc L st h := f kk
end XQ2
