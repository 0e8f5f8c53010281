def xStr : List (String × Nat × String) := [(RX4, 44, "way;hop 700 tell;hop 333 silent;way;hop 500 wrong;hop 900 tell;loss 10;way;hop 640 old;"), (RX0, 81, "way"), (RX0, 87, "hop "), (RX0, 106, " "), (RX2, 35, "tell"), (RX2, 41, "wrong"), (RX2, 43, "old"), (RX2, 45, "silent"), (RX0, 92, "loss "), (RX0, 119, "base "), (RX0, 124, "top "), (RX0, 129, "age "), (RX0, 134, "believe "), (RX2, 47, "all"), (RX2, 49, "checked"), (RX2, 51, "none"), (RX0, 142, "draws "), (RX0, 72, ";")]
def xLen : List Nat := [87, 3, 4, 1, 4, 5, 3, 6, 5, 5, 4, 4, 8, 3, 7, 4, 6, 1]
def xByt : List (List Int32) := [[119, 97, 121, 59, 104, 111, 112, 32, 55, 48, 48, 32, 116, 101, 108, 108, 59, 104, 111, 112, 32, 51, 51, 51, 32, 115, 105, 108, 101, 110, 116, 59, 119, 97, 121, 59, 104, 111, 112, 32, 53, 48, 48, 32, 119, 114, 111, 110, 103, 59, 104, 111, 112, 32, 57, 48, 48, 32, 116, 101, 108, 108, 59, 108, 111, 115, 115, 32, 49, 48, 59, 119, 97, 121, 59, 104, 111, 112, 32, 54, 52, 48, 32, 111, 108, 100, 59], [119, 97, 121], [104, 111, 112, 32], [32], [116, 101, 108, 108], [119, 114, 111, 110, 103], [111, 108, 100], [115, 105, 108, 101, 110, 116], [108, 111, 115, 115, 32], [98, 97, 115, 101, 32], [116, 111, 112, 32], [97, 103, 101, 32], [98, 101, 108, 105, 101, 118, 101, 32], [97, 108, 108], [99, 104, 101, 99, 107, 101, 100], [110, 111, 110, 101], [100, 114, 97, 119, 115, 32], [59]]
def xNest : List Cond := [.methodLinkNest RX4 9 ⟨RX2, "<init>", "()V"⟩ "GreatProbes", .methodLinkNest RX0 11 ⟨RX1, "<init>", "()V"⟩ "GreatProbes", .methodLinkNest RX0 24 ⟨RX3, "<init>", "()V"⟩ "GreatProbes", .methodLinkNest RX4 32 ⟨RX3, "<init>", "()V"⟩ "GreatProbes", .methodLinkNest RX4 39 ⟨RX1, "<init>", "()V"⟩ "GreatProbes", .methodLinkNest RX2 31 ⟨RX4, "isBetween", "(III)Z"⟩ "GreatProbes"]
theorem xnl_X4_9 : Cond.methodLinkNest RX4 9 yX2_init "GreatProbes" ∈ xNest := List.mem_of_getElem? (i := 0) rfl
theorem xnl_X0_11 : Cond.methodLinkNest RX0 11 yX1_init "GreatProbes" ∈ xNest := List.mem_of_getElem? (i := 1) rfl
theorem xnl_X0_24 : Cond.methodLinkNest RX0 24 yX3_init "GreatProbes" ∈ xNest := List.mem_of_getElem? (i := 2) rfl
theorem xnl_X4_32 : Cond.methodLinkNest RX4 32 yX3_init "GreatProbes" ∈ xNest := List.mem_of_getElem? (i := 3) rfl
theorem xnl_X4_39 : Cond.methodLinkNest RX4 39 yX1_init "GreatProbes" ∈ xNest := List.mem_of_getElem? (i := 4) rfl
theorem xnl_X2_31 : Cond.methodLinkNest RX2 31 yX4_isBetween "GreatProbes" ∈ xNest := List.mem_of_getElem? (i := 5) rfl
/-! THE LAYER: the machine's walk with its contexts hidden (Wp), contracts of whole methods (Ct), and a pure heap (xH): which cell holds what, by its address. -/
abbrev xG : Type := Launch × va_G × (Nat → ClassId) × Nat × (Nat → Nat) × (Nat → Nat) × Nat × Nat × (Nat → Int32)
abbrev xg_D (G : xG) : va_G := G.2.1
abbrev xg_a (G : xG) : Nat → ClassId := G.2.2.1
abbrev xg_n (G : xG) : Nat := G.2.2.2.1
abbrev xg_sK (G : xG) : Nat → Nat := G.2.2.2.2.1
abbrev xg_sV (G : xG) : Nat → Nat := G.2.2.2.2.2.1
abbrev xg_b (G : xG) : Nat := G.2.2.2.2.2.2.1
abbrev xg_L (G : xG) : Nat := G.2.2.2.2.2.2.2.1
abbrev xg_x (G : xG) : Nat → Int32 := G.2.2.2.2.2.2.2.2
/-- the cells that the run may change: those that came since its start -/
def xA (G : xG) : Nat → Prop := fun q => xg_n G ≤ q
abbrev xT (G : xG) : List (ClassId × FieldType) := [(xg_a G 0, .int), (xg_a G 1, .char), (xg_a G 2, .object RX0), (xg_a G 3, .object RX3)]
/-- a cell: a row (its kind's number, its length and contents), or an object (its class's number, its fields) -/
abbrev gE : Type := (Nat × vp_A) ⊕ (Nat × List Value)
def xTo (G : xG) (e : gE) : va_E := match e with
  | .inl a => .inl (xg_a G a.1, a.2)
  | .inr o => .inr o
abbrev xH : Type := Nat × (Nat → Option gE)
def hAt (h : xH) (a : Nat) : Option gE := h.2 a
def hSet (h : xH) (a : Nat) (e : gE) : xH := (h.1, fun q => if q = a then some e else h.2 q)
def hNew (h : xH) (e : gE) : xH := (h.1 + 1, fun q => if q = h.1 then some e else h.2 q)
theorem hAt_same {h : xH} {a : Nat} {e : gE} : hAt (hSet h a e) a = some e := by simp [hAt, hSet]
theorem hAt_ne {h : xH} {a b : Nat} {e : gE} (hb : b ≠ a) : hAt (hSet h a e) b = hAt h b := by simp [hAt, hSet, hb]
/-- another cell than the one that was put: it holds another thing -/
theorem hAt_oth {h : xH} {a b : Nat} {e e0 e1 : gE} (ha : hAt h a = some e0) (hb : hAt h b = some e1) (hne : e1 ≠ e0) : hAt (hSet h a e) b = some e1 := by
  rw [hAt_ne]
  · exact hb
  · intro hq
    rw [hq, ha] at hb
    exact hne (Option.some.inj hb).symm
/-- the kind of a cell -/
def gk (e : gE) : Nat := match e with
  | .inl a => 2 * a.1
  | .inr o => 2 * o.1 + 1
theorem hAt_k {h : xH} {a b : Nat} {e e0 e1 : gE} (ha : hAt h a = some e0) (hb : hAt h b = some e1) (hne : Nat.beq (gk e1) (gk e0) = false) : hAt (hSet h a e) b = some e1 := hAt_oth ha hb (fun z => by rw [z] at hne; exact absurd (Nat.beq_refl _) (by rw [hne]; decide))
theorem hAt_n {h : xH} {a b : Nat} {e e1 : gE} (hb : b ≠ a) (h1 : hAt h b = some e1) : hAt (hSet h a e) b = some e1 := (hAt_ne hb).trans h1
theorem hSet_set {h : xH} {a : Nat} {e1 e2 : gE} : hSet (hSet h a e1) a e2 = hSet h a e2 := by
  simp only [hSet]
  congr 1
  funext q
  by_cases hq : q = a <;> simp [hq]
theorem hSet_self {h : xH} {a : Nat} {e : gE} (ha : hAt h a = some e) : hSet h a e = h := by
  obtain ⟨n, f⟩ := h
  simp only [hSet]
  congr 1
  funext q
  by_cases hq : q = a
  · simp only [hq, if_true]; exact ha.symm
  · simp [hq]
theorem hSet_comm {h : xH} {a b : Nat} {e1 e2 : gE} (hab : a ≠ b) : hSet (hSet h a e1) b e2 = hSet (hSet h b e2) a e1 := by
  simp only [hSet]
  congr 1
  funext q
  by_cases hq : q = b
  · have : ¬ q = a := fun z => hab (z.symm.trans hq)
    simp [hq, Ne.symm hab]
  · simp [hq]
/-- the machine's heap holds the pure one -/
def xHo (G : xG) (h : xH) (H : Heap) : Prop := H.size = h.1 ∧ ∀ (a : Nat) (e : gE), hAt h a = some e → xg_n G ≤ a ∧ va_at (xg_D G) vwCl (a, xTo G e) H
theorem xHo.lt {G : xG} {h : xH} {H : Heap} (hh : xHo G h H) {a : Nat} {e : gE} (ha : hAt h a = some e) : a < H.size := va_at.lt (hh.2 a e ha).2
theorem xHo.set {G : xG} {h : xH} {H H1 : Heap} {a : Nat} {e e0 : gE} (hh : xHo G h H) (ha : hAt h a = some e0) (z : H1.size = H.size) (he : va_at (xg_D G) vwCl (a, xTo G e) H1) (oq : ∀ q : Nat, q ≠ a → H1[q]? = H[q]?) : xHo G (hSet h a e) H1 := by
  refine ⟨z.trans hh.1, fun b eb hb => ?_⟩
  by_cases hq : b = a
  · subst hq
    rw [hAt_same] at hb
    cases hb
    exact ⟨(hh.2 b e0 ha).1, he⟩
  · rw [hAt_ne hq] at hb
    exact ⟨(hh.2 b eb hb).1, (hh.2 b eb hb).2.kept (oq b hq)⟩
theorem xHo.new {G : xG} {h : xH} {H H1 : Heap} {e : gE} (hh : xHo G h H) (hn : xg_n G ≤ H.size) (z : H1.size = H.size + 1) (he : va_at (xg_D G) vwCl (H.size, xTo G e) H1) (oq : ∀ q : Nat, q < H.size → H1[q]? = H[q]?) : xHo G (hNew h e) H1 := by
  refine ⟨by rw [z, hh.1]; rfl, fun b eb hb => ?_⟩
  have hs := hh.1
  by_cases hq : b = h.1
  · have : hAt (hNew h e) b = some e := by simp [hAt, hNew, hq]
    rw [this] at hb
    cases hb
    rw [hq, ← hs]
    exact ⟨hn, he⟩
  · have h2 : hAt (hNew h e) b = hAt h b := by simp [hAt, hNew, hq]
    rw [h2] at hb
    exact ⟨(hh.2 b eb hb).1, (hh.2 b eb hb).2.kept (oq b (hh.lt hb))⟩
/-- one cell of it, as the kit's world of one cell -/
theorem xHo.one {G : xG} {h : xH} {H : Heap} (hh : xHo G h H) {a : Nat} {e : gE} (ha : hAt h a = some e) : va_P (xg_D G) vwCl [(a, xTo G e)] H := by
  intro k q hk
  have hz : k < 1 := (List.getElem?_eq_some_iff.mp hk).1
  rw [show k = 0 by omega] at hk
  cases hk
  exact (hh.2 a e ha).2
/-- what holds of the tables, and of the cells that were there before the run -/
def xE (G : xG) (U : State) (H : Heap) : Prop :=
  va_K (xg_D G) vwCl (xT G) U ∧ va_AO RX0 U ∧ va_AO RX3 U ∧ (∀ w ∈ xNest, va_Nw w U) ∧ (∀ (i : Nat) (q : String × Nat × String), xStr[i]? = some q → vk_R q.1 q.2.1 q.2.2 (xg_sK G i) U) ∧ vk_S 18 xLen xByt (xg_sK G) (xg_sV G) (xA G) U H ∧ va_Z "java/lang/String" "COMPACT_STRINGS" "Z" (.int 1) (xA G) U H ∧ va_Zq "jdk/internal/util/Preconditions" "SIOOBE_FORMATTER" "Ljava/util/function/BiFunction;" (xA G) U H ∧ va_X (xg_b G) (xg_L G) (xg_x G) U H ∧ (xg_b G < H.size ∧ ¬ xA G (xg_b G)) ∧ xg_n G ≤ H.size
theorem xNest_warm {s U : State} (hW : s.WarmedH U.vm) (h : ∀ w ∈ xNest, va_Nw w s) : ∀ w ∈ xNest, va_Nw w U := by
  intro w hw
  have h1 := h w hw
  simp only [xNest, List.mem_cons, List.not_mem_nil, or_false] at hw
  rcases hw with rfl | rfl | rfl | rfl | rfl | rfl <;> exact va_Nw.warmM hW h1
theorem xE.warm {G : xG} {s U : State} {H : Heap} (hW : s.WarmedH U.vm) (h : xE G s H) : xE G U H := by
  obtain ⟨h1, h2, h3, h4, h5, h6, h7, h8, h9, h10, h11⟩ := h
  exact ⟨h1.moved hW.alike, h2.moved hW.alike, h3.moved hW.alike, xNest_warm hW h4, fun i q hq => (h5 i q hq).warm hW, h6.moved hW.alike, h7.moved hW.alike, h8.moved hW.alike, h9.moved hW.alike, h10, h11⟩
theorem xE.same {G : xG} {u U : State} {H : Heap} (hv : U.vm = u.vm) (h : xE G u H) : xE G U H := by
  obtain ⟨h1, h2, h3, h4, h5, h6, h7, h8, h9, h10, h11⟩ := h
  have ha : u.vm.Alike U.vm := by rw [hv]; exact Vm.Alike.refl u.vm
  exact ⟨h1.moved ha, h2.moved ha, h3.moved ha, fun w hw => va_Nw.same (by
    simp only [xNest, List.mem_cons, List.not_mem_nil, or_false] at hw
    rcases hw with rfl | rfl | rfl | rfl | rfl | rfl <;> rfl) hv.symm (h4 w hw), fun i q hq => (h5 i q hq).same hv, h6.moved ha, h7.moved ha, h8.moved ha, h9.moved ha, h10, h11⟩
theorem xE.kept {G : xG} {U : State} {H0 H : Heap} {locs : List Loc} (h : xE G U H0) (hS : va_S (xA G) H0 H locs) : xE G U H := by
  obtain ⟨h1, h2, h3, h4, h5, h6, h7, h8, h9, h10, h11⟩ := h
  exact ⟨h1, h2, h3, h4, h5, h6.kept hS.2.1, h7.kept hS.2.1, h8.kept hS.2.1, h9.kept (hS.2.1 _ h10.1 h10.2), ⟨Nat.lt_of_lt_of_le h10.1 hS.1, h10.2⟩, Nat.le_trans h11 hS.1⟩
/-- a method's context: its code, its class, the tables' words, what its end must be -/
def xC (G : xG) (own : String) (cc : ByteArray) (nL : Nat) (nm : String) (ret : Option FieldType) (p : Program) (s : State) (m : MethodId) (args : Array Value) (meth : Method) (c : Code) : Prop :=
  p.tables.exec = Jvm.exec ∧ c.code = cc ∧ c.maxLocals = nL ∧ s.vm.findClass own = some m.cls ∧ (∀ w ∈ xW, w.before args s = true) ∧ meth.sig.returnType = ret ∧ meth.locks = false ∧ meth.name = nm ∧ xE G s s.heap
abbrev xZ : Type := List Frame → Array Value → State → State → Prop
/-- the machine goes on well from here: at pc, locals L, stack st, heap h, kc cells of ks slots made so far -/
def Wp (G : xG) (own : String) (cc : ByteArray) (nL : Nat) (nm : String) (ret : Option FieldType) (R : Room) (Z : xZ) (kc ks pc : Nat) (L : List (Nat × Value)) (st : List Value) (h : xH) : Prop :=
  ∀ (p : Program) (e : Env) (s : State) (m : MethodId) (args : Array Value) (below : List Frame) (meth : Method) (c : Code) (H : Heap) (locs : List Loc) (ls : Array Slot),
    xC G own cc nL nm ret p s m args meth c → xHo G h H → va_S (xA G) s.heap H locs → lv_has ls nL L → W p G.1 e R s m args below meth c H locs kc ks (Z below args s) (F0 m pc ls st)
theorem Wp.eqh {G : xG} {own : String} {cc : ByteArray} {nL : Nat} {nm : String} {ret : Option FieldType} {R : Room} {Z : xZ} {kc ks pc : Nat} {L : List (Nat × Value)} {st : List Value} {h h' : xH} (e : h = h') (kk : Wp G own cc nL nm ret R Z kc ks pc L st h') : Wp G own cc nL nm ret R Z kc ks pc L st h := e ▸ kk
theorem Wp.eqz {G : xG} {own : String} {cc : ByteArray} {nL : Nat} {nm : String} {ret : Option FieldType} {R : Room} {Z Z' : xZ} {kc ks pc : Nat} {L : List (Nat × Value)} {st : List Value} {h : xH} (e : Z = Z') (kk : Wp G own cc nL nm ret R Z' kc ks pc L st h) : Wp G own cc nL nm ret R Z kc ks pc L st h := e ▸ kk
theorem Wp.eqs {G : xG} {own : String} {cc : ByteArray} {nL : Nat} {nm : String} {ret : Option FieldType} {R : Room} {Z : xZ} {kc ks pc : Nat} {L L' : List (Nat × Value)} {st st' : List Value} {h : xH} (e : L = L') (e2 : st = st') (kk : Wp G own cc nL nm ret R Z kc ks pc L' st' h) : Wp G own cc nL nm ret R Z kc ks pc L st h := e ▸ e2 ▸ kk
abbrev xR (d bc bs : Nat) : Room := { frames := d, cells := bc, slots := bs, locals := 39 * d }
/-- a whole method's end -/
def xQ (G : xG) (Q : Option Value → xH → Prop) : Array Value → State → Outcome → State → Prop := fun _ st o t => (∃ (v : Option Value) (h' : xH), o = .returned v ∧ Q v h' ∧ xHo G h' t.heap) ∧ va_F (xA G) st t
def xZm (G : xG) (bc bs : Nat) (Q : Option Value → xH → Prop) : xZ := fun below args s => MQ below (xQ G Q) args s bc bs (xA G)
/-- a method's contract: at most d frames above it, at most bc cells of bs slots; from the arguments av and the heap h it returns, with Q -/
def Ct (G : xG) (d bc bs : Nat) (y : MethodName) (cc : ByteArray) (nL : Nat) (ret : Option FieldType) (av : List Value) (h : xH) (Q : Option Value → xH → Prop) : Prop :=
  Met G.1 y (Cond.code y cc nL ret :: xW) (xR d bc bs) (va_Pc av (fun U => xE G U U.heap ∧ xHo G h U.heap)) (xQ G Q) bc bs (xA G)
theorem Ct.of {G : xG} {d bc bs : Nat} {y : MethodName} {cc : ByteArray} {nL : Nat} {ret : Option FieldType} {av : List Value} {h : xH} {Q : Option Value → xH → Prop} (hy : plainName y.cls = true) (hav : Nat.ble (lg_sl av).length nL = true)
    (k : Wp G y.cls cc nL y.name ret (xR d bc bs) (xZm G bc bs Q) 0 0 0 (lv_args 0 av) [] h) : Ct G d bc bs y cc nL ret av h Q := by
  refine Met.ofW (cc := cc) (maxL := nL) (ret := ret) hy rfl ?_
  intro p e s m args below meth c s₁ B hml hv
  obtain ⟨rfl, hE, hH⟩ := hv
  have hts := atoms_spec (ws := Cond.code y cc nL ret :: xW) B.pre
  have hl := lv_entry av (n := nL) (Nat.le_of_ble_eq_true hav)
  rw [lg_entry_eq]
  exact k p e s m av.toArray below meth c s.heap [] _ ⟨B.exec, B.bytes, hml, findClass_of_methodNamed B.named, fun w hw => hts w (List.mem_cons_of_mem _ hw), B.returns, B.notSynchronized, (name_of_methodNamed B.named B.method).1, hE⟩ hH va_S.rf hl
/-- less is asked of the end -/
theorem Ct.mono {G : xG} {d bc bs : Nat} {y : MethodName} {cc : ByteArray} {nL : Nat} {ret : Option FieldType} {av : List Value} {h : xH} {Q Q' : Option Value → xH → Prop} (hq : ∀ v h', Q v h' → Q' v h') (k : Ct G d bc bs y cc nL ret av h Q) : Ct G d bc bs y cc nL ret av h Q' := by
  intro p e ha hc hk s m args below hf happ hpre hK
  obtain ⟨n, o, h1, h2, h3, ⟨⟨⟨v, h', e1, e2, e3⟩, hF⟩, hL⟩⟩ := k p e ha hc hk s m args below hf happ hpre hK
  exact ⟨n, o, h1, h2, h3, ⟨⟨⟨v, h', e1, hq v h' e2, e3⟩, hF⟩, hL⟩⟩

section XR
variable {G : xG} {own : String} {cc : ByteArray} {nL : Nat} {nm : String} {ret : Option FieldType} {R : Room} {Z : xZ} {kc ks pc : Nat} {L : List (Nat × Value)} {st : List Value} {h : xH}
/-- the value of a local -/
def xlk : List (Nat × Value) → Nat → Option Value
  | [], _ => none
  | q :: l, k => match Nat.beq q.1 k with
    | true => some q.2
    | false => xlk l k
theorem xlk_in : ∀ {L : List (Nat × Value)} {k : Nat} {v : Value}, xlk L k = some v → (k, v) ∈ L
  | [], k, v, hk => by simp [xlk] at hk
  | q :: l, k, v, hk => by
    unfold xlk at hk
    cases hb : Nat.beq q.1 k with
    | true =>
      rw [hb] at hk
      have e : q.1 = k := Nat.eq_of_beq_eq_true hb
      have e2 : q.2 = v := Option.some.inj hk
      rw [← e, ← e2]
      exact List.mem_cons_self
    | false =>
      rw [hb] at hk
      exact List.mem_cons_of_mem _ (xlk_in hk)
/-- locals behind a store of one slot, of two -/
abbrev xs1 (L : List (Nat × Value)) (i : Nat) (v : Value) : List (Nat × Value) := (i, v) :: L.filter (fun q => !(q.1 == i) && !(q.1 + 1 == i && q.2.category == 2))
abbrev xs2 (L : List (Nat × Value)) (i : Nat) (v : Value) : List (Nat × Value) := (i, v) :: L.filter (fun q => !(q.1 == i) && (!(q.1 == i + 1) && !(q.1 + 1 == i && q.2.category == 2)))
theorem lv_in {ls : Array Slot} {n : Nat} {L : List (Nat × Value)} (hl : lv_has ls n L) {k : Nat} {v : Value} (hk : xlk L k = some v) : ls[k]? = some (.val v) := hl.2.2 _ (xlk_in hk)
theorem x_iconst {n : Int} {v : Int32} (hd : decode cc pc = .ok (.iconst n, 1)) (hv : Int32.ofInt n = v) (kk : Wp G own cc nL nm ret R Z kc ks (pc + 1) L (.int v :: st) h) : Wp G own cc nL nm ret R Z kc ks pc L (st) h := by
  intro p e s m args below meth c H locs ls C hH hS hl
  exact lv_iconst C.1 C.2.1 hd hv (kk p e s m args below meth c H locs ls C hH hS hl)
theorem x_bipush {n : Int} {v : Int32} (hd : decode cc pc = .ok (.bipush n, 2)) (hv : (Int8.ofInt n).toInt32 = v) (kk : Wp G own cc nL nm ret R Z kc ks (pc + 2) L (.int v :: st) h) : Wp G own cc nL nm ret R Z kc ks pc L (st) h := by
  intro p e s m args below meth c H locs ls C hH hS hl
  exact lv_bipush C.1 C.2.1 hd hv (kk p e s m args below meth c H locs ls C hH hS hl)
theorem x_sipush {n : Int} {v : Int32} (hd : decode cc pc = .ok (.sipush n, 3)) (hv : (Int16.ofInt n).toInt32 = v) (kk : Wp G own cc nL nm ret R Z kc ks (pc + 3) L (.int v :: st) h) : Wp G own cc nL nm ret R Z kc ks pc L (st) h := by
  intro p e s m args below meth c H locs ls C hH hS hl
  exact lv_sipush C.1 C.2.1 hd hv (kk p e s m args below meth c H locs ls C hH hS hl)
theorem x_lconst {n : Fin 2} {v : Int64} (hd : decode cc pc = .ok (.lconst n, 1)) (hv : Int64.ofNat (n : Nat) = v) (kk : Wp G own cc nL nm ret R Z kc ks (pc + 1) L (.long v :: st) h) : Wp G own cc nL nm ret R Z kc ks pc L (st) h := by
  intro p e s m args below meth c H locs ls C hH hS hl
  exact lv_lconst C.1 C.2.1 hd hv (kk p e s m args below meth c H locs ls C hH hS hl)
theorem x_ldc {idx : Nat} {v : Int32} (hd : decode cc pc = .ok (.ldc idx, 2)) (hv : Cond.constant own idx v ∈ xW) (kk : Wp G own cc nL nm ret R Z kc ks (pc + 2) L (.int v :: st) h) : Wp G own cc nL nm ret R Z kc ks pc L (st) h := by
  intro p e s m args below meth c H locs ls C hH hS hl
  exact lv_ldc C.1 C.2.1 C.2.2.2.1 (C.2.2.2.2.1 _ hv) hd (kk p e s m args below meth c H locs ls C hH hS hl)
theorem x_ldc2 {idx : Nat} {v : Int64} (hd : decode cc pc = .ok (.ldc2_w idx, 3)) (hv : Cond.constantLong own idx v ∈ xW) (kk : Wp G own cc nL nm ret R Z kc ks (pc + 3) L (.long v :: st) h) : Wp G own cc nL nm ret R Z kc ks pc L (st) h := by
  intro p e s m args below meth c H locs ls C hH hS hl
  exact lv_ldc2 C.1 C.2.1 C.2.2.2.1 (C.2.2.2.2.1 _ hv) hd (kk p e s m args below meth c H locs ls C hH hS hl)
theorem x_ldcS {idx i : Nat} {tx : String} (hd : decode cc pc = .ok (.ldc idx, 2)) (hv : xStr[i]? = some (own, idx, tx)) (kk : Wp G own cc nL nm ret R Z kc ks (pc + 2) L (.ref (xg_sK G i) :: st) h) : Wp G own cc nL nm ret R Z kc ks pc L (st) h := by
  intro p e s m args below meth c H locs ls C hH hS hl
  exact va_ldcS C.1 C.2.1 C.2.2.2.1 (C.2.2.2.2.2.2.2.2.2.2.2.2.1 i (own, idx, tx) hv) hd (kk p e s m args below meth c H locs ls C hH hS hl)
theorem x_iload_n {k : Fin 4} {x : Int32} (hd : decode cc pc = .ok (.iload_n k, 1)) (hv : xlk L (k : Nat) = some (.int x)) (kk : Wp G own cc nL nm ret R Z kc ks (pc + 1) L (.int x :: st) h) : Wp G own cc nL nm ret R Z kc ks pc L (st) h := by
  intro p e s m args below meth c H locs ls C hH hS hl
  exact lv_iload_n C.1 C.2.1 hd rfl (lv_in hl hv) (kk p e s m args below meth c H locs ls C hH hS hl)
theorem x_iload {k : Nat} {x : Int32} (hd : decode cc pc = .ok (.iload k, 2)) (hv : xlk L k = some (.int x)) (kk : Wp G own cc nL nm ret R Z kc ks (pc + 2) L (.int x :: st) h) : Wp G own cc nL nm ret R Z kc ks pc L (st) h := by
  intro p e s m args below meth c H locs ls C hH hS hl
  exact lv_iload C.1 C.2.1 hd (lv_in hl hv) (kk p e s m args below meth c H locs ls C hH hS hl)
theorem x_lload_n {k : Fin 4} {x : Int64} (hd : decode cc pc = .ok (.lload_n k, 1)) (hv : xlk L (k : Nat) = some (.long x)) (kk : Wp G own cc nL nm ret R Z kc ks (pc + 1) L (.long x :: st) h) : Wp G own cc nL nm ret R Z kc ks pc L (st) h := by
  intro p e s m args below meth c H locs ls C hH hS hl
  exact lv_lload_n C.1 C.2.1 hd rfl (lv_in hl hv) (kk p e s m args below meth c H locs ls C hH hS hl)
theorem x_lload {k : Nat} {x : Int64} (hd : decode cc pc = .ok (.lload k, 2)) (hv : xlk L k = some (.long x)) (kk : Wp G own cc nL nm ret R Z kc ks (pc + 2) L (.long x :: st) h) : Wp G own cc nL nm ret R Z kc ks pc L (st) h := by
  intro p e s m args below meth c H locs ls C hH hS hl
  exact lv_lload C.1 C.2.1 hd (lv_in hl hv) (kk p e s m args below meth c H locs ls C hH hS hl)
theorem x_aload_n {k : Fin 4} {x : Nat} (hd : decode cc pc = .ok (.aload_n k, 1)) (hv : xlk L (k : Nat) = some (.ref x)) (kk : Wp G own cc nL nm ret R Z kc ks (pc + 1) L (.ref x :: st) h) : Wp G own cc nL nm ret R Z kc ks pc L (st) h := by
  intro p e s m args below meth c H locs ls C hH hS hl
  exact lv_aload_n C.1 C.2.1 hd rfl (lv_in hl hv) (kk p e s m args below meth c H locs ls C hH hS hl)
theorem x_aload {k : Nat} {x : Nat} (hd : decode cc pc = .ok (.aload k, 2)) (hv : xlk L k = some (.ref x)) (kk : Wp G own cc nL nm ret R Z kc ks (pc + 2) L (.ref x :: st) h) : Wp G own cc nL nm ret R Z kc ks pc L (st) h := by
  intro p e s m args below meth c H locs ls C hH hS hl
  exact lv_aload C.1 C.2.1 hd (lv_in hl hv) (kk p e s m args below meth c H locs ls C hH hS hl)
theorem x_istore_n {k : Fin 4} {x : Int32} {L' : List (Nat × Value)} (hd : decode cc pc = .ok (.istore_n k, 1)) (hn : Nat.ble ((k : Nat) + 1) nL = true) (hv : xs1 L (k : Nat) (.int x) = L') (kk : Wp G own cc nL nm ret R Z kc ks (pc + 1) L' (st) h) : Wp G own cc nL nm ret R Z kc ks pc L (.int x :: st) h := by
  intro p e s m args below meth c H locs ls C hH hS hl
  exact lv_istore_n (lv' := L') C.1 C.2.1 hd rfl hl (Nat.le_of_ble_eq_true hn) hv (fun ls hl => (kk p e s m args below meth c H locs ls C hH hS hl))
theorem x_istore {k : Nat} {x : Int32} {L' : List (Nat × Value)} (hd : decode cc pc = .ok (.istore k, 2)) (hn : Nat.ble (k + 1) nL = true) (hv : xs1 L k (.int x) = L') (kk : Wp G own cc nL nm ret R Z kc ks (pc + 2) L' (st) h) : Wp G own cc nL nm ret R Z kc ks pc L (.int x :: st) h := by
  intro p e s m args below meth c H locs ls C hH hS hl
  exact lv_istore (lv' := L') C.1 C.2.1 hd hl (Nat.le_of_ble_eq_true hn) hv (fun ls hl => (kk p e s m args below meth c H locs ls C hH hS hl))
theorem x_lstore_n {k : Fin 4} {x : Int64} {L' : List (Nat × Value)} (hd : decode cc pc = .ok (.lstore_n k, 1)) (hn : Nat.ble ((k : Nat) + 1 + 1) nL = true) (hv : xs2 L (k : Nat) (.long x) = L') (kk : Wp G own cc nL nm ret R Z kc ks (pc + 1) L' (st) h) : Wp G own cc nL nm ret R Z kc ks pc L (.long x :: st) h := by
  intro p e s m args below meth c H locs ls C hH hS hl
  exact lv_lstore_n (lv' := L') C.1 C.2.1 hd rfl hl (Nat.le_of_ble_eq_true hn) hv (fun ls hl => (kk p e s m args below meth c H locs ls C hH hS hl))
theorem x_lstore {k : Nat} {x : Int64} {L' : List (Nat × Value)} (hd : decode cc pc = .ok (.lstore k, 2)) (hn : Nat.ble (k + 1 + 1) nL = true) (hv : xs2 L k (.long x) = L') (kk : Wp G own cc nL nm ret R Z kc ks (pc + 2) L' (st) h) : Wp G own cc nL nm ret R Z kc ks pc L (.long x :: st) h := by
  intro p e s m args below meth c H locs ls C hH hS hl
  exact lv_lstore (lv' := L') C.1 C.2.1 hd hl (Nat.le_of_ble_eq_true hn) hv (fun ls hl => (kk p e s m args below meth c H locs ls C hH hS hl))
theorem x_astore_n {k : Fin 4} {x : Nat} {L' : List (Nat × Value)} (hd : decode cc pc = .ok (.astore_n k, 1)) (hn : Nat.ble ((k : Nat) + 1) nL = true) (hv : xs1 L (k : Nat) (.ref x) = L') (kk : Wp G own cc nL nm ret R Z kc ks (pc + 1) L' (st) h) : Wp G own cc nL nm ret R Z kc ks pc L (.ref x :: st) h := by
  intro p e s m args below meth c H locs ls C hH hS hl
  exact lv_astore_n (lv' := L') C.1 C.2.1 hd rfl hl (Nat.le_of_ble_eq_true hn) hv (fun ls hl => (kk p e s m args below meth c H locs ls C hH hS hl))
theorem x_astore {k : Nat} {x : Nat} {L' : List (Nat × Value)} (hd : decode cc pc = .ok (.astore k, 2)) (hn : Nat.ble (k + 1) nL = true) (hv : xs1 L k (.ref x) = L') (kk : Wp G own cc nL nm ret R Z kc ks (pc + 2) L' (st) h) : Wp G own cc nL nm ret R Z kc ks pc L (.ref x :: st) h := by
  intro p e s m args below meth c H locs ls C hH hS hl
  exact lv_astore (lv' := L') C.1 C.2.1 hd hl (Nat.le_of_ble_eq_true hn) hv (fun ls hl => (kk p e s m args below meth c H locs ls C hH hS hl))
theorem lv_has_get {ls : Array Slot} {n : Nat} {L : List (Nat × Value)} (hl : lv_has ls n L) {k : Nat} {v : Value} (hk : xlk L k = some v) : ∃ j : Nat, L[j]? = some (k, v) := List.getElem?_of_mem (xlk_in hk)
theorem x_iinc {k : Nat} {n : Int} {x v : Int32} {L' : List (Nat × Value)} (hd : decode cc pc = .ok (.iinc k n, 3)) (hx : xlk L k = some (.int x)) (hi : x + Int32.ofInt n = v) (hn : Nat.ble (k + 1) nL = true) (hv : xs1 L k (.int v) = L') (kk : Wp G own cc nL nm ret R Z kc ks (pc + 3) L' st h) : Wp G own cc nL nm ret R Z kc ks pc L st h := by
  intro p e s m args below meth c H locs ls C hH hS hl
  obtain ⟨j, hj⟩ := lv_has_get hl hx
  exact lv_iinc (v := v) (lv' := L') C.1 C.2.1 hd hl (k := j) hj hi (Nat.le_of_ble_eq_true hn) hv (fun ls hl => (kk p e s m args below meth c H locs ls C hH hS hl))
theorem x_iadd {x y : Int32} (hd : decode cc pc = .ok (.iadd, 1)) (kk : Wp G own cc nL nm ret R Z kc ks (pc + 1) L (.int (x + y) :: st) h) : Wp G own cc nL nm ret R Z kc ks pc L (.int y :: .int x :: st) h := by
  intro p e s m args below meth c H locs ls C hH hS hl
  exact lv_iadd C.1 C.2.1 hd (kk p e s m args below meth c H locs ls C hH hS hl)
theorem x_isub {x y : Int32} (hd : decode cc pc = .ok (.isub, 1)) (kk : Wp G own cc nL nm ret R Z kc ks (pc + 1) L (.int (x - y) :: st) h) : Wp G own cc nL nm ret R Z kc ks pc L (.int y :: .int x :: st) h := by
  intro p e s m args below meth c H locs ls C hH hS hl
  exact lv_isub C.1 C.2.1 hd (kk p e s m args below meth c H locs ls C hH hS hl)
theorem x_imul {x y : Int32} (hd : decode cc pc = .ok (.imul, 1)) (kk : Wp G own cc nL nm ret R Z kc ks (pc + 1) L (.int (x * y) :: st) h) : Wp G own cc nL nm ret R Z kc ks pc L (.int y :: .int x :: st) h := by
  intro p e s m args below meth c H locs ls C hH hS hl
  exact lv_imul C.1 C.2.1 hd (kk p e s m args below meth c H locs ls C hH hS hl)
theorem x_iand {x y : Int32} (hd : decode cc pc = .ok (.iand, 1)) (kk : Wp G own cc nL nm ret R Z kc ks (pc + 1) L (.int (x &&& y) :: st) h) : Wp G own cc nL nm ret R Z kc ks pc L (.int y :: .int x :: st) h := by
  intro p e s m args below meth c H locs ls C hH hS hl
  exact lv_iand C.1 C.2.1 hd (kk p e s m args below meth c H locs ls C hH hS hl)
theorem x_idiv {x y : Int32} (hd : decode cc pc = .ok (.idiv, 1)) (hne : ¬ y = 0) (kk : Wp G own cc nL nm ret R Z kc ks (pc + 1) L (.int (x / y) :: st) h) : Wp G own cc nL nm ret R Z kc ks pc L (.int y :: .int x :: st) h := by
  intro p e s m args below meth c H locs ls C hH hS hl
  exact lv_idiv C.1 C.2.1 hd hne (kk p e s m args below meth c H locs ls C hH hS hl)
theorem x_irem {x y : Int32} (hd : decode cc pc = .ok (.irem, 1)) (hne : ¬ y = 0) (kk : Wp G own cc nL nm ret R Z kc ks (pc + 1) L (.int (x - x / y * y) :: st) h) : Wp G own cc nL nm ret R Z kc ks pc L (.int y :: .int x :: st) h := by
  intro p e s m args below meth c H locs ls C hH hS hl
  exact lv_irem C.1 C.2.1 hd hne (kk p e s m args below meth c H locs ls C hH hS hl)
theorem x_ladd {x y : Int64} (hd : decode cc pc = .ok (.ladd, 1)) (kk : Wp G own cc nL nm ret R Z kc ks (pc + 1) L (.long (x + y) :: st) h) : Wp G own cc nL nm ret R Z kc ks pc L (.long y :: .long x :: st) h := by
  intro p e s m args below meth c H locs ls C hH hS hl
  exact lv_ladd C.1 C.2.1 hd (kk p e s m args below meth c H locs ls C hH hS hl)
theorem x_lsub {x y : Int64} (hd : decode cc pc = .ok (.lsub, 1)) (kk : Wp G own cc nL nm ret R Z kc ks (pc + 1) L (.long (x - y) :: st) h) : Wp G own cc nL nm ret R Z kc ks pc L (.long y :: .long x :: st) h := by
  intro p e s m args below meth c H locs ls C hH hS hl
  exact lv_lsub C.1 C.2.1 hd (kk p e s m args below meth c H locs ls C hH hS hl)
theorem x_lmul {x y : Int64} (hd : decode cc pc = .ok (.lmul, 1)) (kk : Wp G own cc nL nm ret R Z kc ks (pc + 1) L (.long (x * y) :: st) h) : Wp G own cc nL nm ret R Z kc ks pc L (.long y :: .long x :: st) h := by
  intro p e s m args below meth c H locs ls C hH hS hl
  exact lv_lmul C.1 C.2.1 hd (kk p e s m args below meth c H locs ls C hH hS hl)
theorem x_lrem {x y : Int64} (hd : decode cc pc = .ok (.lrem, 1)) (hne : ¬ y = 0) (kk : Wp G own cc nL nm ret R Z kc ks (pc + 1) L (.long (x - x / y * y) :: st) h) : Wp G own cc nL nm ret R Z kc ks pc L (.long y :: .long x :: st) h := by
  intro p e s m args below meth c H locs ls C hH hS hl
  exact lv_lrem C.1 C.2.1 hd hne (kk p e s m args below meth c H locs ls C hH hS hl)
theorem x_lcmp {x y : Int64} (hd : decode cc pc = .ok (.lcmp, 1)) (kk : Wp G own cc nL nm ret R Z kc ks (pc + 1) L (.int (lg_cmp x y) :: st) h) : Wp G own cc nL nm ret R Z kc ks pc L (.long y :: .long x :: st) h := by
  intro p e s m args below meth c H locs ls C hH hS hl
  exact W.lcmp C.1 C.2.1 hd (kk p e s m args below meth c H locs ls C hH hS hl)
theorem x_i2l {x : Int32} (hd : decode cc pc = .ok (.i2l, 1)) (kk : Wp G own cc nL nm ret R Z kc ks (pc + 1) L (.long x.toInt64 :: st) h) : Wp G own cc nL nm ret R Z kc ks pc L (.int x :: st) h := by
  intro p e s m args below meth c H locs ls C hH hS hl
  exact lv_i2l C.1 C.2.1 hd rfl (kk p e s m args below meth c H locs ls C hH hS hl)
theorem x_l2i {x : Int64} (hd : decode cc pc = .ok (.l2i, 1)) (kk : Wp G own cc nL nm ret R Z kc ks (pc + 1) L (.int x.toInt32 :: st) h) : Wp G own cc nL nm ret R Z kc ks pc L (.long x :: st) h := by
  intro p e s m args below meth c H locs ls C hH hS hl
  exact lv_l2i C.1 C.2.1 hd rfl (kk p e s m args below meth c H locs ls C hH hS hl)
theorem x_i2c {x : Int32} (hd : decode cc pc = .ok (.i2c, 1)) (kk : Wp G own cc nL nm ret R Z kc ks (pc + 1) L (.int (x.toUInt32 % 65536).toInt32 :: st) h) : Wp G own cc nL nm ret R Z kc ks pc L (.int x :: st) h := by
  intro p e s m args below meth c H locs ls C hH hS hl
  exact lv_i2c C.1 C.2.1 hd rfl (kk p e s m args below meth c H locs ls C hH hS hl)
theorem x_ishr {x y : Int32} (hd : decode cc pc = .ok (.ishr, 1)) (kk : Wp G own cc nL nm ret R Z kc ks (pc + 1) L (.int (x >>> (y &&& 31)) :: st) h) : Wp G own cc nL nm ret R Z kc ks pc L (.int y :: .int x :: st) h := by
  intro p e s m args below meth c H locs ls C hH hS hl
  exact lv_ishr C.1 C.2.1 hd (kk p e s m args below meth c H locs ls C hH hS hl)
theorem x_dup {v : Value} (hd : decode cc pc = .ok (.dup, 1)) (hc : v.category = 1) (kk : Wp G own cc nL nm ret R Z kc ks (pc + 1) L (v :: v :: st) h) : Wp G own cc nL nm ret R Z kc ks pc L (v :: st) h := by
  intro p e s m args below meth c H locs ls C hH hS hl
  exact lv_dup C.1 C.2.1 hd hc (kk p e s m args below meth c H locs ls C hH hS hl)
theorem x_dup2 {v w : Value} (hd : decode cc pc = .ok (.dup2, 1)) (hc : v.category = 1) (hc2 : w.category = 1) (kk : Wp G own cc nL nm ret R Z kc ks (pc + 1) L (v :: w :: v :: w :: st) h) : Wp G own cc nL nm ret R Z kc ks pc L (v :: w :: st) h := by
  intro p e s m args below meth c H locs ls C hH hS hl
  exact lv_dup2_11 C.1 C.2.1 hd hc hc2 (kk p e s m args below meth c H locs ls C hH hS hl)
theorem x_pop {v : Value} (hd : decode cc pc = .ok (.pop, 1)) (hc : v.category = 1) (kk : Wp G own cc nL nm ret R Z kc ks (pc + 1) L (st) h) : Wp G own cc nL nm ret R Z kc ks pc L (v :: st) h := by
  intro p e s m args below meth c H locs ls C hH hS hl
  exact lv_pop C.1 C.2.1 hd hc (kk p e s m args below meth c H locs ls C hH hS hl)
theorem x_goto {off : Int} {tgt : Nat} (hd : decode cc pc = .ok (.goto off, 3)) (ht : (pc : Int) + off = (tgt : Int)) (kk : Wp G own cc nL nm ret R Z kc ks tgt L (st) h) : Wp G own cc nL nm ret R Z kc ks pc L (st) h := by
  intro p e s m args below meth c H locs ls C hH hS hl
  exact lv_goto C.1 C.2.1 hd ht (kk p e s m args below meth c H locs ls C hH hS hl)
theorem x_icmp_eq {x y : Int32} {off : Int} {tgt : Nat} (hd : decode cc pc = .ok (.if_icmp .eq off, 3)) (ht : (pc : Int) + off = (tgt : Int)) (kt : x = y → Wp G own cc nL nm ret R Z kc ks tgt L st h) (kf : ¬ x = y → Wp G own cc nL nm ret R Z kc ks (pc + 3) L st h) : Wp G own cc nL nm ret R Z kc ks pc L (.int y :: .int x :: st) h := by
  intro p e s m args below meth c H locs ls C hH hS hl
  exact lv_icmp_eq C.1 C.2.1 hd ht (fun q => kt q p e s m args below meth c H locs ls C hH hS hl) (fun q => kf q p e s m args below meth c H locs ls C hH hS hl)
theorem x_if_eq {x : Int32} {off : Int} {tgt : Nat} (hd : decode cc pc = .ok (.ifCond .eq off, 3)) (ht : (pc : Int) + off = (tgt : Int)) (kt : x = 0 → Wp G own cc nL nm ret R Z kc ks tgt L st h) (kf : ¬ x = 0 → Wp G own cc nL nm ret R Z kc ks (pc + 3) L st h) : Wp G own cc nL nm ret R Z kc ks pc L (.int x :: st) h := by
  intro p e s m args below meth c H locs ls C hH hS hl
  exact lv_if_eq C.1 C.2.1 hd ht (fun q => kt q p e s m args below meth c H locs ls C hH hS hl) (fun q => kf q p e s m args below meth c H locs ls C hH hS hl)
theorem x_icmp_ne {x y : Int32} {off : Int} {tgt : Nat} (hd : decode cc pc = .ok (.if_icmp .ne off, 3)) (ht : (pc : Int) + off = (tgt : Int)) (kt : ¬ x = y → Wp G own cc nL nm ret R Z kc ks tgt L st h) (kf : x = y → Wp G own cc nL nm ret R Z kc ks (pc + 3) L st h) : Wp G own cc nL nm ret R Z kc ks pc L (.int y :: .int x :: st) h := by
  intro p e s m args below meth c H locs ls C hH hS hl
  exact lv_icmp_ne C.1 C.2.1 hd ht (fun q => kt q p e s m args below meth c H locs ls C hH hS hl) (fun q => kf q p e s m args below meth c H locs ls C hH hS hl)
theorem x_if_ne {x : Int32} {off : Int} {tgt : Nat} (hd : decode cc pc = .ok (.ifCond .ne off, 3)) (ht : (pc : Int) + off = (tgt : Int)) (kt : ¬ x = 0 → Wp G own cc nL nm ret R Z kc ks tgt L st h) (kf : x = 0 → Wp G own cc nL nm ret R Z kc ks (pc + 3) L st h) : Wp G own cc nL nm ret R Z kc ks pc L (.int x :: st) h := by
  intro p e s m args below meth c H locs ls C hH hS hl
  exact lv_if_ne C.1 C.2.1 hd ht (fun q => kt q p e s m args below meth c H locs ls C hH hS hl) (fun q => kf q p e s m args below meth c H locs ls C hH hS hl)
theorem x_icmp_lt {x y : Int32} {off : Int} {tgt : Nat} (hd : decode cc pc = .ok (.if_icmp .lt off, 3)) (ht : (pc : Int) + off = (tgt : Int)) (kt : x < y → Wp G own cc nL nm ret R Z kc ks tgt L st h) (kf : ¬ x < y → Wp G own cc nL nm ret R Z kc ks (pc + 3) L st h) : Wp G own cc nL nm ret R Z kc ks pc L (.int y :: .int x :: st) h := by
  intro p e s m args below meth c H locs ls C hH hS hl
  exact lv_icmp_lt C.1 C.2.1 hd ht (fun q => kt q p e s m args below meth c H locs ls C hH hS hl) (fun q => kf q p e s m args below meth c H locs ls C hH hS hl)
theorem x_if_lt {x : Int32} {off : Int} {tgt : Nat} (hd : decode cc pc = .ok (.ifCond .lt off, 3)) (ht : (pc : Int) + off = (tgt : Int)) (kt : x < 0 → Wp G own cc nL nm ret R Z kc ks tgt L st h) (kf : ¬ x < 0 → Wp G own cc nL nm ret R Z kc ks (pc + 3) L st h) : Wp G own cc nL nm ret R Z kc ks pc L (.int x :: st) h := by
  intro p e s m args below meth c H locs ls C hH hS hl
  exact lv_if_lt C.1 C.2.1 hd ht (fun q => kt q p e s m args below meth c H locs ls C hH hS hl) (fun q => kf q p e s m args below meth c H locs ls C hH hS hl)
theorem x_icmp_ge {x y : Int32} {off : Int} {tgt : Nat} (hd : decode cc pc = .ok (.if_icmp .ge off, 3)) (ht : (pc : Int) + off = (tgt : Int)) (kt : y ≤ x → Wp G own cc nL nm ret R Z kc ks tgt L st h) (kf : ¬ y ≤ x → Wp G own cc nL nm ret R Z kc ks (pc + 3) L st h) : Wp G own cc nL nm ret R Z kc ks pc L (.int y :: .int x :: st) h := by
  intro p e s m args below meth c H locs ls C hH hS hl
  exact lv_icmp_ge C.1 C.2.1 hd ht (fun q => kt q p e s m args below meth c H locs ls C hH hS hl) (fun q => kf q p e s m args below meth c H locs ls C hH hS hl)
theorem x_if_ge {x : Int32} {off : Int} {tgt : Nat} (hd : decode cc pc = .ok (.ifCond .ge off, 3)) (ht : (pc : Int) + off = (tgt : Int)) (kt : 0 ≤ x → Wp G own cc nL nm ret R Z kc ks tgt L st h) (kf : ¬ 0 ≤ x → Wp G own cc nL nm ret R Z kc ks (pc + 3) L st h) : Wp G own cc nL nm ret R Z kc ks pc L (.int x :: st) h := by
  intro p e s m args below meth c H locs ls C hH hS hl
  exact lv_if_ge C.1 C.2.1 hd ht (fun q => kt q p e s m args below meth c H locs ls C hH hS hl) (fun q => kf q p e s m args below meth c H locs ls C hH hS hl)
theorem x_icmp_gt {x y : Int32} {off : Int} {tgt : Nat} (hd : decode cc pc = .ok (.if_icmp .gt off, 3)) (ht : (pc : Int) + off = (tgt : Int)) (kt : y < x → Wp G own cc nL nm ret R Z kc ks tgt L st h) (kf : ¬ y < x → Wp G own cc nL nm ret R Z kc ks (pc + 3) L st h) : Wp G own cc nL nm ret R Z kc ks pc L (.int y :: .int x :: st) h := by
  intro p e s m args below meth c H locs ls C hH hS hl
  exact lv_icmp_gt C.1 C.2.1 hd ht (fun q => kt q p e s m args below meth c H locs ls C hH hS hl) (fun q => kf q p e s m args below meth c H locs ls C hH hS hl)
theorem x_if_gt {x : Int32} {off : Int} {tgt : Nat} (hd : decode cc pc = .ok (.ifCond .gt off, 3)) (ht : (pc : Int) + off = (tgt : Int)) (kt : 0 < x → Wp G own cc nL nm ret R Z kc ks tgt L st h) (kf : ¬ 0 < x → Wp G own cc nL nm ret R Z kc ks (pc + 3) L st h) : Wp G own cc nL nm ret R Z kc ks pc L (.int x :: st) h := by
  intro p e s m args below meth c H locs ls C hH hS hl
  exact lv_if_gt C.1 C.2.1 hd ht (fun q => kt q p e s m args below meth c H locs ls C hH hS hl) (fun q => kf q p e s m args below meth c H locs ls C hH hS hl)
theorem x_icmp_le {x y : Int32} {off : Int} {tgt : Nat} (hd : decode cc pc = .ok (.if_icmp .le off, 3)) (ht : (pc : Int) + off = (tgt : Int)) (kt : x ≤ y → Wp G own cc nL nm ret R Z kc ks tgt L st h) (kf : ¬ x ≤ y → Wp G own cc nL nm ret R Z kc ks (pc + 3) L st h) : Wp G own cc nL nm ret R Z kc ks pc L (.int y :: .int x :: st) h := by
  intro p e s m args below meth c H locs ls C hH hS hl
  exact lv_icmp_le C.1 C.2.1 hd ht (fun q => kt q p e s m args below meth c H locs ls C hH hS hl) (fun q => kf q p e s m args below meth c H locs ls C hH hS hl)
theorem x_if_le {x : Int32} {off : Int} {tgt : Nat} (hd : decode cc pc = .ok (.ifCond .le off, 3)) (ht : (pc : Int) + off = (tgt : Int)) (kt : x ≤ 0 → Wp G own cc nL nm ret R Z kc ks tgt L st h) (kf : ¬ x ≤ 0 → Wp G own cc nL nm ret R Z kc ks (pc + 3) L st h) : Wp G own cc nL nm ret R Z kc ks pc L (.int x :: st) h := by
  intro p e s m args below meth c H locs ls C hH hS hl
  exact lv_if_le C.1 C.2.1 hd ht (fun q => kt q p e s m args below meth c H locs ls C hH hS hl) (fun q => kf q p e s m args below meth c H locs ls C hH hS hl)
theorem x_tabIn {dflt lo hi : Int} {offs : Array Int} {len : Nat} {x : Int32} {off : Int} {tgt : Nat} (hd : decode cc pc = .ok (.tableswitch dflt lo hi offs, len)) (h1 : ¬ x.toInt < lo) (h2 : ¬ hi < x.toInt) (ho : offs[(x.toInt - lo).toNat]? = some off) (ht : (pc : Int) + off = (tgt : Int)) (kk : Wp G own cc nL nm ret R Z kc ks tgt L st h) : Wp G own cc nL nm ret R Z kc ks pc L (.int x :: st) h := by
  intro p e s m args below meth c H locs ls C hH hS hl
  exact lv_tableIn C.1 C.2.1 hd h1 h2 ho ht (kk p e s m args below meth c H locs ls C hH hS hl)
theorem x_tabOut {dflt lo hi : Int} {offs : Array Int} {len : Nat} {x : Int32} {tgt : Nat} (hd : decode cc pc = .ok (.tableswitch dflt lo hi offs, len)) (h1 : x.toInt < lo ∨ hi < x.toInt) (ht : (pc : Int) + dflt = (tgt : Int)) (kk : Wp G own cc nL nm ret R Z kc ks tgt L st h) : Wp G own cc nL nm ret R Z kc ks pc L (.int x :: st) h := by
  intro p e s m args below meth c H locs ls C hH hS hl
  exact lv_tableOut C.1 C.2.1 hd h1 ht (kk p e s m args below meth c H locs ls C hH hS hl)
theorem x_lookup {dflt : Int} {ps : Array (Int × Int)} {len : Nat} {x : Int32} {off : Int} {tgt : Nat} (hd : decode cc pc = .ok (.lookupswitch dflt ps, len)) (hp : (ps.toList.zip (ps.toList.drop 1)).all (fun (a, next) => a.1 < next.1) = true) (ho : Op.lookupswitch.offset ps.toList dflt x.toInt = off) (ht : (pc : Int) + off = (tgt : Int)) (kk : Wp G own cc nL nm ret R Z kc ks tgt L st h) : Wp G own cc nL nm ret R Z kc ks pc L (.int x :: st) h := by
  intro p e s m args below meth c H locs ls C hH hS hl
  exact lv_lookup C.1 C.2.1 hd hp ho ht (kk p e s m args below meth c H locs ls C hH hS hl)
end XR
section XM
variable {G : xG} {own : String} {cc : ByteArray} {nL : Nat} {nm : String} {ret : Option FieldType} {R : Room} {Z : xZ} {kc ks pc : Nat} {L : List (Nat × Value)} {st : List Value} {h : xH}
theorem xC.E {p : Program} {s : State} {m : MethodId} {args : Array Value} {meth : Method} {c : Code} (C : xC G own cc nL nm ret p s m args meth c) : xE G s s.heap := C.2.2.2.2.2.2.2.2
theorem xC.K {p : Program} {s : State} {m : MethodId} {args : Array Value} {meth : Method} {c : Code} (C : xC G own cc nL nm ret p s m args meth c) : va_K (xg_D G) vwCl (xT G) s := C.E.1
theorem xC.w {p : Program} {s : State} {m : MethodId} {args : Array Value} {meth : Method} {c : Code} (C : xC G own cc nL nm ret p s m args meth c) : ∀ w ∈ xW, w.before args s = true := C.2.2.2.2.1
theorem xC.n {p : Program} {s : State} {m : MethodId} {args : Array Value} {meth : Method} {c : Code} (C : xC G own cc nL nm ret p s m args meth c) : xg_n G ≤ s.heap.size := C.E.2.2.2.2.2.2.2.2.2.2
theorem x_getf {idx ci k a : Nat} {ty : FieldType} {fin : Bool} {fs : List Value} {v : Value} (hd : decode cc pc = .ok (.getfield idx, 3)) (hf : xFl own idx ci k ty fin) (hM : hAt h a = some (.inr (ci, fs))) (hv : fs[k]? = some v) (kk : Wp G own cc nL nm ret R Z kc ks (pc + 3) L (v :: st) h) : Wp G own cc nL nm ret R Z kc ks pc L (.ref a :: st) h := by
  intro p e s m args below meth c H locs ls C hH hS hl
  obtain ⟨C1, T1, N1, ty1, f1, f2, f3, f4, f5, f6, f7, f8, f9⟩ := hf
  exact va_get (D := xg_D G) (ci := ci) (v := v) (C := C1) (T := T1) (N := N1) C.1 C.2.1 C.w f2 C.2.2.2.1 C.K (hH.one hM) 0 (by rfl) f1 k f5 (C.w _ f6) (fun _ h9 => h9) hv hd (kk p e s m args below meth c H locs ls C hH hS hl)
theorem x_putf {idx ci k a : Nat} {ty : FieldType} {fs : List Value} {v : Value} (hd : decode cc pc = .ok (.putfield idx, 3)) (hf : xFl own idx ci k ty false) (hM : hAt h a = some (.inr (ci, fs))) (hn : narrow ty v = v) (hfit : fits ty v = true) (hlen : Nat.ble (k + 1) fs.length = true) {e' : gE} (he : (.inr (ci, fs.set k v) : gE) = e') (kk : Wp G own cc nL nm ret R Z kc ks (pc + 3) L st (hSet h a e')) : Wp G own cc nL nm ret R Z kc ks pc L (v :: .ref a :: st) h := by
  subst he
  intro p e s m args below meth c H locs ls C hH hS hl
  obtain ⟨C1, T1, N1, ty1, f1, f2, f3, f4, f5, f6, f7, f8, f9⟩ := hf
  have hlen : k < fs.length := Nat.le_of_ble_eq_true hlen
  have hap := va_apart (own := own) C.w f2 ty1 f3 f4 C.K f1
  obtain ⟨r, h1, cell, q1, q2, q3, q4⟩ := (hH.2 a _ hM).2
  have hr : r = (C1, T1, N1) := Option.some.inj (h1.symm.trans f1)
  subst hr
  obtain ⟨hSl, hfc, kC, hkC, hkind⟩ := C.K.1 ci _ f1
  obtain ⟨cf, kf, fi, f, hi, hsl⟩ := hSl k f5
  have hlay := C.w _ (f2 _ (u_in_lay f5))
  unfold u_lay at hlay
  rw [if_neg (by rw [f7]; decide)] at hlay
  have hst := (u_facts hfc hkC (u_lays C.w f2 f5) hi).1
  have h6 := u_store hfc hkC hkind hlay hi f8 hn hfit
  refine W.putK C.1 C.2.1 (f := f) ⟨C.2.2.2.1, C.w _ f6, ⟨_, _, _, hi⟩, hst⟩ (by rw [q2]; exact h6) q1 q3 (by rw [hsl]; exact k2_hasslot (q4 k f5)) rfl rfl hd fun H' e1 e2 e3 => ?_
  rw [hsl] at e1 ⊢
  exact kk p e s m args below meth c H' _ ls C (hH.set hM e2 ⟨_, f1, t_OB.to (V := updV (vp_V fs) k v) ⟨_, e1, q2, q3, t_set q4 hap f5 v⟩ (fun j _ => vp_updV_set hlen v j)⟩ e3) (hS.put e2 e3 (hH.2 a _ hM).1) hl
theorem x_putF {idx ci k a : Nat} {ty : FieldType} {fs : List Value} {v : Value} (hd : decode cc pc = .ok (.putfield idx, 3)) (hf : xFl own idx ci k ty true) (hown : vwCl[ci]?.map (fun q => q.1) = some own) (hnm : nm = "<init>") (hM : hAt h a = some (.inr (ci, fs))) (hn : narrow ty v = v) (hfit : fits ty v = true) (hlen : Nat.ble (k + 1) fs.length = true) {e' : gE} (he : (.inr (ci, fs.set k v) : gE) = e') (kk : Wp G own cc nL nm ret R Z kc ks (pc + 3) L st (hSet h a e')) : Wp G own cc nL nm ret R Z kc ks pc L (v :: .ref a :: st) h := by
  subst he
  intro p e s m args below meth c H locs ls C hH hS hl
  obtain ⟨C1, T1, N1, ty1, f1, f2, f3, f4, f5, f6, f7, f8, f9⟩ := hf
  have hlen : k < fs.length := Nat.le_of_ble_eq_true hlen
  have hap := va_apart (own := own) C.w f2 ty1 f3 f4 C.K f1
  obtain ⟨r, h1, cell, q1, q2, q3, q4⟩ := (hH.2 a _ hM).2
  have hr : r = (C1, T1, N1) := Option.some.inj (h1.symm.trans f1)
  subst hr
  have hC1 : C1 = own := by rw [f1] at hown; exact Option.some.inj hown
  obtain ⟨hSl, hfc, kC, hkC, hkind⟩ := C.K.1 ci _ f1
  obtain ⟨cf, kf, fi, f, hi, hsl⟩ := hSl k f5
  have hlay := C.w _ (f2 _ (u_in_lay f5))
  unfold u_lay at hlay
  rw [if_pos f7] at hlay
  have hst := (u_facts hfc hkC (u_lays C.w f2 f5) hi).1
  have hcf : m.cls = cf := by
    obtain ⟨_, _, c', _, _, _, -, -, hf', -, -, -, hown2, -⟩ := Cond.laysFinal_spec hlay
    have e1 : c' = cf := by have := hi.symm.trans hf'; simp at this; exact this.1.symm
    rw [f9, hC1] at hown2
    rw [← e1]; exact Option.some.inj (C.2.2.2.1.symm.trans hown2)
  have h6 := u_fits hfc hkC hkind (Or.inr hlay) hi f8 hn hfit
  refine W.putFinK C.1 C.2.1 C.2.2.2.1 (C.w _ f6) hi hst hcf (C.2.2.2.2.2.2.2.1.trans hnm) (by rw [q2]; exact h6) q1 q3 (by rw [hsl]; exact k2_hasslot (q4 k f5)) rfl rfl hd fun H' e1 e2 e3 => ?_
  rw [hsl] at e1 ⊢
  exact kk p e s m args below meth c H' _ ls C (hH.set hM e2 ⟨_, f1, t_OB.to (V := updV (vp_V fs) k v) ⟨_, e1, q2, q3, t_set q4 hap f5 v⟩ (fun j _ => vp_updV_set hlen v j)⟩ e3) (hS.put e2 e3 (hH.2 a _ hM).1) hl
theorem x_iald {a n : Nat} {f : Nat → Int32} {i : Int32} (hd : decode cc pc = .ok (.iaload, 1)) (hM : hAt h a = some (.inl (0, n, .inl f))) (hin : vp_in i n) {j : Nat} (hj : i.toNatClampNeg = j) (kk : Wp G own cc nL nm ret R Z kc ks (pc + 1) L (.int (f j) :: st) h) : Wp G own cc nL nm ret R Z kc ks pc L (.int i :: .ref a :: st) h := by
  subst hj
  intro p e s m args below meth c H locs ls C hH hS hl
  exact va_iald (D := xg_D G) C.1 C.2.1 C.K (hH.one hM) 0 0 (by rfl) (by rfl) hin hd (kk p e s m args below meth c H locs ls C hH hS hl)
theorem x_cald {a n : Nat} {f : Nat → Int32} {i : Int32} (hd : decode cc pc = .ok (.caload, 1)) (hM : hAt h a = some (.inl (1, n, .inl f))) (hin : vp_in i n) {j : Nat} (hj : i.toNatClampNeg = j) (kk : Wp G own cc nL nm ret R Z kc ks (pc + 1) L (.int (f j) :: st) h) : Wp G own cc nL nm ret R Z kc ks pc L (.int i :: .ref a :: st) h := by
  subst hj
  intro p e s m args below meth c H locs ls C hH hS hl
  exact va_cald (D := xg_D G) C.1 C.2.1 C.K (hH.one hM) 0 1 (by rfl) (by rfl) hin hd (kk p e s m args below meth c H locs ls C hH hS hl)
theorem x_iast {a n : Nat} {f : Nat → Int32} {i x : Int32} (hd : decode cc pc = .ok (.iastore, 1)) (hM : hAt h a = some (.inl (0, n, .inl f))) (hin : vp_in i n) {j : Nat} (hj : i.toNatClampNeg = j) {e' : gE} (he : (.inl (0, n, .inl (upd f j x)) : gE) = e') (kk : Wp G own cc nL nm ret R Z kc ks (pc + 1) L st (hSet h a e')) : Wp G own cc nL nm ret R Z kc ks pc L (.int x :: .int i :: .ref a :: st) h := by
  subst hj
  subst he
  intro p e s m args below meth c H locs ls C hH hS hl
  have hP : H[a]? = some (vp_cell (xg_a G 0) (n, .inl f)) := (hH.2 a _ hM).2
  refine W.iast C.1 C.2.1 hP ((C.K.2 0 _ (by rfl)).1 n (fun j => .int (f j))) (fun q => by cases q) (by show ¬ (i < 0 ∨ (arrV _ _ _).slots.size ≤ _); rw [arrV_size]; exact hin) rfl rfl hd fun H1 e1 z oq => ?_
  refine kk p e s m args below meth c H1 _ ls C (hH.set hM z ?_ oq) (hS.put z oq (hH.2 a _ hM).1) hl
  show H1[a]? = some (vp_cell _ _)
  rw [e1]
  show some ((vp_cell (xg_a G 0) (n, .inl f)).setSlot _ _) = _
  rw [vp_cell_i, vp_cell_i, arrV_store]
  congr 2
  funext q
  by_cases hq : q = i.toNatClampNeg
  · subst hq
    simp [updV, upd]
  · simp [updV, upd, hq]
theorem x_cast {a n : Nat} {f : Nat → Int32} {i x : Int32} (hd : decode cc pc = .ok (.castore, 1)) (hM : hAt h a = some (.inl (1, n, .inl f))) (hin : vp_in i n) {j : Nat} (hj : i.toNatClampNeg = j) {e' : gE} (he : (.inl (1, n, .inl (upd f j (vp_nar .char x))) : gE) = e') (kk : Wp G own cc nL nm ret R Z kc ks (pc + 1) L st (hSet h a e')) : Wp G own cc nL nm ret R Z kc ks pc L (.int x :: .int i :: .ref a :: st) h := by
  subst hj
  subst he
  intro p e s m args below meth c H locs ls C hH hS hl
  have hP : H[a]? = some (vp_cell (xg_a G 1) (n, .inl f)) := (hH.2 a _ hM).2
  refine W.cast C.1 C.2.1 hP ((C.K.2 1 _ (by rfl)).1 n (fun j => .int (f j))) (fun q => by cases q) (by show ¬ (i < 0 ∨ (arrV _ _ _).slots.size ≤ _); rw [arrV_size]; exact hin) rfl rfl hd fun H1 e1 z oq => ?_
  refine kk p e s m args below meth c H1 _ ls C (hH.set hM z ?_ oq) (hS.put z oq (hH.2 a _ hM).1) hl
  show H1[a]? = some (vp_cell _ _)
  rw [e1]
  show some ((vp_cell (xg_a G 1) (n, .inl f)).setSlot _ _) = _
  rw [vp_cell_i, vp_cell_i, arrV_store]
  congr 2
  funext q
  by_cases hq : q = i.toNatClampNeg
  · subst hq
    simp [updV, upd, vp_nar]
    try rfl
  · simp [updV, upd, hq]
theorem x_aald {t a n : Nat} {Cn : String} {f : Nat → Option Nat} {i : Int32} (ht : (xT G)[t]? = some (xg_a G t, .object Cn)) (hd : decode cc pc = .ok (.aaload, 1)) (hM : hAt h a = some (.inl (t, n, .inr (.inr (.inr (.inr f)))))) (hin : vp_in i n) {b : Nat} (hb : f i.toNatClampNeg = some b) (kk : Wp G own cc nL nm ret R Z kc ks (pc + 1) L (.ref b :: st) h) : Wp G own cc nL nm ret R Z kc ks pc L (.int i :: .ref a :: st) h := by
  intro p e s m args below meth c H locs ls C hH hS hl
  refine va_aldq (D := xg_D G) C.1 C.2.1 C.K (hH.one hM) 0 t (by rfl) ht hin hd ?_
  rw [hb]
  exact kk p e s m args below meth c H locs ls C hH hS hl
theorem x_aast {t ci a n v : Nat} {r : vw_C} {vs : List Value} {f : Nat → Option Nat} {i : Int32} (ht : (xT G)[t]? = some (xg_a G t, .object r.1)) (hc : vwCl[ci]? = some r) (hd : decode cc pc = .ok (.aastore, 1)) (hM : hAt h a = some (.inl (t, n, .inr (.inr (.inr (.inr f)))))) (hv : hAt h v = some (.inr (ci, vs))) (hin : vp_in i n) {e' : gE} (he : (.inl (t, n, .inr (.inr (.inr (.inr (va_up f i.toNatClampNeg (some v)))))) : gE) = e') (kk : Wp G own cc nL nm ret R Z kc ks (pc + 1) L st (hSet h a e')) : Wp G own cc nL nm ret R Z kc ks pc L (.ref v :: .int i :: .ref a :: st) h := by
  subst he
  intro p e s m args below meth c H locs ls C hH hS hl
  have hlt : i.toNatClampNeg < n := Nat.not_le.mp fun q => hin (Or.inr q)
  have h0 : ¬ i < 0 := fun q => hin (Or.inl q)
  obtain ⟨r', hr', cellV, g1, g2, g3, -⟩ := (hH.2 v _ hv).2
  have hcls := (C.K.1 ci r hc).2
  obtain ⟨kA, comp, k1, k2, k3, -⟩ := (C.K.2 t _ ht).2
  have hcomp : comp = (xg_D G).1 ci := Option.some.inj (k3.symm.trans hcls.1)
  subst hcomp
  obtain ⟨kC, hkC, -⟩ := hcls.2
  refine W.aast C.1 C.2.1 (hH.2 a _ hM).2 (fun q h => by cases h) (fun h => by cases h) k1 k2 rfl hkC ⟨h0, by show _ < (arrV _ _ _).slots.size; rw [arrV_size]; exact hlt⟩ g1 (fun q h => by rw [g3] at h; cases h) (by rw [g2]; exact hkC) (by rw [g2]; exact va_assign hcls) rfl rfl hd fun H1 e1 z oq => ?_
  refine kk p e s m args below meth c H1 _ ls C (hH.set hM z ?_ oq) (hS.put z oq (hH.2 a _ hM).1) hl
  show H1[a]? = some (vp_cell _ _)
  rw [e1]
  show some ((vp_cell (xg_a G t) (n, .inr (.inr (.inr (.inr f))))).setSlot _ _) = _
  rw [vp_cell_q, vp_cell_q, arrV_store]
  congr 2
  funext q
  by_cases hq : q = i.toNatClampNeg
  · subst hq
    simp [updV, va_up, va_rf]
  · simp [updV, va_up, hq]
/-- the law's own script -/
theorem x_sld {i : Int32} (hd : decode cc pc = .ok (.iaload, 1)) (hin : vp_in i (xg_L G)) (kk : Wp G own cc nL nm ret R Z kc ks (pc + 1) L (.int (xg_x G i.toNatClampNeg) :: st) h) : Wp G own cc nL nm ret R Z kc ks pc L (.int i :: .ref (xg_b G) :: st) h := by
  intro p e s m args below meth c H locs ls C hH hS hl
  exact va_sld C.1 C.2.1 C.E.2.2.2.2.2.2.2.2.1 C.E.2.2.2.2.2.2.2.2.2.1.1 C.E.2.2.2.2.2.2.2.2.2.1.2 hS hin hd (kk p e s m args below meth c H locs ls C hH hS hl)
theorem x_slen (hd : decode cc pc = .ok (.arraylength, 1)) (kk : Wp G own cc nL nm ret R Z kc ks (pc + 1) L (.int (Int32.ofNat (xg_L G)) :: st) h) : Wp G own cc nL nm ret R Z kc ks pc L (.ref (xg_b G) :: st) h := by
  intro p e s m args below meth c H locs ls C hH hS hl
  exact va_slen C.1 C.2.1 C.E.2.2.2.2.2.2.2.2.1 C.E.2.2.2.2.2.2.2.2.2.1.1 C.E.2.2.2.2.2.2.2.2.2.1.2 hS hd (kk p e s m args below meth c H locs ls C hH hS hl)
/-- a new object -/
theorem x_new {idx ci N : Nat} {fs : List Value} (hd : decode cc pc = .ok (.new idx, 3)) (hf : xNw own idx ci N fs) (hc : Nat.ble (kc + 1) R.cells = true) (hs : Nat.ble (ks + N) R.slots = true) (kk : Wp G own cc nL nm ret R Z (kc + 1) (ks + N) (pc + 3) L (.ref h.1 :: st) (hNew h (.inr (ci, fs)))) : Wp G own cc nL nm ret R Z kc ks pc L st h := by
  intro p e s m args below meth c H locs ls C hH hS hl
  obtain ⟨C1, T1, ty1, f1, f2, f3, f4, f5, f6, f7⟩ := hf
  have hKn := C.K.1 ci _ f1
  refine W.newcK C.1 C.2.1 C.2.2.2.1 (C.w _ f4) (C.w _ f5) (C.w _ f6) rfl hd (Nat.le_of_ble_eq_true hc) (Nat.le_of_ble_eq_true hs) hKn.2.1 hH.1 fun H1 kC hkC e1 z1 o1 => ?_
  have hsz := hH.1
  refine kk p e s m args below meth c H1 locs ls C (hH.new (Nat.le_trans C.n hS.1) (by rw [hsz]; exact z1) ⟨_, f1, (u_born ty1 C.w f2 hKn hkC (by rw [hsz]; exact e1) f3).to f7⟩ (by rw [hsz]; exact o1)) ⟨Nat.le_trans hS.1 (by omega), fun x h1 h2 => (o1 x (by have := hS.1; omega)).trans (hS.2.1 x h1 h2), hS.2.2⟩ hl
theorem x_objInit {idx a : Nat} (hd : decode cc pc = .ok (.invokespecial idx, 3)) (hlk : Cond.methodLink own idx objectInit ∈ xW) (hR : Nat.ble 1 R.frames = true) (hR2 : Nat.ble 20 R.locals = true) (hsm : Nat.ble (st.map fun v => v.category).sum 8 = true) (kk : Wp G own cc nL nm ret R Z kc ks (pc + 3) L st h) : Wp G own cc nL nm ret R Z kc ks pc L (.ref a :: st) h := by
  intro p e s m args below meth c H locs ls C hH hS hl
  have h1 := Nat.le_of_ble_eq_true hsm
  have h2 := Nat.le_of_ble_eq_true hR2
  refine W.objInit C.1 C.2.1 C.2.2.2.1 (C.w _ hlk) (C.w _ xw_oi) (C.w _ xw_oc) rfl (by show ls.size = _; rw [C.2.2.1]; exact hl.1) rfl hd (Nat.le_of_ble_eq_true hR) (by show 2 * 0 + _ + 12 ≤ _; omega) ?_
  exact kk p e s m args below meth c H locs ls C hH hS hl
/-- the ends -/
theorem x_iret {bc bs : Nat} {Q : Option Value → xH → Prop} {ty : FieldType} {v : Int32} (hd : decode cc pc = .ok (.ireturn, 1)) (hr : ret = some ty) (hn : narrow ty (.int v) = .int v) (hc : Nat.ble kc bc = true) (hs : Nat.ble ks bs = true) (hq : Q (some (.int v)) h) : Wp G own cc nL nm ret R (xZm G bc bs Q) kc ks pc L [.int v] h := by
  intro p e s m args below meth c H locs ls C hH hS hl
  refine W.widen (Nat.le_of_ble_eq_true hc) (Nat.le_of_ble_eq_true hs) ?_
  exact W.zret C.1 C.2.1 (C.2.2.2.2.2.1.trans hr) hn (fun t ht hW => ⟨⟨_, h, rfl, hq, by rw [ht]; exact hH⟩, hS.F ht⟩) hS.2.2 hd C.2.2.2.2.2.2.1
theorem x_lret {bc bs : Nat} {Q : Option Value → xH → Prop} {v : Int64} (hd : decode cc pc = .ok (.lreturn, 1)) (hr : ret = some .long) (hc : Nat.ble kc bc = true) (hs : Nat.ble ks bs = true) (hq : Q (some (.long v)) h) : Wp G own cc nL nm ret R (xZm G bc bs Q) kc ks pc L [.long v] h := by
  intro p e s m args below meth c H locs ls C hH hS hl
  refine W.widen (Nat.le_of_ble_eq_true hc) (Nat.le_of_ble_eq_true hs) ?_
  exact W.lret C.1 C.2.1 (C.2.2.2.2.2.1.trans hr) (fun t ht hW => ⟨⟨_, h, rfl, hq, by rw [ht]; exact hH⟩, hS.F ht⟩) hS.2.2 hd C.2.2.2.2.2.2.1
theorem x_vret {bc bs : Nat} {Q : Option Value → xH → Prop} (hd : decode cc pc = .ok (.return_, 1)) (hr : ret = none) (hc : Nat.ble kc bc = true) (hs : Nat.ble ks bs = true) (hq : Q none h) : Wp G own cc nL nm ret R (xZm G bc bs Q) kc ks pc L [] h := by
  intro p e s m args below meth c H locs ls C hH hS hl
  refine W.widen (Nat.le_of_ble_eq_true hc) (Nat.le_of_ble_eq_true hs) ?_
  exact W.vret C.1 C.2.1 (C.2.2.2.2.2.1.trans hr) (fun t ht hW => ⟨⟨_, h, rfl, hq, by rw [ht]; exact hH⟩, hS.F ht⟩) hS.2.2 hd C.2.2.2.2.2.2.1
/-- a new row of ints (kind 0) or chars (kind 1) -/
theorem x_newa {t N : Nat} {atype : ArrayType} {ty : FieldType} {n : Int32} (hd : decode cc pc = .ok (.newarray atype, 2)) (hat : newarray.typeOf atype = ty) (htt : (xT G)[t]? = some (xg_a G t, ty)) (hne : ∀ C, ty ≠ .object C) (hdf : defaultValue ty = .int 0) (hw : Cond.arrayClass ty ∈ xW) (hn : n = nI N) (hN : Nat.ble N 100000 = true) (hcb : Nat.ble (componentBytes ty) 8 = true) (hc : Nat.ble (kc + 1) R.cells = true) (hs : Nat.ble (ks + N) R.slots = true) (kk : Wp G own cc nL nm ret R Z (kc + 1) (ks + N) (pc + 2) L (.ref h.1 :: st) (hNew h (.inl (t, N, .inl (fun _ => 0))))) : Wp G own cc nL nm ret R Z kc ks pc L (.int n :: st) h := by
  intro p e s m args below meth c H locs ls C hH hS hl
  subst hat
  have hN' := Nat.le_of_ble_eq_true hN
  have hcb' := Nat.le_of_ble_eq_true hcb
  have hsz := hH.1
  refine va_newaK C.1 C.2.1 (C.w _ hw) rfl hd rfl (by rw [hn]; exact nI_pos (by omega)) (by rw [hn]; exact nI_clamp (by omega)) (Nat.le_trans (Nat.mul_le_mul hN' hcb') (by decide)) (Nat.le_of_ble_eq_true hc) (Nat.le_of_ble_eq_true hs) hH.1 fun H1 cA e1 z1 o1 hAr hNm => ?_
  have hA : cA = xg_a G t := by
    have h1 := (C.K.2 t _ htt).2
    have h2 : s.vm.findClass ("[" ++ (newarray.typeOf atype).toString) = some (xg_a G t) := by
      revert h1 hne
      cases newarray.typeOf atype <;> intro hne h1 <;> first | exact absurd rfl (hne _) | exact h1
    exact Option.some.inj (hNm.symm.trans h2)
  subst hA
  refine kk p e s m args below meth c H1 locs ls C (hH.new (Nat.le_trans C.n hS.1) (by rw [hsz]; exact z1) ?_ (by rw [hsz]; exact o1)) ⟨Nat.le_trans hS.1 (by omega), fun x h1 h2 => (o1 x (by have := hS.1; omega)).trans (hS.2.1 x h1 h2), hS.2.2⟩ hl
  show H1[H.size]? = some (vp_cell _ _)
  rw [hsz, vp_cell_i]
  rw [hdf] at e1
  exact e1
/-- a new row of references -/
theorem x_newq {t idx N : Nat} {Cn : String} {n : Int32} (hd : decode cc pc = .ok (.anewarray idx, 3)) (htt : (xT G)[t]? = some (xg_a G t, .object Cn)) (hao : ∀ s : State, xE G s s.heap → va_AO Cn s) (hw : Cond.classLink own idx Cn ∈ xW) (hn : n = nI N) (hN : Nat.ble N 100000 = true) (hc : Nat.ble (kc + 1) R.cells = true) (hs : Nat.ble (ks + N) R.slots = true) (kk : Wp G own cc nL nm ret R Z (kc + 1) (ks + N) (pc + 3) L (.ref h.1 :: st) (hNew h (.inl (t, N, .inr (.inr (.inr (.inr (fun _ => none)))))))) : Wp G own cc nL nm ret R Z kc ks pc L (.int n :: st) h := by
  intro p e s m args below meth c H locs ls C hH hS hl
  have hN' := Nat.le_of_ble_eq_true hN
  have hsz := hH.1
  have hnN : n.toNatClampNeg = N := by rw [hn]; exact nI_clamp (by omega)
  refine W.anew C.1 C.2.1 C.2.2.2.1 (C.w _ hw) (va_AO.use (hao s C.E)) rfl hd rfl (by rw [hn]; exact nI_pos (by omega)) (by rw [hnN]; omega) (Nat.le_of_ble_eq_true hc) (by rw [hnN]; exact Nat.le_of_ble_eq_true hs) fun cA kA comp f1 f2 f3 f4 => ?_
  rw [hnN]
  generalize hH1 : H.push ({ cls := cA, slots := Array.replicate N .null, vm := .none } : Cell) = H1
  have z1 : H1.size = H.size + 1 := by rw [← hH1, Array.size_push]
  have e1 : H1[H.size]? = some (arrV cA N (fun _ => .null)) := by rw [← hH1, Array.getElem?_push_size, ← arrV_new]
  have o1 : ∀ q : Nat, q < H.size → H1[q]? = H[q]? := fun q hq => by rw [← hH1, Array.getElem?_push, if_neg (Nat.ne_of_lt hq)]
  have hA : cA = xg_a G t := by
    obtain ⟨_, _, -, -, -, h4⟩ := (C.K.2 t _ htt).2
    exact Option.some.inj (f1.symm.trans h4)
  subst hA
  have kk' := kk p e s m args below meth c H1 locs ls C (hH.new (Nat.le_trans C.n hS.1) z1 (by
    show H1[H.size]? = some (vp_cell _ _)
    rw [vp_cell_q]
    exact e1) o1) ⟨Nat.le_trans hS.1 (by omega), fun x h1 h2 => (o1 x (Nat.lt_of_lt_of_le h1 hS.1)).trans (hS.2.1 x h1 h2), hS.2.2⟩ hl
  rw [← hsz] at kk'
  exact kk'
/-- Math.max, Math.min -/
theorem x_max {idx : Nat} {x y : Int32} (hd : decode cc pc = .ok (.invokestatic idx, 3)) (hlk : Cond.methodLink own idx Lib.Math.max.name ∈ xW) (hc : Nat.ble kc R.cells = true) (hs : Nat.ble ks R.slots = true) (hR : Nat.ble 1 R.frames = true) (hR2 : Nat.ble 21 R.locals = true) (hsm : Nat.ble (st.map fun v => v.category).sum 8 = true) (kk : Wp G own cc nL nm ret R Z kc ks (pc + 3) L (.int (if x < y then y else x) :: st) h) : Wp G own cc nL nm ret R Z kc ks pc L (.int y :: .int x :: st) h := by
  intro p e s m args below meth c H locs ls C hH hS hl
  have h1 := Nat.le_of_ble_eq_true hsm
  have h2 := Nat.le_of_ble_eq_true hR2
  exact va_mmax C.1 C.2.1 (by rw [C.2.2.1]; exact hl.1.symm) C.2.2.2.1 (C.w _ hlk) (C.w _ xw_maxs) (C.w _ xw_math) (C.w _ xw_maxc) (Nat.le_of_ble_eq_true hR) (by omega) (Nat.le_of_ble_eq_true hc) (Nat.le_of_ble_eq_true hs) hd (kk p e s m args below meth c H locs ls C hH hS hl)
theorem x_min {idx : Nat} {x y : Int32} (hd : decode cc pc = .ok (.invokestatic idx, 3)) (hlk : Cond.methodLink own idx Lib.Math.min.name ∈ xW) (hc : Nat.ble kc R.cells = true) (hs : Nat.ble ks R.slots = true) (hR : Nat.ble 1 R.frames = true) (hR2 : Nat.ble 21 R.locals = true) (hsm : Nat.ble (st.map fun v => v.category).sum 8 = true) (kk : Wp G own cc nL nm ret R Z kc ks (pc + 3) L (.int (if y < x then y else x) :: st) h) : Wp G own cc nL nm ret R Z kc ks pc L (.int y :: .int x :: st) h := by
  intro p e s m args below meth c H locs ls C hH hS hl
  have h1 := Nat.le_of_ble_eq_true hsm
  have h2 := Nat.le_of_ble_eq_true hR2
  exact va_mmin C.1 C.2.1 (by rw [C.2.2.1]; exact hl.1.symm) C.2.2.2.1 (C.w _ hlk) (C.w _ xw_mins) (C.w _ xw_math) (C.w _ xw_minc) (Nat.le_of_ble_eq_true hR) (by omega) (Nat.le_of_ble_eq_true hc) (Nat.le_of_ble_eq_true hs) hd (kk p e s m args below meth c H locs ls C hH hS hl)
/-- System.arraycopy of ints: all of n places from the first on -/
theorem x_copy {idx a0 a1 n0 n1 n : Nat} {f g : Nat → Int32} {k : Int32} (hd : decode cc pc = .ok (.invokestatic idx, 3)) (hlk : Cond.methodLink own idx arraycopyName ∈ xW) (hM0 : hAt h a0 = some (.inl (0, n0, .inl f))) (hM1 : hAt h a1 = some (.inl (0, n1, .inl g))) (hk : k = nI n) (hkn : Nat.ble n 100000 = true) (hn0 : Nat.ble n n0 = true) (hn1 : Nat.ble n n1 = true) (hR : Nat.ble 1 R.frames = true) (hR2 : Nat.ble (8 + (nativeFrameWords "java/lang/System" "arraycopy" 5 + 11)) R.locals = true) (hsm : Nat.ble (st.map fun v => v.category).sum 8 = true) {e' : gE} (he : (.inl (0, n1, .inl (va_cpy f g 0 0 n)) : gE) = e') (kk : Wp G own cc nL nm ret R Z kc ks (pc + 3) L st (hSet h a1 e')) : Wp G own cc nL nm ret R Z kc ks pc L (.int k :: .int 0 :: .ref a1 :: .int 0 :: .ref a0 :: st) h := by
  subst he
  intro p e s m args below meth c H locs ls C hH hS hl
  have h1 := Nat.le_of_ble_eq_true hsm
  have h2 := Nat.le_of_ble_eq_true hR2
  have h3 := Nat.le_of_ble_eq_true hkn
  have h4 := Nat.le_of_ble_eq_true hn0
  have h5 := Nat.le_of_ble_eq_true hn1
  have hkc : k.toNatClampNeg = n := by rw [hk]; exact nI_clamp (by omega)
  have hk0 : ¬ k < 0 := by rw [hk]; exact nI_pos (by omega)
  have hkI : k.toInt = (n : Int) := by rw [hk]; exact nI_toInt (by omega)
  intro T hT X
  have hc0 : H[a0]? = some (vp_cell (xg_a G 0) (n0, .inl f)) := (hH.2 a0 _ hM0).2
  have hc1 : H[a1]? = some (vp_cell (xg_a G 0) (n1, .inl g)) := (hH.2 a1 _ hM1).2
  obtain ⟨-, k0, hk0', cm0, hkk0⟩ := (C.K.2 0 _ rfl).1 n0 (fun j => .int (f j))
  obtain ⟨-, k1, hk1', cm1, hkk1⟩ := (C.K.2 0 _ rfl).1 n1 (fun j => .int (g j))
  obtain ⟨vm', X', step⟩ := X.arraycopy C.1 C.2.2.2.1 (C.w _ hlk) (C.w _ xw_acn) (C.w _ xw_acs) (C.w _ xw_sys) (src := a0) (dst := a1) (cs := vp_cell (xg_a G 0) (n0, .inl f)) (cd := vp_cell (xg_a G 0) (n1, .inl g)) (srcPos := 0) (destPos := 0) (n := k) (by rw [hT]; exact hc0) (by rw [hT]; exact hc1)
    (fun _ h => by cases h) (fun _ h => by cases h) (fun h => by cases h) (fun h => by cases h) hk0' hk1' hkk0 hkk1 (by simp [refKind]) (by decide) (by decide) hk0
    (by rw [hkI]; show ¬ (0 : Int) + _ > ((arrV _ n0 (fun j => .int (f j))).slots.size : Int); rw [arrV_size]; omega)
    (by rw [hkI]; show ¬ (0 : Int) + _ > ((arrV _ n1 (fun j => .int (g j))).slots.size : Int); rw [arrV_size]; omega)
    (fun vm₁ _ i hi => by
      have e : (vp_cell (xg_a G 0) (n0, .inl f)).slots.getD ((0 : Int32).toNatClampNeg + i) .null = .int (f ((0 : Int32).toNatClampNeg + i)) := by
        show (arrV _ n0 (fun j => .int (f j))).slots.getD _ _ = _
        rw [Array.getD_eq_getD_getElem?, arrV_read _ _ (by have : (0 : Int32).toNatClampNeg = 0 := rfl; omega)]
        rfl
      refine ⟨?_, ?_⟩
      · rw [e]
        rfl
      · rw [e]
        exact trivial)
    (g := F0 m pc ls (.int k :: .int 0 :: .ref a1 :: .int 0 :: .ref a0 :: st)) rfl (by rw [C.2.2.1]; exact hl.1) (rest := st) rfl (by rw [C.2.1]; exact hd) (Nat.le_of_ble_eq_true hR) (by show 2 * 0 + _ + _ ≤ _; omega)
  have e1 : copied (vp_cell (xg_a G 0) (n0, .inl f)) (vp_cell (xg_a G 0) (n1, .inl g)) 0 0 k = vp_cell (xg_a G 0) (n1, .inl (va_cpy f g 0 0 n)) := by
    have e0 : copied (vp_cell (xg_a G 0) (n0, .inl f)) (vp_cell (xg_a G 0) (n1, .inl g)) 0 0 k = vp_cell (xg_a G 0) (n1, .inl (va_cpy f g (0 : Int32).toNatClampNeg (0 : Int32).toNatClampNeg k.toNatClampNeg)) := va_copied (fun z => .int z) (xg_a G 0) (xg_a G 0) f g (by rw [hkc]; show 0 + n ≤ n0; omega)
    rw [hkc] at e0
    exact e0
  rw [e1] at X' step
  have hl1 : a1 < H.size := (Array.getElem?_eq_some_iff.mp hc1).1
  have hheap : ((T.setVm vm').setCell a1 (vp_cell (xg_a G 0) (n1, .inl (va_cpy f g 0 0 n)))).heap = H.setIfInBounds a1 (vp_cell (xg_a G 0) (n1, .inl (va_cpy f g 0 0 n))) := by rw [← hT]; rfl
  have oq : ∀ q : Nat, q ≠ a1 → (H.setIfInBounds a1 (vp_cell (xg_a G 0) (n1, .inl (va_cpy f g 0 0 n))))[q]? = H[q]? := fun q hq => by simp [Array.getElem?_setIfInBounds, Ne.symm hq]
  have hA1 := (hH.2 a1 _ hM1).1
  obtain ⟨t, b1, b2⟩ := kk p e s m args below meth c _ _ ls C (hH.set hM1 (by simp) (show (H.setIfInBounds a1 _)[a1]? = some _ by simp [Array.getElem?_setIfInBounds, hl1]) oq) ⟨by simp; exact hS.1, fun q g1 g2 => by
      rw [oq q (fun e => g2 (by rw [e]; exact hA1))]
      exact hS.2.1 q g1 g2, fun q hq => by
      rcases List.mem_append.mp hq with h | h
      · exact hS.2.2 q h
      · obtain ⟨z, -, hz⟩ := List.mem_map.mp h
        rw [← hz]
        exact hA1⟩ hl _ hheap X'
  exact ⟨t, step t b1, b2⟩
end XM
section XK
variable {G : xG} {own : String} {cc : ByteArray} {nL : Nat} {nm : String} {ret : Option FieldType} {R : Room} {Z : xZ} {kc ks pc : Nat} {L : List (Nat × Value)} {st rest : List Value} {h : xH}
variable {d mc ms n nL' idx a : Nat} {y : MethodName} {cc' : ByteArray} {ret' : Option FieldType} {As : List Value} {Q : Option Value → xH → Prop}
theorem xPc_blind (G : xG) (av : List Value) (h : xH) : FrameBlind (va_Pc av (fun U => xE G U U.heap ∧ xHo G h U.heap)) := fun a U g mk q => ⟨q.1, xE.same (u := U) (U := U.calling g mk a) rfl q.2.1, q.2.2⟩
theorem xPc_at {p : Program} {s : State} {m : MethodId} {args : Array Value} {meth : Method} {c : Code} {H : Heap} {locs : List Loc} (C : xC G own cc nL nm ret p s m args meth c) (hH : xHo G h H) (hS : va_S (xA G) s.heap H locs) (av : List Value) : ∀ U : State, U.heap = H → s.WarmedH U.vm → va_Pc av (fun U => xE G U U.heap ∧ xHo G h U.heap) av.toArray U := by
  intro U hU hW
  refine ⟨rfl, ?_, by rw [hU]; exact hH⟩
  rw [hU]
  exact (C.E.warm hW).kept hS
theorem xGood (hc : Cond.code y cc' nL' ret' ∈ xW) : GoodIn xW (Cond.code y cc' nL' ret' :: xW) := by
  intro w hw
  rcases List.mem_cons.mp hw with rfl | hw
  · exact ⟨hc, xW_good hc⟩
  · exact ⟨hw, xW_good hw⟩
theorem xCallB {p : Program} {s : State} {m : MethodId} {args : Array Value} {meth : Method} {c : Code} (C : xC G own cc nL nm ret p s m args meth c) (hy : xMy y cc' nL' ret' n) (hlk : Cond.methodLink own idx y ∈ xW) (hR : (Nat.ble (d + 1) R.frames && Nat.ble (8 + (nL' + 11) + 39 * d) R.locals) = true) : CallB R s args own idx y cc' nL' ret' (Cond.code y cc' nL' ret' :: xW) (xR d mc ms) mc ms n := by
  rw [Bool.and_eq_true] at hR
  exact callB_of n C.w (xGood hy.1) rfl rfl rfl (C.w _ hy.2.1) (C.w _ hlk) hy.2.2 ⟨Nat.le_of_ble_eq_true hR.1, Nat.le_of_ble_eq_true hR.2⟩
theorem xCallN {p : Program} {s : State} {m : MethodId} {args : Array Value} {meth : Method} {c : Code} {host : String} (C : xC G own cc nL nm ret p s m args meth c) (hy : xMy y cc' nL' ret' n) (hlk : Cond.methodLinkNest own idx y host ∈ xNest) (hR : (Nat.ble (d + 1) R.frames && Nat.ble (8 + (nL' + 11) + 39 * d) R.locals) = true) : va_CN R s args own idx y host cc' nL' ret' (Cond.code y cc' nL' ret' :: xW) (xR d mc ms) mc ms n := by
  rw [Bool.and_eq_true] at hR
  exact va_cnB n C.w (xGood hy.1) rfl rfl rfl (C.E.2.2.2.1 _ hlk) (C.w _ hy.2.1) hy.2.2 ⟨Nat.le_of_ble_eq_true hR.1, Nat.le_of_ble_eq_true hR.2⟩
/-- behind a call -/
theorem xAfter {p : Program} {e : Env} {s : State} {m : MethodId} {args : Array Value} {below : List Frame} {meth : Method} {c : Code} {H : Heap} {locs : List Loc} {ls : Array Slot} {aa : Array Value} {Qf : State → Prop} (hr : va_Run p G.1 e R s m args below meth c H locs kc ks mc ms (F0 m pc ls st) rest (xQ G Q aa) (xA G)) (hS : va_S (xA G) s.heap H locs)
    (kk : ∀ (v : Option Value) (h1 : xH) (H1 : Heap) (locs1 : List Loc), Q v h1 → xHo G h1 H1 → va_S (xA G) s.heap H1 locs1 → W p G.1 e R s m args below meth c H1 locs1 (kc + mc) (ks + ms) Qf (F0 m (pc + 3) ls (v.toList ++ rest))) : W p G.1 e R s m args below meth c H locs kc ks Qf (F0 m pc ls st) := by
  intro T hT X
  obtain ⟨v, st₀, t, T', L1, h0, X', hL, e1, e2, ⟨⟨v', h', hv, hq, hH'⟩, hz, hk⟩, stp⟩ := hr T hT X
  cases hv
  rw [h0] at hz hk
  obtain ⟨t2, a1, b1⟩ := kk v h' T'.heap (locs ++ L1) hq (by rw [e1]; exact hH')
    ⟨Nat.le_trans hS.1 (by rw [e1]; exact hz), fun q h1 h2 => by rw [e1, hk q (Nat.lt_of_lt_of_le h1 hS.1) h2]; exact hS.2.1 q h1 h2, fun q hq => by
      rcases List.mem_append.mp hq with h | h
      · exact hS.2.2 q h
      · exact hL q h⟩ T' rfl X'
  exact ⟨t2, stp t2 a1, b1⟩
theorem x_callV {ci : Nat} {fs : List Value} (hd : decode cc pc = .ok (.invokevirtual idx, 3)) (hlk : Cond.methodLink own idx y ∈ xW) (hy : xMv y cc' nL' ret' n) (hM : hAt h a = some (.inr (ci, fs))) (hci : vwCl[ci]?.map (fun q => q.1) = some y.cls) (hlen : As.length = n) (hR : (Nat.ble (d + 1) R.frames && Nat.ble (8 + (nL' + 11) + 39 * d) R.locals) = true) (hcs : (Nat.ble (kc + mc) R.cells && Nat.ble (ks + ms) R.slots) = true) (hsm : Nat.ble (rest.map fun v => v.category).sum 8 = true) (hst : st = As.reverse ++ .ref a :: rest) (hct : Ct G d mc ms y cc' nL' ret' (.ref a :: As) h Q) (kk : ∀ v h1, Q v h1 → Wp G own cc nL nm ret R Z (kc + mc) (ks + ms) (pc + 3) L (v.toList ++ rest) h1) : Wp G own cc nL nm ret R Z kc ks pc L st h := by
  intro p e s m args below meth c H locs ls C hH hS hl
  rw [Bool.and_eq_true] at hcs
  cases hcq : vwCl[ci]? with
  | none => rw [hcq] at hci; cases hci
  | some q =>
    rw [hcq] at hci
    have hqc : q.1 = y.cls := Option.some.inj hci
    refine xAfter (va_runV (As := As) (rest := rest) ⟨C.1, C.2.1, C.2.2.1, C.2.2.2.1, C.w⟩ hct ⟨xCallB C hy.1 hlk hR, C.w _ hy.2.1, C.w _ hy.2.2⟩ ⟨xPc_blind G _ h, by rw [← hqc]; exact va_recv C.K (hH.one hM) (ci := ci) (q0 := 0) hcq rfl, xPc_at C hH hS _⟩ rfl hlen hl.1 hst (lv_room (Nat.le_of_ble_eq_true hsm)) hd ⟨Nat.le_of_ble_eq_true hcs.1, Nat.le_of_ble_eq_true hcs.2⟩) hS (fun v h1 H1 locs1 hq hH1 hS1 => ?_)
    exact kk v h1 hq p e s m args below meth c H1 locs1 ls C hH1 hS1 hl
theorem x_callS (hd : decode cc pc = .ok (.invokestatic idx, 3)) (hlk : Cond.methodLink own idx y ∈ xW) (hy : xMs y cc' nL' ret' n) (hlen : As.length = n) (hR : (Nat.ble (d + 1) R.frames && Nat.ble (8 + (nL' + 11) + 39 * d) R.locals) = true) (hcs : (Nat.ble (kc + mc) R.cells && Nat.ble (ks + ms) R.slots) = true) (hsm : Nat.ble (rest.map fun v => v.category).sum 8 = true) (hst : st = As.reverse ++ rest) (hct : Ct G d mc ms y cc' nL' ret' As h Q) (kk : ∀ v h1, Q v h1 → Wp G own cc nL nm ret R Z (kc + mc) (ks + ms) (pc + 3) L (v.toList ++ rest) h1) : Wp G own cc nL nm ret R Z kc ks pc L st h := by
  intro p e s m args below meth c H locs ls C hH hS hl
  rw [Bool.and_eq_true] at hcs
  refine xAfter (va_runS (As := As) (rest := rest) ⟨C.1, C.2.1, C.2.2.1, C.2.2.2.1, C.w⟩ hct ⟨xCallB C hy.1 hlk hR, C.w _ hy.2⟩ ⟨xPc_blind G _ h, xPc_at C hH hS _⟩ rfl hlen hl.1 hst (lv_room (Nat.le_of_ble_eq_true hsm)) hd ⟨Nat.le_of_ble_eq_true hcs.1, Nat.le_of_ble_eq_true hcs.2⟩) hS (fun v h1 H1 locs1 hq hH1 hS1 => ?_)
  exact kk v h1 hq p e s m args below meth c H1 locs1 ls C hH1 hS1 hl
theorem x_callSN {host : String} (hd : decode cc pc = .ok (.invokestatic idx, 3)) (hlk : Cond.methodLinkNest own idx y host ∈ xNest) (hy : xMs y cc' nL' ret' n) (hlen : As.length = n) (hR : (Nat.ble (d + 1) R.frames && Nat.ble (8 + (nL' + 11) + 39 * d) R.locals) = true) (hcs : (Nat.ble (kc + mc) R.cells && Nat.ble (ks + ms) R.slots) = true) (hsm : Nat.ble (rest.map fun v => v.category).sum 8 = true) (hst : st = As.reverse ++ rest) (hct : Ct G d mc ms y cc' nL' ret' As h Q) (kk : ∀ v h1, Q v h1 → Wp G own cc nL nm ret R Z (kc + mc) (ks + ms) (pc + 3) L (v.toList ++ rest) h1) : Wp G own cc nL nm ret R Z kc ks pc L st h := by
  intro p e s m args below meth c H locs ls C hH hS hl
  rw [Bool.and_eq_true] at hcs
  refine xAfter (va_runSN (As := As) (rest := rest) ⟨C.1, C.2.1, C.2.2.1, C.2.2.2.1, C.w⟩ hct ⟨xCallN C hy.1 hlk hR, C.w _ hy.2, trivial⟩ ⟨xPc_blind G _ h, xPc_at C hH hS _⟩ rfl hlen hl.1 hst (lv_room (Nat.le_of_ble_eq_true hsm)) hd ⟨Nat.le_of_ble_eq_true hcs.1, Nat.le_of_ble_eq_true hcs.2⟩) hS (fun v h1 H1 locs1 hq hH1 hS1 => ?_)
  exact kk v h1 hq p e s m args below meth c H1 locs1 ls C hH1 hS1 hl
theorem x_callI (hd : decode cc pc = .ok (.invokespecial idx, 3)) (hlk : Cond.methodLink own idx y ∈ xW) (hy : xMi y cc' nL' none n) (hlen : As.length = n) (hR : (Nat.ble (d + 1) R.frames && Nat.ble (8 + (nL' + 11) + 39 * d) R.locals) = true) (hcs : (Nat.ble (kc + mc) R.cells && Nat.ble (ks + ms) R.slots) = true) (hsm : Nat.ble (rest.map fun v => v.category).sum 8 = true) (hst : st = As.reverse ++ .ref a :: rest) (hct : Ct G d mc ms y cc' nL' none (.ref a :: As) h Q) (kk : ∀ v h1, Q v h1 → Wp G own cc nL nm ret R Z (kc + mc) (ks + ms) (pc + 3) L (v.toList ++ rest) h1) : Wp G own cc nL nm ret R Z kc ks pc L st h := by
  intro p e s m args below meth c H locs ls C hH hS hl
  rw [Bool.and_eq_true] at hcs
  refine xAfter (va_runI (As := As) (rest := rest) ⟨C.1, C.2.1, C.2.2.1, C.2.2.2.1, C.w⟩ hct ⟨xCallB C hy.1 hlk hR, hy.2.2, C.w _ hy.2.1⟩ ⟨xPc_blind G _ h, xPc_at C hH hS _⟩ rfl hlen hl.1 hst (lv_room (Nat.le_of_ble_eq_true hsm)) hd ⟨Nat.le_of_ble_eq_true hcs.1, Nat.le_of_ble_eq_true hcs.2⟩) hS (fun v h1 H1 locs1 hq hH1 hS1 => ?_)
  exact kk v h1 hq p e s m args below meth c H1 locs1 ls C hH1 hS1 hl
theorem x_callIN {host : String} (hd : decode cc pc = .ok (.invokespecial idx, 3)) (hlk : Cond.methodLinkNest own idx y host ∈ xNest) (hy : xMi y cc' nL' none n) (hlen : As.length = n) (hR : (Nat.ble (d + 1) R.frames && Nat.ble (8 + (nL' + 11) + 39 * d) R.locals) = true) (hcs : (Nat.ble (kc + mc) R.cells && Nat.ble (ks + ms) R.slots) = true) (hsm : Nat.ble (rest.map fun v => v.category).sum 8 = true) (hst : st = As.reverse ++ .ref a :: rest) (hct : Ct G d mc ms y cc' nL' none (.ref a :: As) h Q) (kk : ∀ v h1, Q v h1 → Wp G own cc nL nm ret R Z (kc + mc) (ks + ms) (pc + 3) L (v.toList ++ rest) h1) : Wp G own cc nL nm ret R Z kc ks pc L st h := by
  intro p e s m args below meth c H locs ls C hH hS hl
  rw [Bool.and_eq_true] at hcs
  refine xAfter (va_runIN (As := As) (rest := rest) ⟨C.1, C.2.1, C.2.2.1, C.2.2.2.1, C.w⟩ hct ⟨xCallN C hy.1 hlk hR, hy.2.2, C.w _ hy.2.1⟩ ⟨xPc_blind G _ h, xPc_at C hH hS _⟩ rfl hlen hl.1 hst (lv_room (Nat.le_of_ble_eq_true hsm)) hd ⟨Nat.le_of_ble_eq_true hcs.1, Nat.le_of_ble_eq_true hcs.2⟩) hS (fun v h1 H1 locs1 hq hH1 hS1 => ?_)
  exact kk v h1 hq p e s m args below meth c H1 locs1 ls C hH1 hS1 hl
end XK
/-- a contract that says all: the answer v, the heap h1 -/
abbrev Cd (G : xG) (d : Nat) (y : MethodName) (cc : ByteArray) (nL : Nat) (ret : Option FieldType) (av : List Value) (h : xH) (v : Option Value) (h1 : xH) : Prop := Ct G d 0 0 y cc nL ret av h (fun v' h' => v' = v ∧ h' = h1)
/-- the end of such a method -/
abbrev xZd (G : xG) (v : Option Value) (h1 : xH) : xZ := xZm G 0 0 (fun v' h' => v' = v ∧ h' = h1)
section XD
variable {G : xG} {own : String} {cc : ByteArray} {nL : Nat} {nm : String} {ret : Option FieldType} {R : Room} {Z : xZ} {kc ks pc : Nat} {L : List (Nat × Value)} {st : List Value} {h : xH}
variable {d nL' idx a : Nat} {y : MethodName} {cc' : ByteArray} {ret' : Option FieldType}
theorem x_cV0i {ci : Nat} {fs : List Value} {r : Int32} {h1 : xH} (hd : decode cc pc = .ok (.invokevirtual idx, 3)) (hlk : Cond.methodLink own idx y ∈ xW) (hy : xMv y cc' nL' ret' 0) (hM : hAt h a = some (.inr (ci, fs))) (hci : vwCl[ci]?.map (fun q => q.1) = some y.cls) (hct : Cd G d y cc' nL' ret' (.ref a :: []) h (some (.int r)) h1) (hR : (Nat.ble (d + 1) R.frames && Nat.ble (8 + (nL' + 11) + 39 * d) R.locals) = true) (hcs : (Nat.ble kc R.cells && Nat.ble ks R.slots) = true) (hsm : Nat.ble (st.map fun v => v.category).sum 8 = true) (kk : Wp G own cc nL nm ret R Z kc ks (pc + 3) L (.int r :: st) h1) : Wp G own cc nL nm ret R Z kc ks pc L (.ref a :: st) h :=
  x_callV (As := []) (rest := st) (mc := 0) (ms := 0) hd hlk hy hM hci (by rfl) hR hcs hsm rfl hct (fun v h2 hq => by obtain ⟨e1, e2⟩ := hq; subst e1; subst e2; exact kk)
theorem x_cV0l {ci : Nat} {fs : List Value} {r : Int64} {h1 : xH} (hd : decode cc pc = .ok (.invokevirtual idx, 3)) (hlk : Cond.methodLink own idx y ∈ xW) (hy : xMv y cc' nL' ret' 0) (hM : hAt h a = some (.inr (ci, fs))) (hci : vwCl[ci]?.map (fun q => q.1) = some y.cls) (hct : Cd G d y cc' nL' ret' (.ref a :: []) h (some (.long r)) h1) (hR : (Nat.ble (d + 1) R.frames && Nat.ble (8 + (nL' + 11) + 39 * d) R.locals) = true) (hcs : (Nat.ble kc R.cells && Nat.ble ks R.slots) = true) (hsm : Nat.ble (st.map fun v => v.category).sum 8 = true) (kk : Wp G own cc nL nm ret R Z kc ks (pc + 3) L (.long r :: st) h1) : Wp G own cc nL nm ret R Z kc ks pc L (.ref a :: st) h :=
  x_callV (As := []) (rest := st) (mc := 0) (ms := 0) hd hlk hy hM hci (by rfl) hR hcs hsm rfl hct (fun v h2 hq => by obtain ⟨e1, e2⟩ := hq; subst e1; subst e2; exact kk)
theorem x_cV0v {ci : Nat} {fs : List Value} {h1 : xH} (hd : decode cc pc = .ok (.invokevirtual idx, 3)) (hlk : Cond.methodLink own idx y ∈ xW) (hy : xMv y cc' nL' ret' 0) (hM : hAt h a = some (.inr (ci, fs))) (hci : vwCl[ci]?.map (fun q => q.1) = some y.cls) (hct : Cd G d y cc' nL' ret' (.ref a :: []) h none h1) (hR : (Nat.ble (d + 1) R.frames && Nat.ble (8 + (nL' + 11) + 39 * d) R.locals) = true) (hcs : (Nat.ble kc R.cells && Nat.ble ks R.slots) = true) (hsm : Nat.ble (st.map fun v => v.category).sum 8 = true) (kk : Wp G own cc nL nm ret R Z kc ks (pc + 3) L (st) h1) : Wp G own cc nL nm ret R Z kc ks pc L (.ref a :: st) h :=
  x_callV (As := []) (rest := st) (mc := 0) (ms := 0) hd hlk hy hM hci (by rfl) hR hcs hsm rfl hct (fun v h2 hq => by obtain ⟨e1, e2⟩ := hq; subst e1; subst e2; exact kk)
theorem x_cV1i {ci : Nat} {fs : List Value} {x1 : Value} {r : Int32} {h1 : xH} (hd : decode cc pc = .ok (.invokevirtual idx, 3)) (hlk : Cond.methodLink own idx y ∈ xW) (hy : xMv y cc' nL' ret' 1) (hM : hAt h a = some (.inr (ci, fs))) (hci : vwCl[ci]?.map (fun q => q.1) = some y.cls) (hct : Cd G d y cc' nL' ret' (.ref a :: [x1]) h (some (.int r)) h1) (hR : (Nat.ble (d + 1) R.frames && Nat.ble (8 + (nL' + 11) + 39 * d) R.locals) = true) (hcs : (Nat.ble kc R.cells && Nat.ble ks R.slots) = true) (hsm : Nat.ble (st.map fun v => v.category).sum 8 = true) (kk : Wp G own cc nL nm ret R Z kc ks (pc + 3) L (.int r :: st) h1) : Wp G own cc nL nm ret R Z kc ks pc L (x1 :: .ref a :: st) h :=
  x_callV (As := [x1]) (rest := st) (mc := 0) (ms := 0) hd hlk hy hM hci (by rfl) hR hcs hsm rfl hct (fun v h2 hq => by obtain ⟨e1, e2⟩ := hq; subst e1; subst e2; exact kk)
theorem x_cV1v {ci : Nat} {fs : List Value} {x1 : Value} {h1 : xH} (hd : decode cc pc = .ok (.invokevirtual idx, 3)) (hlk : Cond.methodLink own idx y ∈ xW) (hy : xMv y cc' nL' ret' 1) (hM : hAt h a = some (.inr (ci, fs))) (hci : vwCl[ci]?.map (fun q => q.1) = some y.cls) (hct : Cd G d y cc' nL' ret' (.ref a :: [x1]) h none h1) (hR : (Nat.ble (d + 1) R.frames && Nat.ble (8 + (nL' + 11) + 39 * d) R.locals) = true) (hcs : (Nat.ble kc R.cells && Nat.ble ks R.slots) = true) (hsm : Nat.ble (st.map fun v => v.category).sum 8 = true) (kk : Wp G own cc nL nm ret R Z kc ks (pc + 3) L (st) h1) : Wp G own cc nL nm ret R Z kc ks pc L (x1 :: .ref a :: st) h :=
  x_callV (As := [x1]) (rest := st) (mc := 0) (ms := 0) hd hlk hy hM hci (by rfl) hR hcs hsm rfl hct (fun v h2 hq => by obtain ⟨e1, e2⟩ := hq; subst e1; subst e2; exact kk)
theorem x_cV2i {ci : Nat} {fs : List Value} {x1 x2 : Value} {r : Int32} {h1 : xH} (hd : decode cc pc = .ok (.invokevirtual idx, 3)) (hlk : Cond.methodLink own idx y ∈ xW) (hy : xMv y cc' nL' ret' 2) (hM : hAt h a = some (.inr (ci, fs))) (hci : vwCl[ci]?.map (fun q => q.1) = some y.cls) (hct : Cd G d y cc' nL' ret' (.ref a :: [x1, x2]) h (some (.int r)) h1) (hR : (Nat.ble (d + 1) R.frames && Nat.ble (8 + (nL' + 11) + 39 * d) R.locals) = true) (hcs : (Nat.ble kc R.cells && Nat.ble ks R.slots) = true) (hsm : Nat.ble (st.map fun v => v.category).sum 8 = true) (kk : Wp G own cc nL nm ret R Z kc ks (pc + 3) L (.int r :: st) h1) : Wp G own cc nL nm ret R Z kc ks pc L (x2 :: x1 :: .ref a :: st) h :=
  x_callV (As := [x1, x2]) (rest := st) (mc := 0) (ms := 0) hd hlk hy hM hci (by rfl) hR hcs hsm rfl hct (fun v h2 hq => by obtain ⟨e1, e2⟩ := hq; subst e1; subst e2; exact kk)
theorem x_cV2v {ci : Nat} {fs : List Value} {x1 x2 : Value} {h1 : xH} (hd : decode cc pc = .ok (.invokevirtual idx, 3)) (hlk : Cond.methodLink own idx y ∈ xW) (hy : xMv y cc' nL' ret' 2) (hM : hAt h a = some (.inr (ci, fs))) (hci : vwCl[ci]?.map (fun q => q.1) = some y.cls) (hct : Cd G d y cc' nL' ret' (.ref a :: [x1, x2]) h none h1) (hR : (Nat.ble (d + 1) R.frames && Nat.ble (8 + (nL' + 11) + 39 * d) R.locals) = true) (hcs : (Nat.ble kc R.cells && Nat.ble ks R.slots) = true) (hsm : Nat.ble (st.map fun v => v.category).sum 8 = true) (kk : Wp G own cc nL nm ret R Z kc ks (pc + 3) L (st) h1) : Wp G own cc nL nm ret R Z kc ks pc L (x2 :: x1 :: .ref a :: st) h :=
  x_callV (As := [x1, x2]) (rest := st) (mc := 0) (ms := 0) hd hlk hy hM hci (by rfl) hR hcs hsm rfl hct (fun v h2 hq => by obtain ⟨e1, e2⟩ := hq; subst e1; subst e2; exact kk)
theorem x_cV3i {ci : Nat} {fs : List Value} {x1 x2 x3 : Value} {r : Int32} {h1 : xH} (hd : decode cc pc = .ok (.invokevirtual idx, 3)) (hlk : Cond.methodLink own idx y ∈ xW) (hy : xMv y cc' nL' ret' 3) (hM : hAt h a = some (.inr (ci, fs))) (hci : vwCl[ci]?.map (fun q => q.1) = some y.cls) (hct : Cd G d y cc' nL' ret' (.ref a :: [x1, x2, x3]) h (some (.int r)) h1) (hR : (Nat.ble (d + 1) R.frames && Nat.ble (8 + (nL' + 11) + 39 * d) R.locals) = true) (hcs : (Nat.ble kc R.cells && Nat.ble ks R.slots) = true) (hsm : Nat.ble (st.map fun v => v.category).sum 8 = true) (kk : Wp G own cc nL nm ret R Z kc ks (pc + 3) L (.int r :: st) h1) : Wp G own cc nL nm ret R Z kc ks pc L (x3 :: x2 :: x1 :: .ref a :: st) h :=
  x_callV (As := [x1, x2, x3]) (rest := st) (mc := 0) (ms := 0) hd hlk hy hM hci (by rfl) hR hcs hsm rfl hct (fun v h2 hq => by obtain ⟨e1, e2⟩ := hq; subst e1; subst e2; exact kk)
theorem x_cV3v {ci : Nat} {fs : List Value} {x1 x2 x3 : Value} {h1 : xH} (hd : decode cc pc = .ok (.invokevirtual idx, 3)) (hlk : Cond.methodLink own idx y ∈ xW) (hy : xMv y cc' nL' ret' 3) (hM : hAt h a = some (.inr (ci, fs))) (hci : vwCl[ci]?.map (fun q => q.1) = some y.cls) (hct : Cd G d y cc' nL' ret' (.ref a :: [x1, x2, x3]) h none h1) (hR : (Nat.ble (d + 1) R.frames && Nat.ble (8 + (nL' + 11) + 39 * d) R.locals) = true) (hcs : (Nat.ble kc R.cells && Nat.ble ks R.slots) = true) (hsm : Nat.ble (st.map fun v => v.category).sum 8 = true) (kk : Wp G own cc nL nm ret R Z kc ks (pc + 3) L (st) h1) : Wp G own cc nL nm ret R Z kc ks pc L (x3 :: x2 :: x1 :: .ref a :: st) h :=
  x_callV (As := [x1, x2, x3]) (rest := st) (mc := 0) (ms := 0) hd hlk hy hM hci (by rfl) hR hcs hsm rfl hct (fun v h2 hq => by obtain ⟨e1, e2⟩ := hq; subst e1; subst e2; exact kk)
theorem x_cV4i {ci : Nat} {fs : List Value} {x1 x2 x3 x4 : Value} {r : Int32} {h1 : xH} (hd : decode cc pc = .ok (.invokevirtual idx, 3)) (hlk : Cond.methodLink own idx y ∈ xW) (hy : xMv y cc' nL' ret' 4) (hM : hAt h a = some (.inr (ci, fs))) (hci : vwCl[ci]?.map (fun q => q.1) = some y.cls) (hct : Cd G d y cc' nL' ret' (.ref a :: [x1, x2, x3, x4]) h (some (.int r)) h1) (hR : (Nat.ble (d + 1) R.frames && Nat.ble (8 + (nL' + 11) + 39 * d) R.locals) = true) (hcs : (Nat.ble kc R.cells && Nat.ble ks R.slots) = true) (hsm : Nat.ble (st.map fun v => v.category).sum 8 = true) (kk : Wp G own cc nL nm ret R Z kc ks (pc + 3) L (.int r :: st) h1) : Wp G own cc nL nm ret R Z kc ks pc L (x4 :: x3 :: x2 :: x1 :: .ref a :: st) h :=
  x_callV (As := [x1, x2, x3, x4]) (rest := st) (mc := 0) (ms := 0) hd hlk hy hM hci (by rfl) hR hcs hsm rfl hct (fun v h2 hq => by obtain ⟨e1, e2⟩ := hq; subst e1; subst e2; exact kk)
theorem x_cV4v {ci : Nat} {fs : List Value} {x1 x2 x3 x4 : Value} {h1 : xH} (hd : decode cc pc = .ok (.invokevirtual idx, 3)) (hlk : Cond.methodLink own idx y ∈ xW) (hy : xMv y cc' nL' ret' 4) (hM : hAt h a = some (.inr (ci, fs))) (hci : vwCl[ci]?.map (fun q => q.1) = some y.cls) (hct : Cd G d y cc' nL' ret' (.ref a :: [x1, x2, x3, x4]) h none h1) (hR : (Nat.ble (d + 1) R.frames && Nat.ble (8 + (nL' + 11) + 39 * d) R.locals) = true) (hcs : (Nat.ble kc R.cells && Nat.ble ks R.slots) = true) (hsm : Nat.ble (st.map fun v => v.category).sum 8 = true) (kk : Wp G own cc nL nm ret R Z kc ks (pc + 3) L (st) h1) : Wp G own cc nL nm ret R Z kc ks pc L (x4 :: x3 :: x2 :: x1 :: .ref a :: st) h :=
  x_callV (As := [x1, x2, x3, x4]) (rest := st) (mc := 0) (ms := 0) hd hlk hy hM hci (by rfl) hR hcs hsm rfl hct (fun v h2 hq => by obtain ⟨e1, e2⟩ := hq; subst e1; subst e2; exact kk)
theorem x_cS0i {r : Int32} {h1 : xH} (hd : decode cc pc = .ok (.invokestatic idx, 3)) (hlk : Cond.methodLink own idx y ∈ xW) (hy : xMs y cc' nL' ret' 0) (hct : Cd G d y cc' nL' ret' ([]) h (some (.int r)) h1) (hR : (Nat.ble (d + 1) R.frames && Nat.ble (8 + (nL' + 11) + 39 * d) R.locals) = true) (hcs : (Nat.ble kc R.cells && Nat.ble ks R.slots) = true) (hsm : Nat.ble (st.map fun v => v.category).sum 8 = true) (kk : Wp G own cc nL nm ret R Z kc ks (pc + 3) L (.int r :: st) h1) : Wp G own cc nL nm ret R Z kc ks pc L (st) h :=
  x_callS (As := []) (rest := st) (mc := 0) (ms := 0) hd hlk hy (by rfl) hR hcs hsm rfl hct (fun v h2 hq => by obtain ⟨e1, e2⟩ := hq; subst e1; subst e2; exact kk)
theorem x_cS0l {r : Int64} {h1 : xH} (hd : decode cc pc = .ok (.invokestatic idx, 3)) (hlk : Cond.methodLink own idx y ∈ xW) (hy : xMs y cc' nL' ret' 0) (hct : Cd G d y cc' nL' ret' ([]) h (some (.long r)) h1) (hR : (Nat.ble (d + 1) R.frames && Nat.ble (8 + (nL' + 11) + 39 * d) R.locals) = true) (hcs : (Nat.ble kc R.cells && Nat.ble ks R.slots) = true) (hsm : Nat.ble (st.map fun v => v.category).sum 8 = true) (kk : Wp G own cc nL nm ret R Z kc ks (pc + 3) L (.long r :: st) h1) : Wp G own cc nL nm ret R Z kc ks pc L (st) h :=
  x_callS (As := []) (rest := st) (mc := 0) (ms := 0) hd hlk hy (by rfl) hR hcs hsm rfl hct (fun v h2 hq => by obtain ⟨e1, e2⟩ := hq; subst e1; subst e2; exact kk)
theorem x_cS0v {h1 : xH} (hd : decode cc pc = .ok (.invokestatic idx, 3)) (hlk : Cond.methodLink own idx y ∈ xW) (hy : xMs y cc' nL' ret' 0) (hct : Cd G d y cc' nL' ret' ([]) h none h1) (hR : (Nat.ble (d + 1) R.frames && Nat.ble (8 + (nL' + 11) + 39 * d) R.locals) = true) (hcs : (Nat.ble kc R.cells && Nat.ble ks R.slots) = true) (hsm : Nat.ble (st.map fun v => v.category).sum 8 = true) (kk : Wp G own cc nL nm ret R Z kc ks (pc + 3) L (st) h1) : Wp G own cc nL nm ret R Z kc ks pc L (st) h :=
  x_callS (As := []) (rest := st) (mc := 0) (ms := 0) hd hlk hy (by rfl) hR hcs hsm rfl hct (fun v h2 hq => by obtain ⟨e1, e2⟩ := hq; subst e1; subst e2; exact kk)
theorem x_cS1i {x1 : Value} {r : Int32} {h1 : xH} (hd : decode cc pc = .ok (.invokestatic idx, 3)) (hlk : Cond.methodLink own idx y ∈ xW) (hy : xMs y cc' nL' ret' 1) (hct : Cd G d y cc' nL' ret' ([x1]) h (some (.int r)) h1) (hR : (Nat.ble (d + 1) R.frames && Nat.ble (8 + (nL' + 11) + 39 * d) R.locals) = true) (hcs : (Nat.ble kc R.cells && Nat.ble ks R.slots) = true) (hsm : Nat.ble (st.map fun v => v.category).sum 8 = true) (kk : Wp G own cc nL nm ret R Z kc ks (pc + 3) L (.int r :: st) h1) : Wp G own cc nL nm ret R Z kc ks pc L (x1 :: st) h :=
  x_callS (As := [x1]) (rest := st) (mc := 0) (ms := 0) hd hlk hy (by rfl) hR hcs hsm rfl hct (fun v h2 hq => by obtain ⟨e1, e2⟩ := hq; subst e1; subst e2; exact kk)
theorem x_cS1v {x1 : Value} {h1 : xH} (hd : decode cc pc = .ok (.invokestatic idx, 3)) (hlk : Cond.methodLink own idx y ∈ xW) (hy : xMs y cc' nL' ret' 1) (hct : Cd G d y cc' nL' ret' ([x1]) h none h1) (hR : (Nat.ble (d + 1) R.frames && Nat.ble (8 + (nL' + 11) + 39 * d) R.locals) = true) (hcs : (Nat.ble kc R.cells && Nat.ble ks R.slots) = true) (hsm : Nat.ble (st.map fun v => v.category).sum 8 = true) (kk : Wp G own cc nL nm ret R Z kc ks (pc + 3) L (st) h1) : Wp G own cc nL nm ret R Z kc ks pc L (x1 :: st) h :=
  x_callS (As := [x1]) (rest := st) (mc := 0) (ms := 0) hd hlk hy (by rfl) hR hcs hsm rfl hct (fun v h2 hq => by obtain ⟨e1, e2⟩ := hq; subst e1; subst e2; exact kk)
theorem x_cS2i {x1 x2 : Value} {r : Int32} {h1 : xH} (hd : decode cc pc = .ok (.invokestatic idx, 3)) (hlk : Cond.methodLink own idx y ∈ xW) (hy : xMs y cc' nL' ret' 2) (hct : Cd G d y cc' nL' ret' ([x1, x2]) h (some (.int r)) h1) (hR : (Nat.ble (d + 1) R.frames && Nat.ble (8 + (nL' + 11) + 39 * d) R.locals) = true) (hcs : (Nat.ble kc R.cells && Nat.ble ks R.slots) = true) (hsm : Nat.ble (st.map fun v => v.category).sum 8 = true) (kk : Wp G own cc nL nm ret R Z kc ks (pc + 3) L (.int r :: st) h1) : Wp G own cc nL nm ret R Z kc ks pc L (x2 :: x1 :: st) h :=
  x_callS (As := [x1, x2]) (rest := st) (mc := 0) (ms := 0) hd hlk hy (by rfl) hR hcs hsm rfl hct (fun v h2 hq => by obtain ⟨e1, e2⟩ := hq; subst e1; subst e2; exact kk)
theorem x_cS2v {x1 x2 : Value} {h1 : xH} (hd : decode cc pc = .ok (.invokestatic idx, 3)) (hlk : Cond.methodLink own idx y ∈ xW) (hy : xMs y cc' nL' ret' 2) (hct : Cd G d y cc' nL' ret' ([x1, x2]) h none h1) (hR : (Nat.ble (d + 1) R.frames && Nat.ble (8 + (nL' + 11) + 39 * d) R.locals) = true) (hcs : (Nat.ble kc R.cells && Nat.ble ks R.slots) = true) (hsm : Nat.ble (st.map fun v => v.category).sum 8 = true) (kk : Wp G own cc nL nm ret R Z kc ks (pc + 3) L (st) h1) : Wp G own cc nL nm ret R Z kc ks pc L (x2 :: x1 :: st) h :=
  x_callS (As := [x1, x2]) (rest := st) (mc := 0) (ms := 0) hd hlk hy (by rfl) hR hcs hsm rfl hct (fun v h2 hq => by obtain ⟨e1, e2⟩ := hq; subst e1; subst e2; exact kk)
theorem x_cS3i {x1 x2 x3 : Value} {r : Int32} {h1 : xH} (hd : decode cc pc = .ok (.invokestatic idx, 3)) (hlk : Cond.methodLink own idx y ∈ xW) (hy : xMs y cc' nL' ret' 3) (hct : Cd G d y cc' nL' ret' ([x1, x2, x3]) h (some (.int r)) h1) (hR : (Nat.ble (d + 1) R.frames && Nat.ble (8 + (nL' + 11) + 39 * d) R.locals) = true) (hcs : (Nat.ble kc R.cells && Nat.ble ks R.slots) = true) (hsm : Nat.ble (st.map fun v => v.category).sum 8 = true) (kk : Wp G own cc nL nm ret R Z kc ks (pc + 3) L (.int r :: st) h1) : Wp G own cc nL nm ret R Z kc ks pc L (x3 :: x2 :: x1 :: st) h :=
  x_callS (As := [x1, x2, x3]) (rest := st) (mc := 0) (ms := 0) hd hlk hy (by rfl) hR hcs hsm rfl hct (fun v h2 hq => by obtain ⟨e1, e2⟩ := hq; subst e1; subst e2; exact kk)
theorem x_cS3v {x1 x2 x3 : Value} {h1 : xH} (hd : decode cc pc = .ok (.invokestatic idx, 3)) (hlk : Cond.methodLink own idx y ∈ xW) (hy : xMs y cc' nL' ret' 3) (hct : Cd G d y cc' nL' ret' ([x1, x2, x3]) h none h1) (hR : (Nat.ble (d + 1) R.frames && Nat.ble (8 + (nL' + 11) + 39 * d) R.locals) = true) (hcs : (Nat.ble kc R.cells && Nat.ble ks R.slots) = true) (hsm : Nat.ble (st.map fun v => v.category).sum 8 = true) (kk : Wp G own cc nL nm ret R Z kc ks (pc + 3) L (st) h1) : Wp G own cc nL nm ret R Z kc ks pc L (x3 :: x2 :: x1 :: st) h :=
  x_callS (As := [x1, x2, x3]) (rest := st) (mc := 0) (ms := 0) hd hlk hy (by rfl) hR hcs hsm rfl hct (fun v h2 hq => by obtain ⟨e1, e2⟩ := hq; subst e1; subst e2; exact kk)
theorem x_cS4i {x1 x2 x3 x4 : Value} {r : Int32} {h1 : xH} (hd : decode cc pc = .ok (.invokestatic idx, 3)) (hlk : Cond.methodLink own idx y ∈ xW) (hy : xMs y cc' nL' ret' 4) (hct : Cd G d y cc' nL' ret' ([x1, x2, x3, x4]) h (some (.int r)) h1) (hR : (Nat.ble (d + 1) R.frames && Nat.ble (8 + (nL' + 11) + 39 * d) R.locals) = true) (hcs : (Nat.ble kc R.cells && Nat.ble ks R.slots) = true) (hsm : Nat.ble (st.map fun v => v.category).sum 8 = true) (kk : Wp G own cc nL nm ret R Z kc ks (pc + 3) L (.int r :: st) h1) : Wp G own cc nL nm ret R Z kc ks pc L (x4 :: x3 :: x2 :: x1 :: st) h :=
  x_callS (As := [x1, x2, x3, x4]) (rest := st) (mc := 0) (ms := 0) hd hlk hy (by rfl) hR hcs hsm rfl hct (fun v h2 hq => by obtain ⟨e1, e2⟩ := hq; subst e1; subst e2; exact kk)
theorem x_cS4v {x1 x2 x3 x4 : Value} {h1 : xH} (hd : decode cc pc = .ok (.invokestatic idx, 3)) (hlk : Cond.methodLink own idx y ∈ xW) (hy : xMs y cc' nL' ret' 4) (hct : Cd G d y cc' nL' ret' ([x1, x2, x3, x4]) h none h1) (hR : (Nat.ble (d + 1) R.frames && Nat.ble (8 + (nL' + 11) + 39 * d) R.locals) = true) (hcs : (Nat.ble kc R.cells && Nat.ble ks R.slots) = true) (hsm : Nat.ble (st.map fun v => v.category).sum 8 = true) (kk : Wp G own cc nL nm ret R Z kc ks (pc + 3) L (st) h1) : Wp G own cc nL nm ret R Z kc ks pc L (x4 :: x3 :: x2 :: x1 :: st) h :=
  x_callS (As := [x1, x2, x3, x4]) (rest := st) (mc := 0) (ms := 0) hd hlk hy (by rfl) hR hcs hsm rfl hct (fun v h2 hq => by obtain ⟨e1, e2⟩ := hq; subst e1; subst e2; exact kk)
theorem x_cN3i {host : String} {x1 x2 x3 : Value} {r : Int32} {h1 : xH} (hd : decode cc pc = .ok (.invokestatic idx, 3)) (hlk : Cond.methodLinkNest own idx y host ∈ xNest) (hy : xMs y cc' nL' ret' 3) (hct : Cd G d y cc' nL' ret' ([x1, x2, x3]) h (some (.int r)) h1) (hR : (Nat.ble (d + 1) R.frames && Nat.ble (8 + (nL' + 11) + 39 * d) R.locals) = true) (hcs : (Nat.ble kc R.cells && Nat.ble ks R.slots) = true) (hsm : Nat.ble (st.map fun v => v.category).sum 8 = true) (kk : Wp G own cc nL nm ret R Z kc ks (pc + 3) L (.int r :: st) h1) : Wp G own cc nL nm ret R Z kc ks pc L (x3 :: x2 :: x1 :: st) h :=
  x_callSN (As := [x1, x2, x3]) (rest := st) (mc := 0) (ms := 0) hd hlk hy (by rfl) hR hcs hsm rfl hct (fun v h2 hq => by obtain ⟨e1, e2⟩ := hq; subst e1; subst e2; exact kk)
theorem x_cN3v {host : String} {x1 x2 x3 : Value} {h1 : xH} (hd : decode cc pc = .ok (.invokestatic idx, 3)) (hlk : Cond.methodLinkNest own idx y host ∈ xNest) (hy : xMs y cc' nL' ret' 3) (hct : Cd G d y cc' nL' ret' ([x1, x2, x3]) h none h1) (hR : (Nat.ble (d + 1) R.frames && Nat.ble (8 + (nL' + 11) + 39 * d) R.locals) = true) (hcs : (Nat.ble kc R.cells && Nat.ble ks R.slots) = true) (hsm : Nat.ble (st.map fun v => v.category).sum 8 = true) (kk : Wp G own cc nL nm ret R Z kc ks (pc + 3) L (st) h1) : Wp G own cc nL nm ret R Z kc ks pc L (x3 :: x2 :: x1 :: st) h :=
  x_callSN (As := [x1, x2, x3]) (rest := st) (mc := 0) (ms := 0) hd hlk hy (by rfl) hR hcs hsm rfl hct (fun v h2 hq => by obtain ⟨e1, e2⟩ := hq; subst e1; subst e2; exact kk)
end XD
section XJ
variable {G : xG} {own : String} {cc : ByteArray} {nL : Nat} {nm : String} {ret : Option FieldType} {R : Room} {Z : xZ} {kc ks pc : Nat} {L : List (Nat × Value)} {st : List Value} {h : xH}
theorem x_mrg {pc' : Nat} {L' : List (Nat × Value)} {st' : List Value} {h' : xH} (f : Wp G own cc nL nm ret R Z kc ks pc' L' st' h' → Wp G own cc nL nm ret R Z kc ks pc L st h) (kk : Wp G own cc nL nm ret R Z kc ks pc' L' st' h') : Wp G own cc nL nm ret R Z kc ks pc L st h := f kk
theorem Wp.sub {L' : List (Nat × Value)} (is : List Nat) (e : lv_pick L is = L') (kk : Wp G own cc nL nm ret R Z kc ks pc L' st h) : Wp G own cc nL nm ret R Z kc ks pc L st h := by
  intro p e2 s m args below meth c H locs ls C hH hS hl
  exact kk p e2 s m args below meth c H locs ls C hH hS (lv_sub hl is e)
end XJ
theorem hne_k {h : xH} {a b : Nat} {e0 e1 : gE} (ha : hAt h a = some e0) (hb : hAt h b = some e1) (hk : Nat.beq (gk e0) (gk e1) = false) : a ≠ b := fun z => by
  rw [z, hb] at ha
  have := Option.some.inj ha
  rw [this] at hk
  exact absurd (Nat.beq_refl _) (by rw [hk]; decide)
/-- a cell that was put once more, behind others -/
theorem hSet_sw1 {h : xH} {a b : Nat} {e1 e2 e3 : gE} (hab : a ≠ b) : hSet (hSet (hSet h a e1) b e2) a e3 = hSet (hSet h a e3) b e2 := by
  rw [hSet_comm (Ne.symm hab), hSet_set]
theorem hSet_sw2 {h : xH} {a b c : Nat} {e1 e2 e3 e4 : gE} (hab : a ≠ b) (hac : a ≠ c) : hSet (hSet (hSet (hSet h a e1) b e2) c e3) a e4 = hSet (hSet (hSet h a e4) b e2) c e3 := by
  rw [hSet_comm (Ne.symm hac), hSet_sw1 hab]
theorem hSet_sw3 {h : xH} {a b c d : Nat} {e1 e2 e3 e4 e5 : gE} (hab : a ≠ b) (hac : a ≠ c) (had : a ≠ d) : hSet (hSet (hSet (hSet (hSet h a e1) b e2) c e3) d e4) a e5 = hSet (hSet (hSet (hSet h a e5) b e2) c e3) d e4 := by
  rw [hSet_comm (Ne.symm had), hSet_sw2 hab hac]
theorem xneL {x k : Int32} {z : Int} (c : ¬ x = k) (hk : k.toInt = z) : x.toInt ≠ z := fun q => c (Int32.toInt_inj.mp (q.trans hk.symm))
/-- the fuel of every loop: none needs as much -/
def xK : Nat := 3000
/-! the cells of the two systems; w, r, t, m: the numbers of an object by their places -/
abbrev ruC (r : Nat → Int32) : gE := .inr (1, [.int (r 0), .int (r 1), .int (r 2), .int (r 3), .int (r 4)])
abbrev waC (la ka : Nat) (w : Nat → Int32) : gE := .inr (3, [.int (w 24), .int (w 11), .ref la, .ref ka, .int (w 10), .int (w 0), .int (w 1), .int (w 2), .int (w 3), .int (w 4), .int (w 5), .int (w 6), .int (w 7), .int (w 8), .int (w 9)])
abbrev txC (ca : Nat) (t : Nat → Int32) : gE := .inr (2, [.ref ca, .int (t 0), .int (t 1)])
abbrev ntC (ru wy : Nat) (t : Nat → Int32) : gE := .inr (0, [.ref ru, .ref wy, .int (t 0), .int (t 1)])
abbrev gpC (tx ne dr ea tr tu : Nat) (t : Nat → Int32) : gE := .inr (4, [.ref tx, .ref ne, .ref dr, .ref ea, .int (t 0), .int (t 1), .ref tr, .ref tu])
abbrev moC (nw rd sd pa xt : Nat) (m : Nat → Int32) : gE := .inr (5, [.ref nw, .ref rd, .ref sd, .ref pa, .int (m 0), .ref xt, .int (m 1), .int (m 2), .int (m 3), .int (m 4)])
abbrev arI (n : Nat) (f : Nat → Int32) : gE := .inl (0, n, .inl f)
abbrev arC (n : Nat) (f : Nat → Int32) : gE := .inl (1, n, .inl f)
abbrev arR (t n : Nat) (f : Nat → Option Nat) : gE := .inl (t, n, .inr (.inr (.inr (.inr f))))
/-- a truth value -/
def xB (v : Int32) : Prop := v = 0 ∨ v = 1
theorem xB0 : xB 0 := Or.inl rfl
theorem xB1 : xB 1 := Or.inr rfl
theorem xB_ite {c : Prop} [Decidable c] {a b : Int32} (ha : xB a) (hb : xB b) : xB (if c then a else b) := by split <;> assumption
theorem xB_ite1 {c : Prop} [Decidable c] {α : Type} {a b : Int32 × α} (ha : xB a.1) (hb : xB b.1) : xB (if c then a else b).1 := by split <;> assumption
theorem xb_nar {v : Int32} (hv : xB v) : narrow .boolean (.int v) = .int v := by rcases hv with rfl | rfl <;> rfl
theorem xb_fit {v : Int32} (hv : xB v) : fits .boolean (.int v) = true := by rcases hv with rfl | rfl <;> rfl
theorem xB_fst {α : Type} {a : Int32} {b : α} (ha : xB a) : xB (a, b).1 := ha

