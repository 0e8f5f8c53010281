/-! the law's own rows -/
def R_law : String := "GreatProbesLaw"
def lw_P (b : Addr) (xs : List Int32) (args : Array Value) (s : State) : Prop := args = #[.ref b] ∧ s.IntsAt b xs ∧ xs.length ≤ 2048 ∧ (Jvm.Cond.and given_1 narrow_1).before args s = true
def lw_Q (_ : Array Value) (s : State) (o : Outcome) (t : State) : Prop := o = .returned (some (.int 1)) ∧ Framed s o t [] 600000 7302250
def lw_Z (below : List Frame) (a : Array Value) (s : State) : State → Prop := fun t => ∃ o, t.status = .running ∧ Ended t below o ∧ lw_Q a s o t
/-- the law's own end, with 1 on the stack, nothing written that was there before, its room as the claim has it -/
theorem lw_ret {p : Program} {l : Launch} {e : Env} {s : State} {m : MethodId} {args : Array Value} {below : List Frame} {meth : Method} {c : Code} (hx : p.tables.exec = Jvm.exec) (hb : c.code = code) (hr : meth.sig.returnType = ret) (hlocks : meth.locks = false) {pc : Nat} {H : Heap} {ls : Array Slot} (hdg : decode code pc = .ok (.ireturn, 1)) : W p l e room_1 s m args below meth c H [] 600000 7302250 (lw_Z below args s) (F0 m pc ls [.int 1]) := by
  intro T hT X
  obtain ⟨fs, hret, hrun, hended, hW, hframe⟩ := X.leave (v := some (.int 1)) (hlocks := hlocks) (fun h => by rw [hr] at h; cases h)
  have hmeth' : T.vm.method? m = some meth := X.method'
  refine ⟨T.setFrames fs, ?_, .returned (some (.int 1)), hrun, hended, rfl, ⟨_, rfl⟩, hW, hframe⟩
  jvm_step X.here [X.here.top, hx, hb, hdg, hmeth', hr, ret, narrow_b1]
  (try refine ⟨rfl, ?_⟩); (try refine ⟨rfl, ?_⟩)
  first | (intro acts; rw [hret _ acts rfl rfl rfl]) | rw [hret _ _ rfl rfl rfl]
  exact Steps.refl _
/-- the law's end, where the run's own cells begin with its start -/
def lwZ (G : xG) : xZ := fun below args s t => s.heap.size = xg_n G → lw_Z below args s t
section XL
variable {G : xG} {nm : String} {kc ks pc : Nat} {L : List (Nat × Value)} {st : List Value} {h : xH}
theorem x_lwret (hd : decode code pc = .ok (.ireturn, 1)) (hc : Nat.ble kc 600000 = true) (hs : Nat.ble ks 7302250 = true) : Wp G RL code 4 nm ret room_1 (lwZ G) kc ks pc L [.int 1] h := by
  intro p e s m args below meth c H locs ls C hH hS hl
  by_cases hn : s.heap.size = xg_n G
  · refine W.mono (fun t ht _ => ht) ?_
    refine va_forget (fun q hq => ?_) ?_
    · rw [hn]; exact hS.2.2 q hq
    · refine W.widen (Nat.le_of_ble_eq_true hc) (Nat.le_of_ble_eq_true hs) ?_
      exact lw_ret C.1 C.2.1 C.2.2.2.2.2.1 C.2.2.2.2.2.2.1 hd
  · intro T hT X
    exact ⟨_, Steps.refl _, fun z => absurd z hn⟩
end XL
section XL2
variable {G : xG} {own : String} {cc : ByteArray} {nL : Nat} {nm : String} {ret : Option FieldType} {R : Room} {Z : xZ} {kc ks pc : Nat} {L : List (Nat × Value)} {st : List Value} {h : xH} {xs : Nat → Int32} {Ls : Nat}
theorem x_sldE {i : Int32} (hd : decode cc pc = .ok (.iaload, 1)) (ex : xg_x G = xs) (eL : xg_L G = Ls) (hin : vp_in i Ls) {j : Nat} (hj : i.toNatClampNeg = j) (kk : Wp G own cc nL nm ret R Z kc ks (pc + 1) L (.int (xs j) :: st) h) : Wp G own cc nL nm ret R Z kc ks pc L (.int i :: .ref (xg_b G) :: st) h := by
  subst ex; subst eL; subst hj
  exact x_sld hd hin kk
theorem x_slenE (hd : decode cc pc = .ok (.arraylength, 1)) (eL : xg_L G = Ls) (kk : Wp G own cc nL nm ret R Z kc ks (pc + 1) L (.int (Int32.ofNat Ls) :: st) h) : Wp G own cc nL nm ret R Z kc ks pc L (.ref (xg_b G) :: st) h := by
  subst eL
  exact x_slen hd kk
end XL2
