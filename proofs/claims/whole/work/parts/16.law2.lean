def f_law_way (xs : (Nat → Int32)) (s : (Nat → Int32)) (x : (Nat → Int32)) (lf : (Nat → Int32)) (r : (Nat → Int32)) (t : (Nat → Int32)) (W : (Nat → Nat → Int32)) (LF : (Nat → Nat → Int32)) (KF : (Nat → Nat → Int32)) (dr : (Nat → Int32)) (dt : (Nat → Int32)) (DW : (Nat → Nat → Int32)) (DL : (Nat → Nat → Int32)) (DK : (Nat → Nat → Int32)) (ER : (Nat → Nat → Int32)) (ET : (Nat → Nat → Int32)) (EW : (Nat → Nat → Nat → Int32)) (EL : (Nat → Nat → Nat → Int32)) (EK : (Nat → Nat → Nat → Int32)) (tw : (Nat → Int32)) (tl : (Nat → Int32)) (tk : (Nat → Int32)) (tu : (Nat → Int32)) (m : (Nat → Int32)) (tn : (Nat → Int32)) (tr_ : (Nat → Int32)) (ts : (Nat → Int32)) (tp : (Nat → Int32)) (tx : (Nat → Int32)) (Ls : Nat) (v3 : Int32) : Unit := (if (f_X4_way s r t W LF KF (xs ((v3 + (1 : Int32)).toNatClampNeg)) (xs ((v3 + (2 : Int32)).toNatClampNeg))) = (f_X5_way m tn (xs ((v3 + (1 : Int32)).toNatClampNeg)) (xs ((v3 + (2 : Int32)).toNatClampNeg))) then () else ())
def p_law_way (xs : (Nat → Int32)) (s : (Nat → Int32)) (x : (Nat → Int32)) (lf : (Nat → Int32)) (r : (Nat → Int32)) (t : (Nat → Int32)) (W : (Nat → Nat → Int32)) (LF : (Nat → Nat → Int32)) (KF : (Nat → Nat → Int32)) (dr : (Nat → Int32)) (dt : (Nat → Int32)) (DW : (Nat → Nat → Int32)) (DL : (Nat → Nat → Int32)) (DK : (Nat → Nat → Int32)) (ER : (Nat → Nat → Int32)) (ET : (Nat → Nat → Int32)) (EW : (Nat → Nat → Nat → Int32)) (EL : (Nat → Nat → Nat → Int32)) (EK : (Nat → Nat → Nat → Int32)) (tw : (Nat → Int32)) (tl : (Nat → Int32)) (tk : (Nat → Int32)) (tu : (Nat → Int32)) (m : (Nat → Int32)) (tn : (Nat → Int32)) (tr_ : (Nat → Int32)) (ts : (Nat → Int32)) (tp : (Nat → Int32)) (tx : (Nat → Int32)) (Ls : Nat) (v3 : Int32) : Prop := (vp_in (v3 + (1 : Int32)) Ls ∧ (vp_in (v3 + (2 : Int32)) Ls ∧ (p_X4_way s r t W LF KF (xs ((v3 + (1 : Int32)).toNatClampNeg)) (xs ((v3 + (2 : Int32)).toNatClampNeg)) ∧ (vp_in (v3 + (1 : Int32)) Ls ∧ (vp_in (v3 + (2 : Int32)) Ls ∧ (p_X5_way m tn (xs ((v3 + (1 : Int32)).toNatClampNeg)) (xs ((v3 + (2 : Int32)).toNatClampNeg)) ∧ (((f_X4_way s r t W LF KF (xs ((v3 + (1 : Int32)).toNatClampNeg)) (xs ((v3 + (2 : Int32)).toNatClampNeg))) = (f_X5_way m tn (xs ((v3 + (1 : Int32)).toNatClampNeg)) (xs ((v3 + (2 : Int32)).toNatClampNeg))) → True) ∧ (¬ ((f_X4_way s r t W LF KF (xs ((v3 + (1 : Int32)).toNatClampNeg)) (xs ((v3 + (2 : Int32)).toNatClampNeg))) = (f_X5_way m tn (xs ((v3 + (1 : Int32)).toNatClampNeg)) (xs ((v3 + (2 : Int32)).toNatClampNeg)))) → False))))))))
set_option maxRecDepth 100000 in
set_option maxHeartbeats 4000000 in
theorem K_law_way (G : xG) (h : xH) (nm : String) (g : Nat) (xs : (Nat → Int32)) (s : (Nat → Int32)) (x : (Nat → Int32)) (lf : (Nat → Int32)) (r : (Nat → Int32)) (t : (Nat → Int32)) (W : (Nat → Nat → Int32)) (LF : (Nat → Nat → Int32)) (KF : (Nat → Nat → Int32)) (dr : (Nat → Int32)) (dt : (Nat → Int32)) (DW : (Nat → Nat → Int32)) (DL : (Nat → Nat → Int32)) (DK : (Nat → Nat → Int32)) (ER : (Nat → Nat → Int32)) (ET : (Nat → Nat → Int32)) (EW : (Nat → Nat → Nat → Int32)) (EL : (Nat → Nat → Nat → Int32)) (EK : (Nat → Nat → Nat → Int32)) (tw : (Nat → Int32)) (tl : (Nat → Int32)) (tk : (Nat → Int32)) (tu : (Nat → Int32)) (m : (Nat → Int32)) (tn : (Nat → Int32)) (tr_ : (Nat → Int32)) (ts : (Nat → Int32)) (tp : (Nat → Int32)) (tx : (Nat → Int32)) (Ls : Nat) (v3 : Int32) (k_g : hAt h g = some (gpC (g + 1) (g + 3) (g + 18) (g + 33) (g + 34) (g + 37) s)) (k_g1 : hAt h (g + 1) = some (txC (g + 2) x)) (k_g2 : hAt h (g + 2) = some (arC 240 lf)) (k_g3 : nk h (g + 3) r t W LF KF) (k_g18 : nk h (g + 18) dr dt DW DL DK) (k_g33 : hAt h (g + 33) = some (arR 2 4 (fun j => some ((g + 38) + 15 * j)))) (k_g38 : ek h (g + 38) ER ET EW EL EK) (k_g34 : hAt h (g + 34) = some (waC (g + 35) (g + 36) tw)) (k_g35 : hAt h (g + 35) = some (arI 6 tl)) (k_g36 : hAt h (g + 36) = some (arI 6 tk)) (k_g37 : hAt h (g + 37) = some (ruC tu)) (k_g98 : hAt h (g + 98) = some (moC (g + 99) (g + 100) (g + 101) (g + 102) (g + 103) m)) (k_g99 : hAt h (g + 99) = some (arI 103 tn)) (k_g100 : hAt h (g + 100) = some (arI 103 tr_)) (k_g101 : hAt h (g + 101) = some (arI 103 ts)) (k_g102 : hAt h (g + 102) = some (arI 412 tp)) (k_g103 : hAt h (g + 103) = some (arI 240 tx)) (ex : xg_x G = xs) (eL : xg_L G = Ls) (hp : p_law_way xs s x lf r t W LF KF dr dt DW DL DK ER ET EW EL EK tw tl tk tu m tn tr_ ts tp tx Ls v3) (kk : ∀ h2 : xH, hAt h2 g = some (gpC (g + 1) (g + 3) (g + 18) (g + 33) (g + 34) (g + 37) s) → hAt h2 (g + 1) = some (txC (g + 2) x) → hAt h2 (g + 2) = some (arC 240 lf) → nk h2 (g + 3) r t W LF KF → nk h2 (g + 18) dr dt DW DL DK → hAt h2 (g + 33) = some (arR 2 4 (fun j => some ((g + 38) + 15 * j))) → ek h2 (g + 38) ER ET EW EL EK → hAt h2 (g + 34) = some (waC (g + 35) (g + 36) tw) → hAt h2 (g + 35) = some (arI 6 tl) → hAt h2 (g + 36) = some (arI 6 tk) → hAt h2 (g + 37) = some (ruC tu) → hAt h2 (g + 98) = some (moC (g + 99) (g + 100) (g + 101) (g + 102) (g + 103) m) → hAt h2 (g + 99) = some (arI 103 tn) → hAt h2 (g + 100) = some (arI 103 tr_) → hAt h2 (g + 101) = some (arI 103 ts) → hAt h2 (g + 102) = some (arI 412 tp) → hAt h2 (g + 103) = some (arI 240 tx) → Wp G RL code 4 nm ret room_1 (lwZ G) 104 1984 735 [(3, .int v3), (2, .ref (g + 98)), (1, .ref g), (0, .ref (xg_b G))] [] h2) : Wp G RL code 4 nm ret room_1 (lwZ G) 104 1984 405 [(3, .int v3), (2, .ref (g + 98)), (1, .ref g), (0, .ref (xg_b G))] [] h := by
  unfold p_law_way at hp
  refine x_aload_n (pc := 405) dL_law_405 rfl ?_
  refine x_aload_n (pc := 406) dL_law_406 rfl ?_
  refine x_iload_n (pc := 407) dL_law_407 rfl ?_
  refine x_iconst (pc := 408) (v := (1 : Int32)) dL_law_408 (by decide) ?_
  refine x_iadd (pc := 409) dL_law_409 ?_
  obtain ⟨q410, hp⟩ := hp
  refine x_sldE (pc := 410) dL_law_410 ex eL q410 (j := ((v3 + (1 : Int32)).toNatClampNeg)) rfl ?_
  refine x_aload_n (pc := 411) dL_law_411 rfl ?_
  refine x_iload_n (pc := 412) dL_law_412 rfl ?_
  refine x_iconst (pc := 413) (v := (2 : Int32)) dL_law_413 (by decide) ?_
  refine x_iadd (pc := 414) dL_law_414 ?_
  obtain ⟨q415, hp⟩ := hp
  refine x_sldE (pc := 415) dL_law_415 ex eL q415 (j := ((v3 + (2 : Int32)).toNatClampNeg)) rfl ?_
  obtain ⟨q416, hp⟩ := hp
  refine x_cV2i (pc := 416) dL_law_416 xl_L_61 xv_X4_way k_g rfl (C_X4_way G _ g s r t W LF KF (xs ((v3 + (1 : Int32)).toNatClampNeg)) (xs ((v3 + (2 : Int32)).toNatClampNeg)) k_g k_g3 q416) rfl rfl rfl ?_
  obtain ⟨F1, eF1⟩ : ∃ F, f_X4_way s r t W LF KF (xs ((v3 + (1 : Int32)).toNatClampNeg)) (xs ((v3 + (2 : Int32)).toNatClampNeg)) = F := ⟨_, rfl⟩
  rw [eF1]
  try rw [eF1] at hp
  refine x_aload_n (pc := 419) dL_law_419 rfl ?_
  refine x_aload_n (pc := 420) dL_law_420 rfl ?_
  refine x_iload_n (pc := 421) dL_law_421 rfl ?_
  refine x_iconst (pc := 422) (v := (1 : Int32)) dL_law_422 (by decide) ?_
  refine x_iadd (pc := 423) dL_law_423 ?_
  obtain ⟨q424, hp⟩ := hp
  refine x_sldE (pc := 424) dL_law_424 ex eL q424 (j := ((v3 + (1 : Int32)).toNatClampNeg)) rfl ?_
  refine x_aload_n (pc := 425) dL_law_425 rfl ?_
  refine x_iload_n (pc := 426) dL_law_426 rfl ?_
  refine x_iconst (pc := 427) (v := (2 : Int32)) dL_law_427 (by decide) ?_
  refine x_iadd (pc := 428) dL_law_428 ?_
  obtain ⟨q429, hp⟩ := hp
  refine x_sldE (pc := 429) dL_law_429 ex eL q429 (j := ((v3 + (2 : Int32)).toNatClampNeg)) rfl ?_
  obtain ⟨q430, hp⟩ := hp
  refine x_cV2i (pc := 430) dL_law_430 xl_L_64 xv_X5_way k_g98 rfl (C_X5_way G _ (g + 98) (g + 99) (g + 100) (g + 101) (g + 102) (g + 103) m tn (xs ((v3 + (1 : Int32)).toNatClampNeg)) (xs ((v3 + (2 : Int32)).toNatClampNeg)) k_g98 k_g99 q430) rfl rfl rfl ?_
  obtain ⟨F2, eF2⟩ : ∃ F, f_X5_way m tn (xs ((v3 + (1 : Int32)).toNatClampNeg)) (xs ((v3 + (2 : Int32)).toNatClampNeg)) = F := ⟨_, rfl⟩
  rw [eF2]
  try rw [eF2] at hp
  refine x_icmp_eq (pc := 433) (tgt := 735) dL_law_433 (by decide) (fun (c1 : F1 = F2) => ?_) (fun (c1 : ¬ (F1 = F2)) => ?_)
  · replace hp := hp.1 c1
    exact kk h k_g k_g1 k_g2 k_g3 k_g18 k_g33 k_g38 k_g34 k_g35 k_g36 k_g37 k_g98 k_g99 k_g100 k_g101 k_g102 k_g103
  · replace hp := hp.2 c1
    refine x_iconst (pc := 436) (v := (0 : Int32)) dL_law_436 (by decide) ?_
    exact hp.elim

def f_law_hop (xs : (Nat → Int32)) (s : (Nat → Int32)) (x : (Nat → Int32)) (lf : (Nat → Int32)) (r : (Nat → Int32)) (t : (Nat → Int32)) (W : (Nat → Nat → Int32)) (LF : (Nat → Nat → Int32)) (KF : (Nat → Nat → Int32)) (dr : (Nat → Int32)) (dt : (Nat → Int32)) (DW : (Nat → Nat → Int32)) (DL : (Nat → Nat → Int32)) (DK : (Nat → Nat → Int32)) (ER : (Nat → Nat → Int32)) (ET : (Nat → Nat → Int32)) (EW : (Nat → Nat → Nat → Int32)) (EL : (Nat → Nat → Nat → Int32)) (EK : (Nat → Nat → Nat → Int32)) (tw : (Nat → Int32)) (tl : (Nat → Int32)) (tk : (Nat → Int32)) (tu : (Nat → Int32)) (m : (Nat → Int32)) (tn : (Nat → Int32)) (tr_ : (Nat → Int32)) (ts : (Nat → Int32)) (tp : (Nat → Int32)) (tx : (Nat → Int32)) (Ls : Nat) (v3 : Int32) : Unit := (if (f_X4_hop s r t W LF KF (xs ((v3 + (1 : Int32)).toNatClampNeg)) (xs ((v3 + (2 : Int32)).toNatClampNeg)) (xs ((v3 + (3 : Int32)).toNatClampNeg))) = (f_X5_hop m tn (xs ((v3 + (1 : Int32)).toNatClampNeg)) (xs ((v3 + (2 : Int32)).toNatClampNeg)) (xs ((v3 + (3 : Int32)).toNatClampNeg))) then () else ())
def p_law_hop (xs : (Nat → Int32)) (s : (Nat → Int32)) (x : (Nat → Int32)) (lf : (Nat → Int32)) (r : (Nat → Int32)) (t : (Nat → Int32)) (W : (Nat → Nat → Int32)) (LF : (Nat → Nat → Int32)) (KF : (Nat → Nat → Int32)) (dr : (Nat → Int32)) (dt : (Nat → Int32)) (DW : (Nat → Nat → Int32)) (DL : (Nat → Nat → Int32)) (DK : (Nat → Nat → Int32)) (ER : (Nat → Nat → Int32)) (ET : (Nat → Nat → Int32)) (EW : (Nat → Nat → Nat → Int32)) (EL : (Nat → Nat → Nat → Int32)) (EK : (Nat → Nat → Nat → Int32)) (tw : (Nat → Int32)) (tl : (Nat → Int32)) (tk : (Nat → Int32)) (tu : (Nat → Int32)) (m : (Nat → Int32)) (tn : (Nat → Int32)) (tr_ : (Nat → Int32)) (ts : (Nat → Int32)) (tp : (Nat → Int32)) (tx : (Nat → Int32)) (Ls : Nat) (v3 : Int32) : Prop := (vp_in (v3 + (1 : Int32)) Ls ∧ (vp_in (v3 + (2 : Int32)) Ls ∧ (vp_in (v3 + (3 : Int32)) Ls ∧ (p_X4_hop s r t W LF KF (xs ((v3 + (1 : Int32)).toNatClampNeg)) (xs ((v3 + (2 : Int32)).toNatClampNeg)) (xs ((v3 + (3 : Int32)).toNatClampNeg)) ∧ (vp_in (v3 + (1 : Int32)) Ls ∧ (vp_in (v3 + (2 : Int32)) Ls ∧ (vp_in (v3 + (3 : Int32)) Ls ∧ (p_X5_hop m tn (xs ((v3 + (1 : Int32)).toNatClampNeg)) (xs ((v3 + (2 : Int32)).toNatClampNeg)) (xs ((v3 + (3 : Int32)).toNatClampNeg)) ∧ (((f_X4_hop s r t W LF KF (xs ((v3 + (1 : Int32)).toNatClampNeg)) (xs ((v3 + (2 : Int32)).toNatClampNeg)) (xs ((v3 + (3 : Int32)).toNatClampNeg))) = (f_X5_hop m tn (xs ((v3 + (1 : Int32)).toNatClampNeg)) (xs ((v3 + (2 : Int32)).toNatClampNeg)) (xs ((v3 + (3 : Int32)).toNatClampNeg))) → True) ∧ (¬ ((f_X4_hop s r t W LF KF (xs ((v3 + (1 : Int32)).toNatClampNeg)) (xs ((v3 + (2 : Int32)).toNatClampNeg)) (xs ((v3 + (3 : Int32)).toNatClampNeg))) = (f_X5_hop m tn (xs ((v3 + (1 : Int32)).toNatClampNeg)) (xs ((v3 + (2 : Int32)).toNatClampNeg)) (xs ((v3 + (3 : Int32)).toNatClampNeg)))) → False))))))))))
set_option maxRecDepth 100000 in
set_option maxHeartbeats 4000000 in
theorem K_law_hop (G : xG) (h : xH) (nm : String) (g : Nat) (xs : (Nat → Int32)) (s : (Nat → Int32)) (x : (Nat → Int32)) (lf : (Nat → Int32)) (r : (Nat → Int32)) (t : (Nat → Int32)) (W : (Nat → Nat → Int32)) (LF : (Nat → Nat → Int32)) (KF : (Nat → Nat → Int32)) (dr : (Nat → Int32)) (dt : (Nat → Int32)) (DW : (Nat → Nat → Int32)) (DL : (Nat → Nat → Int32)) (DK : (Nat → Nat → Int32)) (ER : (Nat → Nat → Int32)) (ET : (Nat → Nat → Int32)) (EW : (Nat → Nat → Nat → Int32)) (EL : (Nat → Nat → Nat → Int32)) (EK : (Nat → Nat → Nat → Int32)) (tw : (Nat → Int32)) (tl : (Nat → Int32)) (tk : (Nat → Int32)) (tu : (Nat → Int32)) (m : (Nat → Int32)) (tn : (Nat → Int32)) (tr_ : (Nat → Int32)) (ts : (Nat → Int32)) (tp : (Nat → Int32)) (tx : (Nat → Int32)) (Ls : Nat) (v3 : Int32) (k_g : hAt h g = some (gpC (g + 1) (g + 3) (g + 18) (g + 33) (g + 34) (g + 37) s)) (k_g1 : hAt h (g + 1) = some (txC (g + 2) x)) (k_g2 : hAt h (g + 2) = some (arC 240 lf)) (k_g3 : nk h (g + 3) r t W LF KF) (k_g18 : nk h (g + 18) dr dt DW DL DK) (k_g33 : hAt h (g + 33) = some (arR 2 4 (fun j => some ((g + 38) + 15 * j)))) (k_g38 : ek h (g + 38) ER ET EW EL EK) (k_g34 : hAt h (g + 34) = some (waC (g + 35) (g + 36) tw)) (k_g35 : hAt h (g + 35) = some (arI 6 tl)) (k_g36 : hAt h (g + 36) = some (arI 6 tk)) (k_g37 : hAt h (g + 37) = some (ruC tu)) (k_g98 : hAt h (g + 98) = some (moC (g + 99) (g + 100) (g + 101) (g + 102) (g + 103) m)) (k_g99 : hAt h (g + 99) = some (arI 103 tn)) (k_g100 : hAt h (g + 100) = some (arI 103 tr_)) (k_g101 : hAt h (g + 101) = some (arI 103 ts)) (k_g102 : hAt h (g + 102) = some (arI 412 tp)) (k_g103 : hAt h (g + 103) = some (arI 240 tx)) (ex : xg_x G = xs) (eL : xg_L G = Ls) (hp : p_law_hop xs s x lf r t W LF KF dr dt DW DL DK ER ET EW EL EK tw tl tk tu m tn tr_ ts tp tx Ls v3) (kk : ∀ h2 : xH, hAt h2 g = some (gpC (g + 1) (g + 3) (g + 18) (g + 33) (g + 34) (g + 37) s) → hAt h2 (g + 1) = some (txC (g + 2) x) → hAt h2 (g + 2) = some (arC 240 lf) → nk h2 (g + 3) r t W LF KF → nk h2 (g + 18) dr dt DW DL DK → hAt h2 (g + 33) = some (arR 2 4 (fun j => some ((g + 38) + 15 * j))) → ek h2 (g + 38) ER ET EW EL EK → hAt h2 (g + 34) = some (waC (g + 35) (g + 36) tw) → hAt h2 (g + 35) = some (arI 6 tl) → hAt h2 (g + 36) = some (arI 6 tk) → hAt h2 (g + 37) = some (ruC tu) → hAt h2 (g + 98) = some (moC (g + 99) (g + 100) (g + 101) (g + 102) (g + 103) m) → hAt h2 (g + 99) = some (arI 103 tn) → hAt h2 (g + 100) = some (arI 103 tr_) → hAt h2 (g + 101) = some (arI 103 ts) → hAt h2 (g + 102) = some (arI 412 tp) → hAt h2 (g + 103) = some (arI 240 tx) → Wp G RL code 4 nm ret room_1 (lwZ G) 104 1984 735 [(3, .int v3), (2, .ref (g + 98)), (1, .ref g), (0, .ref (xg_b G))] [] h2) : Wp G RL code 4 nm ret room_1 (lwZ G) 104 1984 438 [(3, .int v3), (2, .ref (g + 98)), (1, .ref g), (0, .ref (xg_b G))] [] h := by
  unfold p_law_hop at hp
  refine x_aload_n (pc := 438) dL_law_438 rfl ?_
  refine x_aload_n (pc := 439) dL_law_439 rfl ?_
  refine x_iload_n (pc := 440) dL_law_440 rfl ?_
  refine x_iconst (pc := 441) (v := (1 : Int32)) dL_law_441 (by decide) ?_
  refine x_iadd (pc := 442) dL_law_442 ?_
  obtain ⟨q443, hp⟩ := hp
  refine x_sldE (pc := 443) dL_law_443 ex eL q443 (j := ((v3 + (1 : Int32)).toNatClampNeg)) rfl ?_
  refine x_aload_n (pc := 444) dL_law_444 rfl ?_
  refine x_iload_n (pc := 445) dL_law_445 rfl ?_
  refine x_iconst (pc := 446) (v := (2 : Int32)) dL_law_446 (by decide) ?_
  refine x_iadd (pc := 447) dL_law_447 ?_
  obtain ⟨q448, hp⟩ := hp
  refine x_sldE (pc := 448) dL_law_448 ex eL q448 (j := ((v3 + (2 : Int32)).toNatClampNeg)) rfl ?_
  refine x_aload_n (pc := 449) dL_law_449 rfl ?_
  refine x_iload_n (pc := 450) dL_law_450 rfl ?_
  refine x_iconst (pc := 451) (v := (3 : Int32)) dL_law_451 (by decide) ?_
  refine x_iadd (pc := 452) dL_law_452 ?_
  obtain ⟨q453, hp⟩ := hp
  refine x_sldE (pc := 453) dL_law_453 ex eL q453 (j := ((v3 + (3 : Int32)).toNatClampNeg)) rfl ?_
  obtain ⟨q454, hp⟩ := hp
  refine x_cV3i (pc := 454) dL_law_454 xl_L_65 xv_X4_hop k_g rfl (C_X4_hop G _ g s r t W LF KF (xs ((v3 + (1 : Int32)).toNatClampNeg)) (xs ((v3 + (2 : Int32)).toNatClampNeg)) (xs ((v3 + (3 : Int32)).toNatClampNeg)) k_g k_g3 q454) rfl rfl rfl ?_
  obtain ⟨F1, eF1⟩ : ∃ F, f_X4_hop s r t W LF KF (xs ((v3 + (1 : Int32)).toNatClampNeg)) (xs ((v3 + (2 : Int32)).toNatClampNeg)) (xs ((v3 + (3 : Int32)).toNatClampNeg)) = F := ⟨_, rfl⟩
  rw [eF1]
  try rw [eF1] at hp
  refine x_aload_n (pc := 457) dL_law_457 rfl ?_
  refine x_aload_n (pc := 458) dL_law_458 rfl ?_
  refine x_iload_n (pc := 459) dL_law_459 rfl ?_
  refine x_iconst (pc := 460) (v := (1 : Int32)) dL_law_460 (by decide) ?_
  refine x_iadd (pc := 461) dL_law_461 ?_
  obtain ⟨q462, hp⟩ := hp
  refine x_sldE (pc := 462) dL_law_462 ex eL q462 (j := ((v3 + (1 : Int32)).toNatClampNeg)) rfl ?_
  refine x_aload_n (pc := 463) dL_law_463 rfl ?_
  refine x_iload_n (pc := 464) dL_law_464 rfl ?_
  refine x_iconst (pc := 465) (v := (2 : Int32)) dL_law_465 (by decide) ?_
  refine x_iadd (pc := 466) dL_law_466 ?_
  obtain ⟨q467, hp⟩ := hp
  refine x_sldE (pc := 467) dL_law_467 ex eL q467 (j := ((v3 + (2 : Int32)).toNatClampNeg)) rfl ?_
  refine x_aload_n (pc := 468) dL_law_468 rfl ?_
  refine x_iload_n (pc := 469) dL_law_469 rfl ?_
  refine x_iconst (pc := 470) (v := (3 : Int32)) dL_law_470 (by decide) ?_
  refine x_iadd (pc := 471) dL_law_471 ?_
  obtain ⟨q472, hp⟩ := hp
  refine x_sldE (pc := 472) dL_law_472 ex eL q472 (j := ((v3 + (3 : Int32)).toNatClampNeg)) rfl ?_
  obtain ⟨q473, hp⟩ := hp
  refine x_cV3i (pc := 473) dL_law_473 xl_L_68 xv_X5_hop k_g98 rfl (C_X5_hop G _ (g + 98) (g + 99) (g + 100) (g + 101) (g + 102) (g + 103) m tn (xs ((v3 + (1 : Int32)).toNatClampNeg)) (xs ((v3 + (2 : Int32)).toNatClampNeg)) (xs ((v3 + (3 : Int32)).toNatClampNeg)) k_g98 k_g99 q473) rfl rfl rfl ?_
  obtain ⟨F2, eF2⟩ : ∃ F, f_X5_hop m tn (xs ((v3 + (1 : Int32)).toNatClampNeg)) (xs ((v3 + (2 : Int32)).toNatClampNeg)) (xs ((v3 + (3 : Int32)).toNatClampNeg)) = F := ⟨_, rfl⟩
  rw [eF2]
  try rw [eF2] at hp
  refine x_icmp_eq (pc := 476) (tgt := 735) dL_law_476 (by decide) (fun (c1 : F1 = F2) => ?_) (fun (c1 : ¬ (F1 = F2)) => ?_)
  · replace hp := hp.1 c1
    exact kk h k_g k_g1 k_g2 k_g3 k_g18 k_g33 k_g38 k_g34 k_g35 k_g36 k_g37 k_g98 k_g99 k_g100 k_g101 k_g102 k_g103
  · replace hp := hp.2 c1
    refine x_iconst (pc := 479) (v := (0 : Int32)) dL_law_479 (by decide) ?_
    exact hp.elim

def f_law_probe (xs : (Nat → Int32)) (s : (Nat → Int32)) (x : (Nat → Int32)) (lf : (Nat → Int32)) (r : (Nat → Int32)) (t : (Nat → Int32)) (W : (Nat → Nat → Int32)) (LF : (Nat → Nat → Int32)) (KF : (Nat → Nat → Int32)) (dr : (Nat → Int32)) (dt : (Nat → Int32)) (DW : (Nat → Nat → Int32)) (DL : (Nat → Nat → Int32)) (DK : (Nat → Nat → Int32)) (ER : (Nat → Nat → Int32)) (ET : (Nat → Nat → Int32)) (EW : (Nat → Nat → Nat → Int32)) (EL : (Nat → Nat → Nat → Int32)) (EK : (Nat → Nat → Nat → Int32)) (tw : (Nat → Int32)) (tl : (Nat → Int32)) (tk : (Nat → Int32)) (tu : (Nat → Int32)) (m : (Nat → Int32)) (tn : (Nat → Int32)) (tr_ : (Nat → Int32)) (ts : (Nat → Int32)) (tp : (Nat → Int32)) (tx : (Nat → Int32)) (Ls : Nat) (v3 : Int32) : Unit := (if (f_X4_probe s r t W LF KF (xs ((v3 + (1 : Int32)).toNatClampNeg))) = (f_X5_probe m tn (xs ((v3 + (1 : Int32)).toNatClampNeg))) then () else ())
def p_law_probe (xs : (Nat → Int32)) (s : (Nat → Int32)) (x : (Nat → Int32)) (lf : (Nat → Int32)) (r : (Nat → Int32)) (t : (Nat → Int32)) (W : (Nat → Nat → Int32)) (LF : (Nat → Nat → Int32)) (KF : (Nat → Nat → Int32)) (dr : (Nat → Int32)) (dt : (Nat → Int32)) (DW : (Nat → Nat → Int32)) (DL : (Nat → Nat → Int32)) (DK : (Nat → Nat → Int32)) (ER : (Nat → Nat → Int32)) (ET : (Nat → Nat → Int32)) (EW : (Nat → Nat → Nat → Int32)) (EL : (Nat → Nat → Nat → Int32)) (EK : (Nat → Nat → Nat → Int32)) (tw : (Nat → Int32)) (tl : (Nat → Int32)) (tk : (Nat → Int32)) (tu : (Nat → Int32)) (m : (Nat → Int32)) (tn : (Nat → Int32)) (tr_ : (Nat → Int32)) (ts : (Nat → Int32)) (tp : (Nat → Int32)) (tx : (Nat → Int32)) (Ls : Nat) (v3 : Int32) : Prop := (vp_in (v3 + (1 : Int32)) Ls ∧ (p_X4_probe s r t W LF KF (xs ((v3 + (1 : Int32)).toNatClampNeg)) ∧ (vp_in (v3 + (1 : Int32)) Ls ∧ (p_X5_probe m tn (xs ((v3 + (1 : Int32)).toNatClampNeg)) ∧ (((f_X4_probe s r t W LF KF (xs ((v3 + (1 : Int32)).toNatClampNeg))) = (f_X5_probe m tn (xs ((v3 + (1 : Int32)).toNatClampNeg))) → True) ∧ (¬ ((f_X4_probe s r t W LF KF (xs ((v3 + (1 : Int32)).toNatClampNeg))) = (f_X5_probe m tn (xs ((v3 + (1 : Int32)).toNatClampNeg)))) → False))))))
set_option maxRecDepth 100000 in
set_option maxHeartbeats 4000000 in
theorem K_law_probe (G : xG) (h : xH) (nm : String) (g : Nat) (xs : (Nat → Int32)) (s : (Nat → Int32)) (x : (Nat → Int32)) (lf : (Nat → Int32)) (r : (Nat → Int32)) (t : (Nat → Int32)) (W : (Nat → Nat → Int32)) (LF : (Nat → Nat → Int32)) (KF : (Nat → Nat → Int32)) (dr : (Nat → Int32)) (dt : (Nat → Int32)) (DW : (Nat → Nat → Int32)) (DL : (Nat → Nat → Int32)) (DK : (Nat → Nat → Int32)) (ER : (Nat → Nat → Int32)) (ET : (Nat → Nat → Int32)) (EW : (Nat → Nat → Nat → Int32)) (EL : (Nat → Nat → Nat → Int32)) (EK : (Nat → Nat → Nat → Int32)) (tw : (Nat → Int32)) (tl : (Nat → Int32)) (tk : (Nat → Int32)) (tu : (Nat → Int32)) (m : (Nat → Int32)) (tn : (Nat → Int32)) (tr_ : (Nat → Int32)) (ts : (Nat → Int32)) (tp : (Nat → Int32)) (tx : (Nat → Int32)) (Ls : Nat) (v3 : Int32) (k_g : hAt h g = some (gpC (g + 1) (g + 3) (g + 18) (g + 33) (g + 34) (g + 37) s)) (k_g1 : hAt h (g + 1) = some (txC (g + 2) x)) (k_g2 : hAt h (g + 2) = some (arC 240 lf)) (k_g3 : nk h (g + 3) r t W LF KF) (k_g18 : nk h (g + 18) dr dt DW DL DK) (k_g33 : hAt h (g + 33) = some (arR 2 4 (fun j => some ((g + 38) + 15 * j)))) (k_g38 : ek h (g + 38) ER ET EW EL EK) (k_g34 : hAt h (g + 34) = some (waC (g + 35) (g + 36) tw)) (k_g35 : hAt h (g + 35) = some (arI 6 tl)) (k_g36 : hAt h (g + 36) = some (arI 6 tk)) (k_g37 : hAt h (g + 37) = some (ruC tu)) (k_g98 : hAt h (g + 98) = some (moC (g + 99) (g + 100) (g + 101) (g + 102) (g + 103) m)) (k_g99 : hAt h (g + 99) = some (arI 103 tn)) (k_g100 : hAt h (g + 100) = some (arI 103 tr_)) (k_g101 : hAt h (g + 101) = some (arI 103 ts)) (k_g102 : hAt h (g + 102) = some (arI 412 tp)) (k_g103 : hAt h (g + 103) = some (arI 240 tx)) (ex : xg_x G = xs) (eL : xg_L G = Ls) (hp : p_law_probe xs s x lf r t W LF KF dr dt DW DL DK ER ET EW EL EK tw tl tk tu m tn tr_ ts tp tx Ls v3) (kk : ∀ h2 : xH, hAt h2 g = some (gpC (g + 1) (g + 3) (g + 18) (g + 33) (g + 34) (g + 37) s) → hAt h2 (g + 1) = some (txC (g + 2) x) → hAt h2 (g + 2) = some (arC 240 lf) → nk h2 (g + 3) r t W LF KF → nk h2 (g + 18) dr dt DW DL DK → hAt h2 (g + 33) = some (arR 2 4 (fun j => some ((g + 38) + 15 * j))) → ek h2 (g + 38) ER ET EW EL EK → hAt h2 (g + 34) = some (waC (g + 35) (g + 36) tw) → hAt h2 (g + 35) = some (arI 6 tl) → hAt h2 (g + 36) = some (arI 6 tk) → hAt h2 (g + 37) = some (ruC tu) → hAt h2 (g + 98) = some (moC (g + 99) (g + 100) (g + 101) (g + 102) (g + 103) m) → hAt h2 (g + 99) = some (arI 103 tn) → hAt h2 (g + 100) = some (arI 103 tr_) → hAt h2 (g + 101) = some (arI 103 ts) → hAt h2 (g + 102) = some (arI 412 tp) → hAt h2 (g + 103) = some (arI 240 tx) → Wp G RL code 4 nm ret room_1 (lwZ G) 104 1984 735 [(3, .int v3), (2, .ref (g + 98)), (1, .ref g), (0, .ref (xg_b G))] [] h2) : Wp G RL code 4 nm ret room_1 (lwZ G) 104 1984 481 [(3, .int v3), (2, .ref (g + 98)), (1, .ref g), (0, .ref (xg_b G))] [] h := by
  unfold p_law_probe at hp
  refine x_aload_n (pc := 481) dL_law_481 rfl ?_
  refine x_aload_n (pc := 482) dL_law_482 rfl ?_
  refine x_iload_n (pc := 483) dL_law_483 rfl ?_
  refine x_iconst (pc := 484) (v := (1 : Int32)) dL_law_484 (by decide) ?_
  refine x_iadd (pc := 485) dL_law_485 ?_
  obtain ⟨q486, hp⟩ := hp
  refine x_sldE (pc := 486) dL_law_486 ex eL q486 (j := ((v3 + (1 : Int32)).toNatClampNeg)) rfl ?_
  obtain ⟨q487, hp⟩ := hp
  refine x_cV1i (pc := 487) dL_law_487 xl_L_69 xv_X4_probe k_g rfl (C_X4_probe G _ g s r t W LF KF (xs ((v3 + (1 : Int32)).toNatClampNeg)) k_g k_g3 q487) rfl rfl rfl ?_
  obtain ⟨F1, eF1⟩ : ∃ F, f_X4_probe s r t W LF KF (xs ((v3 + (1 : Int32)).toNatClampNeg)) = F := ⟨_, rfl⟩
  rw [eF1]
  try rw [eF1] at hp
  refine x_aload_n (pc := 490) dL_law_490 rfl ?_
  refine x_aload_n (pc := 491) dL_law_491 rfl ?_
  refine x_iload_n (pc := 492) dL_law_492 rfl ?_
  refine x_iconst (pc := 493) (v := (1 : Int32)) dL_law_493 (by decide) ?_
  refine x_iadd (pc := 494) dL_law_494 ?_
  obtain ⟨q495, hp⟩ := hp
  refine x_sldE (pc := 495) dL_law_495 ex eL q495 (j := ((v3 + (1 : Int32)).toNatClampNeg)) rfl ?_
  obtain ⟨q496, hp⟩ := hp
  refine x_cV1i (pc := 496) dL_law_496 xl_L_72 xv_X5_probe k_g98 rfl (C_X5_probe G _ (g + 98) (g + 99) (g + 100) (g + 101) (g + 102) (g + 103) m tn (xs ((v3 + (1 : Int32)).toNatClampNeg)) k_g98 k_g99 q496) rfl rfl rfl ?_
  obtain ⟨F2, eF2⟩ : ∃ F, f_X5_probe m tn (xs ((v3 + (1 : Int32)).toNatClampNeg)) = F := ⟨_, rfl⟩
  rw [eF2]
  try rw [eF2] at hp
  refine x_icmp_eq (pc := 499) (tgt := 735) dL_law_499 (by decide) (fun (c1 : F1 = F2) => ?_) (fun (c1 : ¬ (F1 = F2)) => ?_)
  · replace hp := hp.1 c1
    exact kk h k_g k_g1 k_g2 k_g3 k_g18 k_g33 k_g38 k_g34 k_g35 k_g36 k_g37 k_g98 k_g99 k_g100 k_g101 k_g102 k_g103
  · replace hp := hp.2 c1
    refine x_iconst (pc := 502) (v := (0 : Int32)) dL_law_502 (by decide) ?_
    exact hp.elim

def f_law_padding (xs : (Nat → Int32)) (s : (Nat → Int32)) (x : (Nat → Int32)) (lf : (Nat → Int32)) (r : (Nat → Int32)) (t : (Nat → Int32)) (W : (Nat → Nat → Int32)) (LF : (Nat → Nat → Int32)) (KF : (Nat → Nat → Int32)) (dr : (Nat → Int32)) (dt : (Nat → Int32)) (DW : (Nat → Nat → Int32)) (DL : (Nat → Nat → Int32)) (DK : (Nat → Nat → Int32)) (ER : (Nat → Nat → Int32)) (ET : (Nat → Nat → Int32)) (EW : (Nat → Nat → Nat → Int32)) (EL : (Nat → Nat → Nat → Int32)) (EK : (Nat → Nat → Nat → Int32)) (tw : (Nat → Int32)) (tl : (Nat → Int32)) (tk : (Nat → Int32)) (tu : (Nat → Int32)) (m : (Nat → Int32)) (tn : (Nat → Int32)) (tr_ : (Nat → Int32)) (ts : (Nat → Int32)) (tp : (Nat → Int32)) (tx : (Nat → Int32)) (Ls : Nat) (v3 : Int32) : Unit := (if (f_X4_padding s r t W LF KF (xs ((v3 + (1 : Int32)).toNatClampNeg)) (xs ((v3 + (2 : Int32)).toNatClampNeg))) = (f_X5_padding m tn (xs ((v3 + (1 : Int32)).toNatClampNeg)) (xs ((v3 + (2 : Int32)).toNatClampNeg))) then () else ())
def p_law_padding (xs : (Nat → Int32)) (s : (Nat → Int32)) (x : (Nat → Int32)) (lf : (Nat → Int32)) (r : (Nat → Int32)) (t : (Nat → Int32)) (W : (Nat → Nat → Int32)) (LF : (Nat → Nat → Int32)) (KF : (Nat → Nat → Int32)) (dr : (Nat → Int32)) (dt : (Nat → Int32)) (DW : (Nat → Nat → Int32)) (DL : (Nat → Nat → Int32)) (DK : (Nat → Nat → Int32)) (ER : (Nat → Nat → Int32)) (ET : (Nat → Nat → Int32)) (EW : (Nat → Nat → Nat → Int32)) (EL : (Nat → Nat → Nat → Int32)) (EK : (Nat → Nat → Nat → Int32)) (tw : (Nat → Int32)) (tl : (Nat → Int32)) (tk : (Nat → Int32)) (tu : (Nat → Int32)) (m : (Nat → Int32)) (tn : (Nat → Int32)) (tr_ : (Nat → Int32)) (ts : (Nat → Int32)) (tp : (Nat → Int32)) (tx : (Nat → Int32)) (Ls : Nat) (v3 : Int32) : Prop := (vp_in (v3 + (1 : Int32)) Ls ∧ (vp_in (v3 + (2 : Int32)) Ls ∧ (p_X4_padding s r t W LF KF (xs ((v3 + (1 : Int32)).toNatClampNeg)) (xs ((v3 + (2 : Int32)).toNatClampNeg)) ∧ (vp_in (v3 + (1 : Int32)) Ls ∧ (vp_in (v3 + (2 : Int32)) Ls ∧ (p_X5_padding m tn (xs ((v3 + (1 : Int32)).toNatClampNeg)) (xs ((v3 + (2 : Int32)).toNatClampNeg)) ∧ (((f_X4_padding s r t W LF KF (xs ((v3 + (1 : Int32)).toNatClampNeg)) (xs ((v3 + (2 : Int32)).toNatClampNeg))) = (f_X5_padding m tn (xs ((v3 + (1 : Int32)).toNatClampNeg)) (xs ((v3 + (2 : Int32)).toNatClampNeg))) → True) ∧ (¬ ((f_X4_padding s r t W LF KF (xs ((v3 + (1 : Int32)).toNatClampNeg)) (xs ((v3 + (2 : Int32)).toNatClampNeg))) = (f_X5_padding m tn (xs ((v3 + (1 : Int32)).toNatClampNeg)) (xs ((v3 + (2 : Int32)).toNatClampNeg)))) → False))))))))
set_option maxRecDepth 100000 in
set_option maxHeartbeats 4000000 in
theorem K_law_padding (G : xG) (h : xH) (nm : String) (g : Nat) (xs : (Nat → Int32)) (s : (Nat → Int32)) (x : (Nat → Int32)) (lf : (Nat → Int32)) (r : (Nat → Int32)) (t : (Nat → Int32)) (W : (Nat → Nat → Int32)) (LF : (Nat → Nat → Int32)) (KF : (Nat → Nat → Int32)) (dr : (Nat → Int32)) (dt : (Nat → Int32)) (DW : (Nat → Nat → Int32)) (DL : (Nat → Nat → Int32)) (DK : (Nat → Nat → Int32)) (ER : (Nat → Nat → Int32)) (ET : (Nat → Nat → Int32)) (EW : (Nat → Nat → Nat → Int32)) (EL : (Nat → Nat → Nat → Int32)) (EK : (Nat → Nat → Nat → Int32)) (tw : (Nat → Int32)) (tl : (Nat → Int32)) (tk : (Nat → Int32)) (tu : (Nat → Int32)) (m : (Nat → Int32)) (tn : (Nat → Int32)) (tr_ : (Nat → Int32)) (ts : (Nat → Int32)) (tp : (Nat → Int32)) (tx : (Nat → Int32)) (Ls : Nat) (v3 : Int32) (k_g : hAt h g = some (gpC (g + 1) (g + 3) (g + 18) (g + 33) (g + 34) (g + 37) s)) (k_g1 : hAt h (g + 1) = some (txC (g + 2) x)) (k_g2 : hAt h (g + 2) = some (arC 240 lf)) (k_g3 : nk h (g + 3) r t W LF KF) (k_g18 : nk h (g + 18) dr dt DW DL DK) (k_g33 : hAt h (g + 33) = some (arR 2 4 (fun j => some ((g + 38) + 15 * j)))) (k_g38 : ek h (g + 38) ER ET EW EL EK) (k_g34 : hAt h (g + 34) = some (waC (g + 35) (g + 36) tw)) (k_g35 : hAt h (g + 35) = some (arI 6 tl)) (k_g36 : hAt h (g + 36) = some (arI 6 tk)) (k_g37 : hAt h (g + 37) = some (ruC tu)) (k_g98 : hAt h (g + 98) = some (moC (g + 99) (g + 100) (g + 101) (g + 102) (g + 103) m)) (k_g99 : hAt h (g + 99) = some (arI 103 tn)) (k_g100 : hAt h (g + 100) = some (arI 103 tr_)) (k_g101 : hAt h (g + 101) = some (arI 103 ts)) (k_g102 : hAt h (g + 102) = some (arI 412 tp)) (k_g103 : hAt h (g + 103) = some (arI 240 tx)) (ex : xg_x G = xs) (eL : xg_L G = Ls) (hp : p_law_padding xs s x lf r t W LF KF dr dt DW DL DK ER ET EW EL EK tw tl tk tu m tn tr_ ts tp tx Ls v3) (kk : ∀ h2 : xH, hAt h2 g = some (gpC (g + 1) (g + 3) (g + 18) (g + 33) (g + 34) (g + 37) s) → hAt h2 (g + 1) = some (txC (g + 2) x) → hAt h2 (g + 2) = some (arC 240 lf) → nk h2 (g + 3) r t W LF KF → nk h2 (g + 18) dr dt DW DL DK → hAt h2 (g + 33) = some (arR 2 4 (fun j => some ((g + 38) + 15 * j))) → ek h2 (g + 38) ER ET EW EL EK → hAt h2 (g + 34) = some (waC (g + 35) (g + 36) tw) → hAt h2 (g + 35) = some (arI 6 tl) → hAt h2 (g + 36) = some (arI 6 tk) → hAt h2 (g + 37) = some (ruC tu) → hAt h2 (g + 98) = some (moC (g + 99) (g + 100) (g + 101) (g + 102) (g + 103) m) → hAt h2 (g + 99) = some (arI 103 tn) → hAt h2 (g + 100) = some (arI 103 tr_) → hAt h2 (g + 101) = some (arI 103 ts) → hAt h2 (g + 102) = some (arI 412 tp) → hAt h2 (g + 103) = some (arI 240 tx) → Wp G RL code 4 nm ret room_1 (lwZ G) 104 1984 735 [(3, .int v3), (2, .ref (g + 98)), (1, .ref g), (0, .ref (xg_b G))] [] h2) : Wp G RL code 4 nm ret room_1 (lwZ G) 104 1984 504 [(3, .int v3), (2, .ref (g + 98)), (1, .ref g), (0, .ref (xg_b G))] [] h := by
  unfold p_law_padding at hp
  refine x_aload_n (pc := 504) dL_law_504 rfl ?_
  refine x_aload_n (pc := 505) dL_law_505 rfl ?_
  refine x_iload_n (pc := 506) dL_law_506 rfl ?_
  refine x_iconst (pc := 507) (v := (1 : Int32)) dL_law_507 (by decide) ?_
  refine x_iadd (pc := 508) dL_law_508 ?_
  obtain ⟨q509, hp⟩ := hp
  refine x_sldE (pc := 509) dL_law_509 ex eL q509 (j := ((v3 + (1 : Int32)).toNatClampNeg)) rfl ?_
  refine x_aload_n (pc := 510) dL_law_510 rfl ?_
  refine x_iload_n (pc := 511) dL_law_511 rfl ?_
  refine x_iconst (pc := 512) (v := (2 : Int32)) dL_law_512 (by decide) ?_
  refine x_iadd (pc := 513) dL_law_513 ?_
  obtain ⟨q514, hp⟩ := hp
  refine x_sldE (pc := 514) dL_law_514 ex eL q514 (j := ((v3 + (2 : Int32)).toNatClampNeg)) rfl ?_
  obtain ⟨q515, hp⟩ := hp
  refine x_cV2i (pc := 515) dL_law_515 xl_L_73 xv_X4_padding k_g rfl (C_X4_padding G _ g s r t W LF KF (xs ((v3 + (1 : Int32)).toNatClampNeg)) (xs ((v3 + (2 : Int32)).toNatClampNeg)) k_g k_g3 q515) rfl rfl rfl ?_
  obtain ⟨F1, eF1⟩ : ∃ F, f_X4_padding s r t W LF KF (xs ((v3 + (1 : Int32)).toNatClampNeg)) (xs ((v3 + (2 : Int32)).toNatClampNeg)) = F := ⟨_, rfl⟩
  rw [eF1]
  try rw [eF1] at hp
  refine x_aload_n (pc := 518) dL_law_518 rfl ?_
  refine x_aload_n (pc := 519) dL_law_519 rfl ?_
  refine x_iload_n (pc := 520) dL_law_520 rfl ?_
  refine x_iconst (pc := 521) (v := (1 : Int32)) dL_law_521 (by decide) ?_
  refine x_iadd (pc := 522) dL_law_522 ?_
  obtain ⟨q523, hp⟩ := hp
  refine x_sldE (pc := 523) dL_law_523 ex eL q523 (j := ((v3 + (1 : Int32)).toNatClampNeg)) rfl ?_
  refine x_aload_n (pc := 524) dL_law_524 rfl ?_
  refine x_iload_n (pc := 525) dL_law_525 rfl ?_
  refine x_iconst (pc := 526) (v := (2 : Int32)) dL_law_526 (by decide) ?_
  refine x_iadd (pc := 527) dL_law_527 ?_
  obtain ⟨q528, hp⟩ := hp
  refine x_sldE (pc := 528) dL_law_528 ex eL q528 (j := ((v3 + (2 : Int32)).toNatClampNeg)) rfl ?_
  obtain ⟨q529, hp⟩ := hp
  refine x_cV2i (pc := 529) dL_law_529 xl_L_76 xv_X5_padding k_g98 rfl (C_X5_padding G _ (g + 98) (g + 99) (g + 100) (g + 101) (g + 102) (g + 103) m tn (xs ((v3 + (1 : Int32)).toNatClampNeg)) (xs ((v3 + (2 : Int32)).toNatClampNeg)) k_g98 k_g99 q529) rfl rfl rfl ?_
  obtain ⟨F2, eF2⟩ : ∃ F, f_X5_padding m tn (xs ((v3 + (1 : Int32)).toNatClampNeg)) (xs ((v3 + (2 : Int32)).toNatClampNeg)) = F := ⟨_, rfl⟩
  rw [eF2]
  try rw [eF2] at hp
  refine x_icmp_eq (pc := 532) (tgt := 735) dL_law_532 (by decide) (fun (c1 : F1 = F2) => ?_) (fun (c1 : ¬ (F1 = F2)) => ?_)
  · replace hp := hp.1 c1
    exact kk h k_g k_g1 k_g2 k_g3 k_g18 k_g33 k_g38 k_g34 k_g35 k_g36 k_g37 k_g98 k_g99 k_g100 k_g101 k_g102 k_g103
  · replace hp := hp.2 c1
    refine x_iconst (pc := 535) (v := (0 : Int32)) dL_law_535 (by decide) ?_
    exact hp.elim

def f_law_meets (xs : (Nat → Int32)) (s : (Nat → Int32)) (x : (Nat → Int32)) (lf : (Nat → Int32)) (r : (Nat → Int32)) (t : (Nat → Int32)) (W : (Nat → Nat → Int32)) (LF : (Nat → Nat → Int32)) (KF : (Nat → Nat → Int32)) (dr : (Nat → Int32)) (dt : (Nat → Int32)) (DW : (Nat → Nat → Int32)) (DL : (Nat → Nat → Int32)) (DK : (Nat → Nat → Int32)) (ER : (Nat → Nat → Int32)) (ET : (Nat → Nat → Int32)) (EW : (Nat → Nat → Nat → Int32)) (EL : (Nat → Nat → Nat → Int32)) (EK : (Nat → Nat → Nat → Int32)) (tw : (Nat → Int32)) (tl : (Nat → Int32)) (tk : (Nat → Int32)) (tu : (Nat → Int32)) (m : (Nat → Int32)) (tn : (Nat → Int32)) (tr_ : (Nat → Int32)) (ts : (Nat → Int32)) (tp : (Nat → Int32)) (tx : (Nat → Int32)) (Ls : Nat) (v3 : Int32) : Unit := (if (f_X4_meets s r t W LF KF (xs ((v3 + (1 : Int32)).toNatClampNeg)) (xs ((v3 + (2 : Int32)).toNatClampNeg)) (xs ((v3 + (3 : Int32)).toNatClampNeg))) = (f_X5_meets m tn (xs ((v3 + (1 : Int32)).toNatClampNeg)) (xs ((v3 + (2 : Int32)).toNatClampNeg)) (xs ((v3 + (3 : Int32)).toNatClampNeg))) then () else ())
def p_law_meets (xs : (Nat → Int32)) (s : (Nat → Int32)) (x : (Nat → Int32)) (lf : (Nat → Int32)) (r : (Nat → Int32)) (t : (Nat → Int32)) (W : (Nat → Nat → Int32)) (LF : (Nat → Nat → Int32)) (KF : (Nat → Nat → Int32)) (dr : (Nat → Int32)) (dt : (Nat → Int32)) (DW : (Nat → Nat → Int32)) (DL : (Nat → Nat → Int32)) (DK : (Nat → Nat → Int32)) (ER : (Nat → Nat → Int32)) (ET : (Nat → Nat → Int32)) (EW : (Nat → Nat → Nat → Int32)) (EL : (Nat → Nat → Nat → Int32)) (EK : (Nat → Nat → Nat → Int32)) (tw : (Nat → Int32)) (tl : (Nat → Int32)) (tk : (Nat → Int32)) (tu : (Nat → Int32)) (m : (Nat → Int32)) (tn : (Nat → Int32)) (tr_ : (Nat → Int32)) (ts : (Nat → Int32)) (tp : (Nat → Int32)) (tx : (Nat → Int32)) (Ls : Nat) (v3 : Int32) : Prop := (vp_in (v3 + (1 : Int32)) Ls ∧ (vp_in (v3 + (2 : Int32)) Ls ∧ (vp_in (v3 + (3 : Int32)) Ls ∧ (p_X4_meets s r t W LF KF (xs ((v3 + (1 : Int32)).toNatClampNeg)) (xs ((v3 + (2 : Int32)).toNatClampNeg)) (xs ((v3 + (3 : Int32)).toNatClampNeg)) ∧ (vp_in (v3 + (1 : Int32)) Ls ∧ (vp_in (v3 + (2 : Int32)) Ls ∧ (vp_in (v3 + (3 : Int32)) Ls ∧ (p_X5_meets m tn (xs ((v3 + (1 : Int32)).toNatClampNeg)) (xs ((v3 + (2 : Int32)).toNatClampNeg)) (xs ((v3 + (3 : Int32)).toNatClampNeg)) ∧ (((f_X4_meets s r t W LF KF (xs ((v3 + (1 : Int32)).toNatClampNeg)) (xs ((v3 + (2 : Int32)).toNatClampNeg)) (xs ((v3 + (3 : Int32)).toNatClampNeg))) = (f_X5_meets m tn (xs ((v3 + (1 : Int32)).toNatClampNeg)) (xs ((v3 + (2 : Int32)).toNatClampNeg)) (xs ((v3 + (3 : Int32)).toNatClampNeg))) → True) ∧ (¬ ((f_X4_meets s r t W LF KF (xs ((v3 + (1 : Int32)).toNatClampNeg)) (xs ((v3 + (2 : Int32)).toNatClampNeg)) (xs ((v3 + (3 : Int32)).toNatClampNeg))) = (f_X5_meets m tn (xs ((v3 + (1 : Int32)).toNatClampNeg)) (xs ((v3 + (2 : Int32)).toNatClampNeg)) (xs ((v3 + (3 : Int32)).toNatClampNeg)))) → False))))))))))
set_option maxRecDepth 100000 in
set_option maxHeartbeats 4000000 in
theorem K_law_meets (G : xG) (h : xH) (nm : String) (g : Nat) (xs : (Nat → Int32)) (s : (Nat → Int32)) (x : (Nat → Int32)) (lf : (Nat → Int32)) (r : (Nat → Int32)) (t : (Nat → Int32)) (W : (Nat → Nat → Int32)) (LF : (Nat → Nat → Int32)) (KF : (Nat → Nat → Int32)) (dr : (Nat → Int32)) (dt : (Nat → Int32)) (DW : (Nat → Nat → Int32)) (DL : (Nat → Nat → Int32)) (DK : (Nat → Nat → Int32)) (ER : (Nat → Nat → Int32)) (ET : (Nat → Nat → Int32)) (EW : (Nat → Nat → Nat → Int32)) (EL : (Nat → Nat → Nat → Int32)) (EK : (Nat → Nat → Nat → Int32)) (tw : (Nat → Int32)) (tl : (Nat → Int32)) (tk : (Nat → Int32)) (tu : (Nat → Int32)) (m : (Nat → Int32)) (tn : (Nat → Int32)) (tr_ : (Nat → Int32)) (ts : (Nat → Int32)) (tp : (Nat → Int32)) (tx : (Nat → Int32)) (Ls : Nat) (v3 : Int32) (k_g : hAt h g = some (gpC (g + 1) (g + 3) (g + 18) (g + 33) (g + 34) (g + 37) s)) (k_g1 : hAt h (g + 1) = some (txC (g + 2) x)) (k_g2 : hAt h (g + 2) = some (arC 240 lf)) (k_g3 : nk h (g + 3) r t W LF KF) (k_g18 : nk h (g + 18) dr dt DW DL DK) (k_g33 : hAt h (g + 33) = some (arR 2 4 (fun j => some ((g + 38) + 15 * j)))) (k_g38 : ek h (g + 38) ER ET EW EL EK) (k_g34 : hAt h (g + 34) = some (waC (g + 35) (g + 36) tw)) (k_g35 : hAt h (g + 35) = some (arI 6 tl)) (k_g36 : hAt h (g + 36) = some (arI 6 tk)) (k_g37 : hAt h (g + 37) = some (ruC tu)) (k_g98 : hAt h (g + 98) = some (moC (g + 99) (g + 100) (g + 101) (g + 102) (g + 103) m)) (k_g99 : hAt h (g + 99) = some (arI 103 tn)) (k_g100 : hAt h (g + 100) = some (arI 103 tr_)) (k_g101 : hAt h (g + 101) = some (arI 103 ts)) (k_g102 : hAt h (g + 102) = some (arI 412 tp)) (k_g103 : hAt h (g + 103) = some (arI 240 tx)) (ex : xg_x G = xs) (eL : xg_L G = Ls) (hp : p_law_meets xs s x lf r t W LF KF dr dt DW DL DK ER ET EW EL EK tw tl tk tu m tn tr_ ts tp tx Ls v3) (kk : ∀ h2 : xH, hAt h2 g = some (gpC (g + 1) (g + 3) (g + 18) (g + 33) (g + 34) (g + 37) s) → hAt h2 (g + 1) = some (txC (g + 2) x) → hAt h2 (g + 2) = some (arC 240 lf) → nk h2 (g + 3) r t W LF KF → nk h2 (g + 18) dr dt DW DL DK → hAt h2 (g + 33) = some (arR 2 4 (fun j => some ((g + 38) + 15 * j))) → ek h2 (g + 38) ER ET EW EL EK → hAt h2 (g + 34) = some (waC (g + 35) (g + 36) tw) → hAt h2 (g + 35) = some (arI 6 tl) → hAt h2 (g + 36) = some (arI 6 tk) → hAt h2 (g + 37) = some (ruC tu) → hAt h2 (g + 98) = some (moC (g + 99) (g + 100) (g + 101) (g + 102) (g + 103) m) → hAt h2 (g + 99) = some (arI 103 tn) → hAt h2 (g + 100) = some (arI 103 tr_) → hAt h2 (g + 101) = some (arI 103 ts) → hAt h2 (g + 102) = some (arI 412 tp) → hAt h2 (g + 103) = some (arI 240 tx) → Wp G RL code 4 nm ret room_1 (lwZ G) 104 1984 735 [(3, .int v3), (2, .ref (g + 98)), (1, .ref g), (0, .ref (xg_b G))] [] h2) : Wp G RL code 4 nm ret room_1 (lwZ G) 104 1984 537 [(3, .int v3), (2, .ref (g + 98)), (1, .ref g), (0, .ref (xg_b G))] [] h := by
  unfold p_law_meets at hp
  refine x_aload_n (pc := 537) dL_law_537 rfl ?_
  refine x_aload_n (pc := 538) dL_law_538 rfl ?_
  refine x_iload_n (pc := 539) dL_law_539 rfl ?_
  refine x_iconst (pc := 540) (v := (1 : Int32)) dL_law_540 (by decide) ?_
  refine x_iadd (pc := 541) dL_law_541 ?_
  obtain ⟨q542, hp⟩ := hp
  refine x_sldE (pc := 542) dL_law_542 ex eL q542 (j := ((v3 + (1 : Int32)).toNatClampNeg)) rfl ?_
  refine x_aload_n (pc := 543) dL_law_543 rfl ?_
  refine x_iload_n (pc := 544) dL_law_544 rfl ?_
  refine x_iconst (pc := 545) (v := (2 : Int32)) dL_law_545 (by decide) ?_
  refine x_iadd (pc := 546) dL_law_546 ?_
  obtain ⟨q547, hp⟩ := hp
  refine x_sldE (pc := 547) dL_law_547 ex eL q547 (j := ((v3 + (2 : Int32)).toNatClampNeg)) rfl ?_
  refine x_aload_n (pc := 548) dL_law_548 rfl ?_
  refine x_iload_n (pc := 549) dL_law_549 rfl ?_
  refine x_iconst (pc := 550) (v := (3 : Int32)) dL_law_550 (by decide) ?_
  refine x_iadd (pc := 551) dL_law_551 ?_
  obtain ⟨q552, hp⟩ := hp
  refine x_sldE (pc := 552) dL_law_552 ex eL q552 (j := ((v3 + (3 : Int32)).toNatClampNeg)) rfl ?_
  obtain ⟨q553, hp⟩ := hp
  refine x_cV3i (pc := 553) dL_law_553 xl_L_77 xv_X4_meets k_g rfl (C_X4_meets G _ g s r t W LF KF (xs ((v3 + (1 : Int32)).toNatClampNeg)) (xs ((v3 + (2 : Int32)).toNatClampNeg)) (xs ((v3 + (3 : Int32)).toNatClampNeg)) k_g k_g3 q553) rfl rfl rfl ?_
  obtain ⟨F1, eF1⟩ : ∃ F, f_X4_meets s r t W LF KF (xs ((v3 + (1 : Int32)).toNatClampNeg)) (xs ((v3 + (2 : Int32)).toNatClampNeg)) (xs ((v3 + (3 : Int32)).toNatClampNeg)) = F := ⟨_, rfl⟩
  rw [eF1]
  try rw [eF1] at hp
  refine x_aload_n (pc := 556) dL_law_556 rfl ?_
  refine x_aload_n (pc := 557) dL_law_557 rfl ?_
  refine x_iload_n (pc := 558) dL_law_558 rfl ?_
  refine x_iconst (pc := 559) (v := (1 : Int32)) dL_law_559 (by decide) ?_
  refine x_iadd (pc := 560) dL_law_560 ?_
  obtain ⟨q561, hp⟩ := hp
  refine x_sldE (pc := 561) dL_law_561 ex eL q561 (j := ((v3 + (1 : Int32)).toNatClampNeg)) rfl ?_
  refine x_aload_n (pc := 562) dL_law_562 rfl ?_
  refine x_iload_n (pc := 563) dL_law_563 rfl ?_
  refine x_iconst (pc := 564) (v := (2 : Int32)) dL_law_564 (by decide) ?_
  refine x_iadd (pc := 565) dL_law_565 ?_
  obtain ⟨q566, hp⟩ := hp
  refine x_sldE (pc := 566) dL_law_566 ex eL q566 (j := ((v3 + (2 : Int32)).toNatClampNeg)) rfl ?_
  refine x_aload_n (pc := 567) dL_law_567 rfl ?_
  refine x_iload_n (pc := 568) dL_law_568 rfl ?_
  refine x_iconst (pc := 569) (v := (3 : Int32)) dL_law_569 (by decide) ?_
  refine x_iadd (pc := 570) dL_law_570 ?_
  obtain ⟨q571, hp⟩ := hp
  refine x_sldE (pc := 571) dL_law_571 ex eL q571 (j := ((v3 + (3 : Int32)).toNatClampNeg)) rfl ?_
  obtain ⟨q572, hp⟩ := hp
  refine x_cV3i (pc := 572) dL_law_572 xl_L_80 xv_X5_meets k_g98 rfl (C_X5_meets G _ (g + 98) (g + 99) (g + 100) (g + 101) (g + 102) (g + 103) m tn (xs ((v3 + (1 : Int32)).toNatClampNeg)) (xs ((v3 + (2 : Int32)).toNatClampNeg)) (xs ((v3 + (3 : Int32)).toNatClampNeg)) k_g98 k_g99 q572) rfl rfl rfl ?_
  obtain ⟨F2, eF2⟩ : ∃ F, f_X5_meets m tn (xs ((v3 + (1 : Int32)).toNatClampNeg)) (xs ((v3 + (2 : Int32)).toNatClampNeg)) (xs ((v3 + (3 : Int32)).toNatClampNeg)) = F := ⟨_, rfl⟩
  rw [eF2]
  try rw [eF2] at hp
  refine x_icmp_eq (pc := 575) (tgt := 735) dL_law_575 (by decide) (fun (c1 : F1 = F2) => ?_) (fun (c1 : ¬ (F1 = F2)) => ?_)
  · replace hp := hp.1 c1
    exact kk h k_g k_g1 k_g2 k_g3 k_g18 k_g33 k_g38 k_g34 k_g35 k_g36 k_g37 k_g98 k_g99 k_g100 k_g101 k_g102 k_g103
  · replace hp := hp.2 c1
    refine x_iconst (pc := 578) (v := (0 : Int32)) dL_law_578 (by decide) ?_
    exact hp.elim

def f_law_draw (xs : (Nat → Int32)) (s : (Nat → Int32)) (x : (Nat → Int32)) (lf : (Nat → Int32)) (r : (Nat → Int32)) (t : (Nat → Int32)) (W : (Nat → Nat → Int32)) (LF : (Nat → Nat → Int32)) (KF : (Nat → Nat → Int32)) (dr : (Nat → Int32)) (dt : (Nat → Int32)) (DW : (Nat → Nat → Int32)) (DL : (Nat → Nat → Int32)) (DK : (Nat → Nat → Int32)) (ER : (Nat → Nat → Int32)) (ET : (Nat → Nat → Int32)) (EW : (Nat → Nat → Nat → Int32)) (EL : (Nat → Nat → Nat → Int32)) (EK : (Nat → Nat → Nat → Int32)) (tw : (Nat → Int32)) (tl : (Nat → Int32)) (tk : (Nat → Int32)) (tu : (Nat → Int32)) (m : (Nat → Int32)) (tn : (Nat → Int32)) (tr_ : (Nat → Int32)) (ts : (Nat → Int32)) (tp : (Nat → Int32)) (tx : (Nat → Int32)) (Ls : Nat) (v3 : Int32) : Unit := (if (f_X4_draw s r t W LF KF (xs ((v3 + (1 : Int32)).toNatClampNeg)) (xs ((v3 + (2 : Int32)).toNatClampNeg))) = (f_X5_draw m tn (xs ((v3 + (1 : Int32)).toNatClampNeg)) (xs ((v3 + (2 : Int32)).toNatClampNeg))) then () else ())
def p_law_draw (xs : (Nat → Int32)) (s : (Nat → Int32)) (x : (Nat → Int32)) (lf : (Nat → Int32)) (r : (Nat → Int32)) (t : (Nat → Int32)) (W : (Nat → Nat → Int32)) (LF : (Nat → Nat → Int32)) (KF : (Nat → Nat → Int32)) (dr : (Nat → Int32)) (dt : (Nat → Int32)) (DW : (Nat → Nat → Int32)) (DL : (Nat → Nat → Int32)) (DK : (Nat → Nat → Int32)) (ER : (Nat → Nat → Int32)) (ET : (Nat → Nat → Int32)) (EW : (Nat → Nat → Nat → Int32)) (EL : (Nat → Nat → Nat → Int32)) (EK : (Nat → Nat → Nat → Int32)) (tw : (Nat → Int32)) (tl : (Nat → Int32)) (tk : (Nat → Int32)) (tu : (Nat → Int32)) (m : (Nat → Int32)) (tn : (Nat → Int32)) (tr_ : (Nat → Int32)) (ts : (Nat → Int32)) (tp : (Nat → Int32)) (tx : (Nat → Int32)) (Ls : Nat) (v3 : Int32) : Prop := (vp_in (v3 + (1 : Int32)) Ls ∧ (vp_in (v3 + (2 : Int32)) Ls ∧ (p_X4_draw s r t W LF KF (xs ((v3 + (1 : Int32)).toNatClampNeg)) (xs ((v3 + (2 : Int32)).toNatClampNeg)) ∧ (vp_in (v3 + (1 : Int32)) Ls ∧ (vp_in (v3 + (2 : Int32)) Ls ∧ (((f_X4_draw s r t W LF KF (xs ((v3 + (1 : Int32)).toNatClampNeg)) (xs ((v3 + (2 : Int32)).toNatClampNeg))) = (f_X5_draw m tn (xs ((v3 + (1 : Int32)).toNatClampNeg)) (xs ((v3 + (2 : Int32)).toNatClampNeg))) → True) ∧ (¬ ((f_X4_draw s r t W LF KF (xs ((v3 + (1 : Int32)).toNatClampNeg)) (xs ((v3 + (2 : Int32)).toNatClampNeg))) = (f_X5_draw m tn (xs ((v3 + (1 : Int32)).toNatClampNeg)) (xs ((v3 + (2 : Int32)).toNatClampNeg)))) → False)))))))
set_option maxRecDepth 100000 in
set_option maxHeartbeats 4000000 in
theorem K_law_draw (G : xG) (h : xH) (nm : String) (g : Nat) (xs : (Nat → Int32)) (s : (Nat → Int32)) (x : (Nat → Int32)) (lf : (Nat → Int32)) (r : (Nat → Int32)) (t : (Nat → Int32)) (W : (Nat → Nat → Int32)) (LF : (Nat → Nat → Int32)) (KF : (Nat → Nat → Int32)) (dr : (Nat → Int32)) (dt : (Nat → Int32)) (DW : (Nat → Nat → Int32)) (DL : (Nat → Nat → Int32)) (DK : (Nat → Nat → Int32)) (ER : (Nat → Nat → Int32)) (ET : (Nat → Nat → Int32)) (EW : (Nat → Nat → Nat → Int32)) (EL : (Nat → Nat → Nat → Int32)) (EK : (Nat → Nat → Nat → Int32)) (tw : (Nat → Int32)) (tl : (Nat → Int32)) (tk : (Nat → Int32)) (tu : (Nat → Int32)) (m : (Nat → Int32)) (tn : (Nat → Int32)) (tr_ : (Nat → Int32)) (ts : (Nat → Int32)) (tp : (Nat → Int32)) (tx : (Nat → Int32)) (Ls : Nat) (v3 : Int32) (k_g : hAt h g = some (gpC (g + 1) (g + 3) (g + 18) (g + 33) (g + 34) (g + 37) s)) (k_g1 : hAt h (g + 1) = some (txC (g + 2) x)) (k_g2 : hAt h (g + 2) = some (arC 240 lf)) (k_g3 : nk h (g + 3) r t W LF KF) (k_g18 : nk h (g + 18) dr dt DW DL DK) (k_g33 : hAt h (g + 33) = some (arR 2 4 (fun j => some ((g + 38) + 15 * j)))) (k_g38 : ek h (g + 38) ER ET EW EL EK) (k_g34 : hAt h (g + 34) = some (waC (g + 35) (g + 36) tw)) (k_g35 : hAt h (g + 35) = some (arI 6 tl)) (k_g36 : hAt h (g + 36) = some (arI 6 tk)) (k_g37 : hAt h (g + 37) = some (ruC tu)) (k_g98 : hAt h (g + 98) = some (moC (g + 99) (g + 100) (g + 101) (g + 102) (g + 103) m)) (k_g99 : hAt h (g + 99) = some (arI 103 tn)) (k_g100 : hAt h (g + 100) = some (arI 103 tr_)) (k_g101 : hAt h (g + 101) = some (arI 103 ts)) (k_g102 : hAt h (g + 102) = some (arI 412 tp)) (k_g103 : hAt h (g + 103) = some (arI 240 tx)) (ex : xg_x G = xs) (eL : xg_L G = Ls) (hp : p_law_draw xs s x lf r t W LF KF dr dt DW DL DK ER ET EW EL EK tw tl tk tu m tn tr_ ts tp tx Ls v3) (kk : ∀ h2 : xH, hAt h2 g = some (gpC (g + 1) (g + 3) (g + 18) (g + 33) (g + 34) (g + 37) s) → hAt h2 (g + 1) = some (txC (g + 2) x) → hAt h2 (g + 2) = some (arC 240 lf) → nk h2 (g + 3) r t W LF KF → nk h2 (g + 18) dr dt DW DL DK → hAt h2 (g + 33) = some (arR 2 4 (fun j => some ((g + 38) + 15 * j))) → ek h2 (g + 38) ER ET EW EL EK → hAt h2 (g + 34) = some (waC (g + 35) (g + 36) tw) → hAt h2 (g + 35) = some (arI 6 tl) → hAt h2 (g + 36) = some (arI 6 tk) → hAt h2 (g + 37) = some (ruC tu) → hAt h2 (g + 98) = some (moC (g + 99) (g + 100) (g + 101) (g + 102) (g + 103) m) → hAt h2 (g + 99) = some (arI 103 tn) → hAt h2 (g + 100) = some (arI 103 tr_) → hAt h2 (g + 101) = some (arI 103 ts) → hAt h2 (g + 102) = some (arI 412 tp) → hAt h2 (g + 103) = some (arI 240 tx) → Wp G RL code 4 nm ret room_1 (lwZ G) 104 1984 735 [(3, .int v3), (2, .ref (g + 98)), (1, .ref g), (0, .ref (xg_b G))] [] h2) : Wp G RL code 4 nm ret room_1 (lwZ G) 104 1984 580 [(3, .int v3), (2, .ref (g + 98)), (1, .ref g), (0, .ref (xg_b G))] [] h := by
  unfold p_law_draw at hp
  refine x_aload_n (pc := 580) dL_law_580 rfl ?_
  refine x_aload_n (pc := 581) dL_law_581 rfl ?_
  refine x_iload_n (pc := 582) dL_law_582 rfl ?_
  refine x_iconst (pc := 583) (v := (1 : Int32)) dL_law_583 (by decide) ?_
  refine x_iadd (pc := 584) dL_law_584 ?_
  obtain ⟨q585, hp⟩ := hp
  refine x_sldE (pc := 585) dL_law_585 ex eL q585 (j := ((v3 + (1 : Int32)).toNatClampNeg)) rfl ?_
  refine x_aload_n (pc := 586) dL_law_586 rfl ?_
  refine x_iload_n (pc := 587) dL_law_587 rfl ?_
  refine x_iconst (pc := 588) (v := (2 : Int32)) dL_law_588 (by decide) ?_
  refine x_iadd (pc := 589) dL_law_589 ?_
  obtain ⟨q590, hp⟩ := hp
  refine x_sldE (pc := 590) dL_law_590 ex eL q590 (j := ((v3 + (2 : Int32)).toNatClampNeg)) rfl ?_
  obtain ⟨q591, hp⟩ := hp
  refine x_cV2i (pc := 591) dL_law_591 xl_L_81 xv_X4_draw k_g rfl (C_X4_draw G _ g s r t W LF KF (xs ((v3 + (1 : Int32)).toNatClampNeg)) (xs ((v3 + (2 : Int32)).toNatClampNeg)) k_g k_g3 q591) rfl rfl rfl ?_
  obtain ⟨F1, eF1⟩ : ∃ F, f_X4_draw s r t W LF KF (xs ((v3 + (1 : Int32)).toNatClampNeg)) (xs ((v3 + (2 : Int32)).toNatClampNeg)) = F := ⟨_, rfl⟩
  rw [eF1]
  try rw [eF1] at hp
  refine x_aload_n (pc := 594) dL_law_594 rfl ?_
  refine x_aload_n (pc := 595) dL_law_595 rfl ?_
  refine x_iload_n (pc := 596) dL_law_596 rfl ?_
  refine x_iconst (pc := 597) (v := (1 : Int32)) dL_law_597 (by decide) ?_
  refine x_iadd (pc := 598) dL_law_598 ?_
  obtain ⟨q599, hp⟩ := hp
  refine x_sldE (pc := 599) dL_law_599 ex eL q599 (j := ((v3 + (1 : Int32)).toNatClampNeg)) rfl ?_
  refine x_aload_n (pc := 600) dL_law_600 rfl ?_
  refine x_iload_n (pc := 601) dL_law_601 rfl ?_
  refine x_iconst (pc := 602) (v := (2 : Int32)) dL_law_602 (by decide) ?_
  refine x_iadd (pc := 603) dL_law_603 ?_
  obtain ⟨q604, hp⟩ := hp
  refine x_sldE (pc := 604) dL_law_604 ex eL q604 (j := ((v3 + (2 : Int32)).toNatClampNeg)) rfl ?_
  refine x_cV2i (pc := 605) dL_law_605 xl_L_84 xv_X5_draw k_g98 rfl (C_X5_draw G _ (g + 98) (g + 99) (g + 100) (g + 101) (g + 102) (g + 103) m tn (xs ((v3 + (1 : Int32)).toNatClampNeg)) (xs ((v3 + (2 : Int32)).toNatClampNeg)) k_g98 k_g99) rfl rfl rfl ?_
  obtain ⟨F2, eF2⟩ : ∃ F, f_X5_draw m tn (xs ((v3 + (1 : Int32)).toNatClampNeg)) (xs ((v3 + (2 : Int32)).toNatClampNeg)) = F := ⟨_, rfl⟩
  rw [eF2]
  try rw [eF2] at hp
  refine x_icmp_eq (pc := 608) (tgt := 735) dL_law_608 (by decide) (fun (c1 : F1 = F2) => ?_) (fun (c1 : ¬ (F1 = F2)) => ?_)
  · replace hp := hp.1 c1
    exact kk h k_g k_g1 k_g2 k_g3 k_g18 k_g33 k_g38 k_g34 k_g35 k_g36 k_g37 k_g98 k_g99 k_g100 k_g101 k_g102 k_g103
  · replace hp := hp.2 c1
    refine x_iconst (pc := 611) (v := (0 : Int32)) dL_law_611 (by decide) ?_
    exact hp.elim

def f_law_ahead (xs : (Nat → Int32)) (s : (Nat → Int32)) (x : (Nat → Int32)) (lf : (Nat → Int32)) (r : (Nat → Int32)) (t : (Nat → Int32)) (W : (Nat → Nat → Int32)) (LF : (Nat → Nat → Int32)) (KF : (Nat → Nat → Int32)) (dr : (Nat → Int32)) (dt : (Nat → Int32)) (DW : (Nat → Nat → Int32)) (DL : (Nat → Nat → Int32)) (DK : (Nat → Nat → Int32)) (ER : (Nat → Nat → Int32)) (ET : (Nat → Nat → Int32)) (EW : (Nat → Nat → Nat → Int32)) (EL : (Nat → Nat → Nat → Int32)) (EK : (Nat → Nat → Nat → Int32)) (tw : (Nat → Int32)) (tl : (Nat → Int32)) (tk : (Nat → Int32)) (tu : (Nat → Int32)) (m : (Nat → Int32)) (tn : (Nat → Int32)) (tr_ : (Nat → Int32)) (ts : (Nat → Int32)) (tp : (Nat → Int32)) (tx : (Nat → Int32)) (Ls : Nat) (v3 : Int32) : (Nat → Int32) × (Nat → Int32) × (Nat → Int32) × (Nat → Int32) × (Nat → Int32) × (Nat → Int32) := (if (f_X4_ahead s r t W LF KF tw tl tk tu (xs ((v3 + (1 : Int32)).toNatClampNeg)) (xs ((v3 + (2 : Int32)).toNatClampNeg)) (xs ((v3 + (3 : Int32)).toNatClampNeg))).1 = (f_X5_ahead m tn ts (xs ((v3 + (1 : Int32)).toNatClampNeg)) (xs ((v3 + (2 : Int32)).toNatClampNeg)) (xs ((v3 + (3 : Int32)).toNatClampNeg))).1 then ((f_X4_ahead s r t W LF KF tw tl tk tu (xs ((v3 + (1 : Int32)).toNatClampNeg)) (xs ((v3 + (2 : Int32)).toNatClampNeg)) (xs ((v3 + (3 : Int32)).toNatClampNeg))).2.1, (f_X4_ahead s r t W LF KF tw tl tk tu (xs ((v3 + (1 : Int32)).toNatClampNeg)) (xs ((v3 + (2 : Int32)).toNatClampNeg)) (xs ((v3 + (3 : Int32)).toNatClampNeg))).2.2.1, (f_X4_ahead s r t W LF KF tw tl tk tu (xs ((v3 + (1 : Int32)).toNatClampNeg)) (xs ((v3 + (2 : Int32)).toNatClampNeg)) (xs ((v3 + (3 : Int32)).toNatClampNeg))).2.2.2.1, (f_X4_ahead s r t W LF KF tw tl tk tu (xs ((v3 + (1 : Int32)).toNatClampNeg)) (xs ((v3 + (2 : Int32)).toNatClampNeg)) (xs ((v3 + (3 : Int32)).toNatClampNeg))).2.2.2.2, (f_X5_ahead m tn ts (xs ((v3 + (1 : Int32)).toNatClampNeg)) (xs ((v3 + (2 : Int32)).toNatClampNeg)) (xs ((v3 + (3 : Int32)).toNatClampNeg))).2.1, (f_X5_ahead m tn ts (xs ((v3 + (1 : Int32)).toNatClampNeg)) (xs ((v3 + (2 : Int32)).toNatClampNeg)) (xs ((v3 + (3 : Int32)).toNatClampNeg))).2.2) else ((fun _ => 0), (fun _ => 0), (fun _ => 0), (fun _ => 0), (fun _ => 0), (fun _ => 0)))
def p_law_ahead (xs : (Nat → Int32)) (s : (Nat → Int32)) (x : (Nat → Int32)) (lf : (Nat → Int32)) (r : (Nat → Int32)) (t : (Nat → Int32)) (W : (Nat → Nat → Int32)) (LF : (Nat → Nat → Int32)) (KF : (Nat → Nat → Int32)) (dr : (Nat → Int32)) (dt : (Nat → Int32)) (DW : (Nat → Nat → Int32)) (DL : (Nat → Nat → Int32)) (DK : (Nat → Nat → Int32)) (ER : (Nat → Nat → Int32)) (ET : (Nat → Nat → Int32)) (EW : (Nat → Nat → Nat → Int32)) (EL : (Nat → Nat → Nat → Int32)) (EK : (Nat → Nat → Nat → Int32)) (tw : (Nat → Int32)) (tl : (Nat → Int32)) (tk : (Nat → Int32)) (tu : (Nat → Int32)) (m : (Nat → Int32)) (tn : (Nat → Int32)) (tr_ : (Nat → Int32)) (ts : (Nat → Int32)) (tp : (Nat → Int32)) (tx : (Nat → Int32)) (Ls : Nat) (v3 : Int32) : Prop := (vp_in (v3 + (1 : Int32)) Ls ∧ (vp_in (v3 + (2 : Int32)) Ls ∧ (vp_in (v3 + (3 : Int32)) Ls ∧ (p_X4_ahead s r t W LF KF tw tl tk tu (xs ((v3 + (1 : Int32)).toNatClampNeg)) (xs ((v3 + (2 : Int32)).toNatClampNeg)) (xs ((v3 + (3 : Int32)).toNatClampNeg)) ∧ (vp_in (v3 + (1 : Int32)) Ls ∧ (vp_in (v3 + (2 : Int32)) Ls ∧ (vp_in (v3 + (3 : Int32)) Ls ∧ (p_X5_ahead m tn ts (xs ((v3 + (1 : Int32)).toNatClampNeg)) (xs ((v3 + (2 : Int32)).toNatClampNeg)) (xs ((v3 + (3 : Int32)).toNatClampNeg)) ∧ (((f_X4_ahead s r t W LF KF tw tl tk tu (xs ((v3 + (1 : Int32)).toNatClampNeg)) (xs ((v3 + (2 : Int32)).toNatClampNeg)) (xs ((v3 + (3 : Int32)).toNatClampNeg))).1 = (f_X5_ahead m tn ts (xs ((v3 + (1 : Int32)).toNatClampNeg)) (xs ((v3 + (2 : Int32)).toNatClampNeg)) (xs ((v3 + (3 : Int32)).toNatClampNeg))).1 → True) ∧ (¬ ((f_X4_ahead s r t W LF KF tw tl tk tu (xs ((v3 + (1 : Int32)).toNatClampNeg)) (xs ((v3 + (2 : Int32)).toNatClampNeg)) (xs ((v3 + (3 : Int32)).toNatClampNeg))).1 = (f_X5_ahead m tn ts (xs ((v3 + (1 : Int32)).toNatClampNeg)) (xs ((v3 + (2 : Int32)).toNatClampNeg)) (xs ((v3 + (3 : Int32)).toNatClampNeg))).1) → False))))))))))
set_option maxRecDepth 100000 in
set_option maxHeartbeats 4000000 in
theorem K_law_ahead (G : xG) (h : xH) (nm : String) (g : Nat) (xs : (Nat → Int32)) (s : (Nat → Int32)) (x : (Nat → Int32)) (lf : (Nat → Int32)) (r : (Nat → Int32)) (t : (Nat → Int32)) (W : (Nat → Nat → Int32)) (LF : (Nat → Nat → Int32)) (KF : (Nat → Nat → Int32)) (dr : (Nat → Int32)) (dt : (Nat → Int32)) (DW : (Nat → Nat → Int32)) (DL : (Nat → Nat → Int32)) (DK : (Nat → Nat → Int32)) (ER : (Nat → Nat → Int32)) (ET : (Nat → Nat → Int32)) (EW : (Nat → Nat → Nat → Int32)) (EL : (Nat → Nat → Nat → Int32)) (EK : (Nat → Nat → Nat → Int32)) (tw : (Nat → Int32)) (tl : (Nat → Int32)) (tk : (Nat → Int32)) (tu : (Nat → Int32)) (m : (Nat → Int32)) (tn : (Nat → Int32)) (tr_ : (Nat → Int32)) (ts : (Nat → Int32)) (tp : (Nat → Int32)) (tx : (Nat → Int32)) (Ls : Nat) (v3 : Int32) (k_g : hAt h g = some (gpC (g + 1) (g + 3) (g + 18) (g + 33) (g + 34) (g + 37) s)) (k_g1 : hAt h (g + 1) = some (txC (g + 2) x)) (k_g2 : hAt h (g + 2) = some (arC 240 lf)) (k_g3 : nk h (g + 3) r t W LF KF) (k_g18 : nk h (g + 18) dr dt DW DL DK) (k_g33 : hAt h (g + 33) = some (arR 2 4 (fun j => some ((g + 38) + 15 * j)))) (k_g38 : ek h (g + 38) ER ET EW EL EK) (k_g34 : hAt h (g + 34) = some (waC (g + 35) (g + 36) tw)) (k_g35 : hAt h (g + 35) = some (arI 6 tl)) (k_g36 : hAt h (g + 36) = some (arI 6 tk)) (k_g37 : hAt h (g + 37) = some (ruC tu)) (k_g98 : hAt h (g + 98) = some (moC (g + 99) (g + 100) (g + 101) (g + 102) (g + 103) m)) (k_g99 : hAt h (g + 99) = some (arI 103 tn)) (k_g100 : hAt h (g + 100) = some (arI 103 tr_)) (k_g101 : hAt h (g + 101) = some (arI 103 ts)) (k_g102 : hAt h (g + 102) = some (arI 412 tp)) (k_g103 : hAt h (g + 103) = some (arI 240 tx)) (ex : xg_x G = xs) (eL : xg_L G = Ls) (hp : p_law_ahead xs s x lf r t W LF KF dr dt DW DL DK ER ET EW EL EK tw tl tk tu m tn tr_ ts tp tx Ls v3) (kk : ∀ h2 : xH, hAt h2 g = some (gpC (g + 1) (g + 3) (g + 18) (g + 33) (g + 34) (g + 37) s) → hAt h2 (g + 1) = some (txC (g + 2) x) → hAt h2 (g + 2) = some (arC 240 lf) → nk h2 (g + 3) r t W LF KF → nk h2 (g + 18) dr dt DW DL DK → hAt h2 (g + 33) = some (arR 2 4 (fun j => some ((g + 38) + 15 * j))) → ek h2 (g + 38) ER ET EW EL EK → hAt h2 (g + 34) = some (waC (g + 35) (g + 36) (f_law_ahead xs s x lf r t W LF KF dr dt DW DL DK ER ET EW EL EK tw tl tk tu m tn tr_ ts tp tx Ls v3).1) → hAt h2 (g + 35) = some (arI 6 (f_law_ahead xs s x lf r t W LF KF dr dt DW DL DK ER ET EW EL EK tw tl tk tu m tn tr_ ts tp tx Ls v3).2.1) → hAt h2 (g + 36) = some (arI 6 (f_law_ahead xs s x lf r t W LF KF dr dt DW DL DK ER ET EW EL EK tw tl tk tu m tn tr_ ts tp tx Ls v3).2.2.1) → hAt h2 (g + 37) = some (ruC (f_law_ahead xs s x lf r t W LF KF dr dt DW DL DK ER ET EW EL EK tw tl tk tu m tn tr_ ts tp tx Ls v3).2.2.2.1) → hAt h2 (g + 98) = some (moC (g + 99) (g + 100) (g + 101) (g + 102) (g + 103) (f_law_ahead xs s x lf r t W LF KF dr dt DW DL DK ER ET EW EL EK tw tl tk tu m tn tr_ ts tp tx Ls v3).2.2.2.2.1) → hAt h2 (g + 99) = some (arI 103 tn) → hAt h2 (g + 100) = some (arI 103 tr_) → hAt h2 (g + 101) = some (arI 103 (f_law_ahead xs s x lf r t W LF KF dr dt DW DL DK ER ET EW EL EK tw tl tk tu m tn tr_ ts tp tx Ls v3).2.2.2.2.2) → hAt h2 (g + 102) = some (arI 412 tp) → hAt h2 (g + 103) = some (arI 240 tx) → Wp G RL code 4 nm ret room_1 (lwZ G) 104 1984 735 [(3, .int v3), (2, .ref (g + 98)), (1, .ref g), (0, .ref (xg_b G))] [] h2) : Wp G RL code 4 nm ret room_1 (lwZ G) 104 1984 613 [(3, .int v3), (2, .ref (g + 98)), (1, .ref g), (0, .ref (xg_b G))] [] h := by
  obtain ⟨R, er⟩ : ∃ R, f_law_ahead xs s x lf r t W LF KF dr dt DW DL DK ER ET EW EL EK tw tl tk tu m tn tr_ ts tp tx Ls v3 = R := ⟨_, rfl⟩
  rw [er] at kk
  unfold f_law_ahead at er
  unfold p_law_ahead at hp
  refine x_aload_n (pc := 613) dL_law_613 rfl ?_
  refine x_aload_n (pc := 614) dL_law_614 rfl ?_
  refine x_iload_n (pc := 615) dL_law_615 rfl ?_
  refine x_iconst (pc := 616) (v := (1 : Int32)) dL_law_616 (by decide) ?_
  refine x_iadd (pc := 617) dL_law_617 ?_
  obtain ⟨q618, hp⟩ := hp
  refine x_sldE (pc := 618) dL_law_618 ex eL q618 (j := ((v3 + (1 : Int32)).toNatClampNeg)) rfl ?_
  refine x_aload_n (pc := 619) dL_law_619 rfl ?_
  refine x_iload_n (pc := 620) dL_law_620 rfl ?_
  refine x_iconst (pc := 621) (v := (2 : Int32)) dL_law_621 (by decide) ?_
  refine x_iadd (pc := 622) dL_law_622 ?_
  obtain ⟨q623, hp⟩ := hp
  refine x_sldE (pc := 623) dL_law_623 ex eL q623 (j := ((v3 + (2 : Int32)).toNatClampNeg)) rfl ?_
  refine x_aload_n (pc := 624) dL_law_624 rfl ?_
  refine x_iload_n (pc := 625) dL_law_625 rfl ?_
  refine x_iconst (pc := 626) (v := (3 : Int32)) dL_law_626 (by decide) ?_
  refine x_iadd (pc := 627) dL_law_627 ?_
  obtain ⟨q628, hp⟩ := hp
  refine x_sldE (pc := 628) dL_law_628 ex eL q628 (j := ((v3 + (3 : Int32)).toNatClampNeg)) rfl ?_
  obtain ⟨q629, hp⟩ := hp
  refine x_cVQ (pc := 629) (As := [.int (xs ((v3 + (1 : Int32)).toNatClampNeg)), .int (xs ((v3 + (2 : Int32)).toNatClampNeg)), .int (xs ((v3 + (3 : Int32)).toNatClampNeg))]) (rest := []) dL_law_629 xl_L_85 xv_X4_ahead k_g rfl rfl rfl rfl rfl rfl (C_X4_ahead G _ g s r t W LF KF tw tl tk tu (xs ((v3 + (1 : Int32)).toNatClampNeg)) (xs ((v3 + (2 : Int32)).toNatClampNeg)) (xs ((v3 + (3 : Int32)).toNatClampNeg)) k_g k_g3 k_g34 k_g35 k_g36 k_g37 q629) (fun v h1 hq => ?_)
  obtain ⟨ev, z0_h1, z1_h1, z2_h1, z3_h1, g_h1⟩ := hq
  subst ev
  refine Wp.eqs (L' := [(3, .int v3), (2, .ref (g + 98)), (1, .ref g), (0, .ref (xg_b G))]) (st' := [.int (f_X4_ahead s r t W LF KF tw tl tk tu (xs ((v3 + (1 : Int32)).toNatClampNeg)) (xs ((v3 + (2 : Int32)).toNatClampNeg)) (xs ((v3 + (3 : Int32)).toNatClampNeg))).1]) rfl rfl ?_
  obtain ⟨F1, eF1⟩ : ∃ F, f_X4_ahead s r t W LF KF tw tl tk tu (xs ((v3 + (1 : Int32)).toNatClampNeg)) (xs ((v3 + (2 : Int32)).toNatClampNeg)) (xs ((v3 + (3 : Int32)).toNatClampNeg)) = F := ⟨_, rfl⟩
  try rw [eF1] at er
  try rw [eF1] at hp
  try rw [eF1]
  try rw [eF1] at z0_h1
  try rw [eF1] at z1_h1
  try rw [eF1] at z2_h1
  try rw [eF1] at z3_h1
  have k_g_h1 : hAt h1 g = some (gpC (g + 1) (g + 3) (g + 18) (g + 33) (g + 34) (g + 37) s) := (g_h1.2 g (nt_X4_ahead_0 g)).trans k_g
  have k_g1_h1 : hAt h1 (g + 1) = some (txC (g + 2) x) := (g_h1.2 (g + 1) (nt_X4_ahead_1 g)).trans k_g1
  have k_g2_h1 : hAt h1 (g + 2) = some (arC 240 lf) := (g_h1.2 (g + 2) (nt_X4_ahead_2 g)).trans k_g2
  have k_g3_h1 : nk h1 (g + 3) r t W LF KF := nk_fr (fun q u1 u2 => g_h1.2 q (nt_X4_ahead_r3 g q u1 u2)) k_g3
  have k_g18_h1 : nk h1 (g + 18) dr dt DW DL DK := nk_fr (fun q u1 u2 => g_h1.2 q (nt_X4_ahead_r18 g q u1 u2)) k_g18
  have k_g33_h1 : hAt h1 (g + 33) = some (arR 2 4 (fun j => some ((g + 38) + 15 * j))) := (g_h1.2 (g + 33) (nt_X4_ahead_33 g)).trans k_g33
  have k_g38_h1 : ek h1 (g + 38) ER ET EW EL EK := ek_fr (fun q u1 u2 => g_h1.2 q (nt_X4_ahead_r38 g q u1 u2)) k_g38
  have k_g34_h1 : hAt h1 (g + 34) = some (waC (g + 35) (g + 36) F1.2.1) := z0_h1
  have k_g35_h1 : hAt h1 (g + 35) = some (arI 6 F1.2.2.1) := z1_h1
  have k_g36_h1 : hAt h1 (g + 36) = some (arI 6 F1.2.2.2.1) := z2_h1
  have k_g37_h1 : hAt h1 (g + 37) = some (ruC F1.2.2.2.2) := z3_h1
  have k_g98_h1 : hAt h1 (g + 98) = some (moC (g + 99) (g + 100) (g + 101) (g + 102) (g + 103) m) := (g_h1.2 (g + 98) (nt_X4_ahead_98 g)).trans k_g98
  have k_g99_h1 : hAt h1 (g + 99) = some (arI 103 tn) := (g_h1.2 (g + 99) (nt_X4_ahead_99 g)).trans k_g99
  have k_g100_h1 : hAt h1 (g + 100) = some (arI 103 tr_) := (g_h1.2 (g + 100) (nt_X4_ahead_100 g)).trans k_g100
  have k_g101_h1 : hAt h1 (g + 101) = some (arI 103 ts) := (g_h1.2 (g + 101) (nt_X4_ahead_101 g)).trans k_g101
  have k_g102_h1 : hAt h1 (g + 102) = some (arI 412 tp) := (g_h1.2 (g + 102) (nt_X4_ahead_102 g)).trans k_g102
  have k_g103_h1 : hAt h1 (g + 103) = some (arI 240 tx) := (g_h1.2 (g + 103) (nt_X4_ahead_103 g)).trans k_g103
  refine x_aload_n (pc := 632) dL_law_632 rfl ?_
  refine x_aload_n (pc := 633) dL_law_633 rfl ?_
  refine x_iload_n (pc := 634) dL_law_634 rfl ?_
  refine x_iconst (pc := 635) (v := (1 : Int32)) dL_law_635 (by decide) ?_
  refine x_iadd (pc := 636) dL_law_636 ?_
  obtain ⟨q637, hp⟩ := hp
  refine x_sldE (pc := 637) dL_law_637 ex eL q637 (j := ((v3 + (1 : Int32)).toNatClampNeg)) rfl ?_
  refine x_aload_n (pc := 638) dL_law_638 rfl ?_
  refine x_iload_n (pc := 639) dL_law_639 rfl ?_
  refine x_iconst (pc := 640) (v := (2 : Int32)) dL_law_640 (by decide) ?_
  refine x_iadd (pc := 641) dL_law_641 ?_
  obtain ⟨q642, hp⟩ := hp
  refine x_sldE (pc := 642) dL_law_642 ex eL q642 (j := ((v3 + (2 : Int32)).toNatClampNeg)) rfl ?_
  refine x_aload_n (pc := 643) dL_law_643 rfl ?_
  refine x_iload_n (pc := 644) dL_law_644 rfl ?_
  refine x_iconst (pc := 645) (v := (3 : Int32)) dL_law_645 (by decide) ?_
  refine x_iadd (pc := 646) dL_law_646 ?_
  obtain ⟨q647, hp⟩ := hp
  refine x_sldE (pc := 647) dL_law_647 ex eL q647 (j := ((v3 + (3 : Int32)).toNatClampNeg)) rfl ?_
  obtain ⟨q648, hp⟩ := hp
  refine x_cV3i (pc := 648) dL_law_648 xl_L_88 xv_X5_ahead k_g98_h1 rfl (C_X5_ahead G _ (g + 98) (g + 99) (g + 100) (g + 101) (g + 102) (g + 103) m tn ts (xs ((v3 + (1 : Int32)).toNatClampNeg)) (xs ((v3 + (2 : Int32)).toNatClampNeg)) (xs ((v3 + (3 : Int32)).toNatClampNeg)) k_g98_h1 k_g99_h1 k_g101_h1 (cNe rfl) q648) rfl rfl rfl ?_
  obtain ⟨F2, eF2⟩ : ∃ F, f_X5_ahead m tn ts (xs ((v3 + (1 : Int32)).toNatClampNeg)) (xs ((v3 + (2 : Int32)).toNatClampNeg)) (xs ((v3 + (3 : Int32)).toNatClampNeg)) = F := ⟨_, rfl⟩
  rw [eF2]
  try rw [eF2] at er
  try rw [eF2] at hp
  obtain ⟨h2, eh2⟩ : ∃ z, z = hSet h1 (g + 98) (moC (g + 99) (g + 100) (g + 101) (g + 102) (g + 103) F2.2.1) := ⟨_, rfl⟩
  rw [← eh2]
  have k_g_h2 : hAt h2 g = some (gpC (g + 1) (g + 3) (g + 18) (g + 33) (g + 34) (g + 37) s) := by rw [eh2]; exact hAt_n (cNeL rfl) k_g_h1
  have k_g1_h2 : hAt h2 (g + 1) = some (txC (g + 2) x) := by rw [eh2]; exact hAt_n (cNe rfl) k_g1_h1
  have k_g2_h2 : hAt h2 (g + 2) = some (arC 240 lf) := by rw [eh2]; exact hAt_n (cNe rfl) k_g2_h1
  have k_g3_h2 : nk h2 (g + 3) r t W LF KF := by rw [eh2]; exact nk_fr1 (cOut rfl) k_g3_h1
  have k_g18_h2 : nk h2 (g + 18) dr dt DW DL DK := by rw [eh2]; exact nk_fr1 (cOut rfl) k_g18_h1
  have k_g33_h2 : hAt h2 (g + 33) = some (arR 2 4 (fun j => some ((g + 38) + 15 * j))) := by rw [eh2]; exact hAt_n (cNe rfl) k_g33_h1
  have k_g38_h2 : ek h2 (g + 38) ER ET EW EL EK := by rw [eh2]; exact ek_fr1 (cOutE rfl) k_g38_h1
  have k_g34_h2 : hAt h2 (g + 34) = some (waC (g + 35) (g + 36) F1.2.1) := by rw [eh2]; exact hAt_n (cNe rfl) k_g34_h1
  have k_g35_h2 : hAt h2 (g + 35) = some (arI 6 F1.2.2.1) := by rw [eh2]; exact hAt_n (cNe rfl) k_g35_h1
  have k_g36_h2 : hAt h2 (g + 36) = some (arI 6 F1.2.2.2.1) := by rw [eh2]; exact hAt_n (cNe rfl) k_g36_h1
  have k_g37_h2 : hAt h2 (g + 37) = some (ruC F1.2.2.2.2) := by rw [eh2]; exact hAt_n (cNe rfl) k_g37_h1
  have k_g98_h2 : hAt h2 (g + 98) = some (moC (g + 99) (g + 100) (g + 101) (g + 102) (g + 103) F2.2.1) := by rw [eh2]; exact hAt_same
  have k_g99_h2 : hAt h2 (g + 99) = some (arI 103 tn) := by rw [eh2]; exact hAt_n (cNe rfl) k_g99_h1
  have k_g100_h2 : hAt h2 (g + 100) = some (arI 103 tr_) := by rw [eh2]; exact hAt_n (cNe rfl) k_g100_h1
  have k_g101_h2 : hAt h2 (g + 101) = some (arI 103 ts) := by rw [eh2]; exact hAt_n (cNe rfl) k_g101_h1
  have k_g102_h2 : hAt h2 (g + 102) = some (arI 412 tp) := by rw [eh2]; exact hAt_n (cNe rfl) k_g102_h1
  have k_g103_h2 : hAt h2 (g + 103) = some (arI 240 tx) := by rw [eh2]; exact hAt_n (cNe rfl) k_g103_h1
  obtain ⟨h3, eh3⟩ : ∃ z, z = hSet h2 (g + 101) (arI 103 F2.2.2) := ⟨_, rfl⟩
  rw [← eh3]
  have k_g_h3 : hAt h3 g = some (gpC (g + 1) (g + 3) (g + 18) (g + 33) (g + 34) (g + 37) s) := by rw [eh3]; exact hAt_n (cNeL rfl) k_g_h2
  have k_g1_h3 : hAt h3 (g + 1) = some (txC (g + 2) x) := by rw [eh3]; exact hAt_n (cNe rfl) k_g1_h2
  have k_g2_h3 : hAt h3 (g + 2) = some (arC 240 lf) := by rw [eh3]; exact hAt_n (cNe rfl) k_g2_h2
  have k_g3_h3 : nk h3 (g + 3) r t W LF KF := by rw [eh3]; exact nk_fr1 (cOut rfl) k_g3_h2
  have k_g18_h3 : nk h3 (g + 18) dr dt DW DL DK := by rw [eh3]; exact nk_fr1 (cOut rfl) k_g18_h2
  have k_g33_h3 : hAt h3 (g + 33) = some (arR 2 4 (fun j => some ((g + 38) + 15 * j))) := by rw [eh3]; exact hAt_n (cNe rfl) k_g33_h2
  have k_g38_h3 : ek h3 (g + 38) ER ET EW EL EK := by rw [eh3]; exact ek_fr1 (cOutE rfl) k_g38_h2
  have k_g34_h3 : hAt h3 (g + 34) = some (waC (g + 35) (g + 36) F1.2.1) := by rw [eh3]; exact hAt_n (cNe rfl) k_g34_h2
  have k_g35_h3 : hAt h3 (g + 35) = some (arI 6 F1.2.2.1) := by rw [eh3]; exact hAt_n (cNe rfl) k_g35_h2
  have k_g36_h3 : hAt h3 (g + 36) = some (arI 6 F1.2.2.2.1) := by rw [eh3]; exact hAt_n (cNe rfl) k_g36_h2
  have k_g37_h3 : hAt h3 (g + 37) = some (ruC F1.2.2.2.2) := by rw [eh3]; exact hAt_n (cNe rfl) k_g37_h2
  have k_g98_h3 : hAt h3 (g + 98) = some (moC (g + 99) (g + 100) (g + 101) (g + 102) (g + 103) F2.2.1) := by rw [eh3]; exact hAt_n (cNe rfl) k_g98_h2
  have k_g99_h3 : hAt h3 (g + 99) = some (arI 103 tn) := by rw [eh3]; exact hAt_n (cNe rfl) k_g99_h2
  have k_g100_h3 : hAt h3 (g + 100) = some (arI 103 tr_) := by rw [eh3]; exact hAt_n (cNe rfl) k_g100_h2
  have k_g101_h3 : hAt h3 (g + 101) = some (arI 103 F2.2.2) := by rw [eh3]; exact hAt_same
  have k_g102_h3 : hAt h3 (g + 102) = some (arI 412 tp) := by rw [eh3]; exact hAt_n (cNe rfl) k_g102_h2
  have k_g103_h3 : hAt h3 (g + 103) = some (arI 240 tx) := by rw [eh3]; exact hAt_n (cNe rfl) k_g103_h2
  refine x_icmp_eq (pc := 651) (tgt := 735) dL_law_651 (by decide) (fun (c1 : F1.1 = F2.1) => ?_) (fun (c1 : ¬ (F1.1 = F2.1)) => ?_)
  · replace hp := hp.1 c1
    rw [if_pos c1] at er
    subst er
    exact kk h3 k_g_h3 k_g1_h3 k_g2_h3 k_g3_h3 k_g18_h3 k_g33_h3 k_g38_h3 k_g34_h3 k_g35_h3 k_g36_h3 k_g37_h3 k_g98_h3 k_g99_h3 k_g100_h3 k_g101_h3 k_g102_h3 k_g103_h3
  · replace hp := hp.2 c1
    rw [if_neg c1] at er
    refine x_iconst (pc := 654) (v := (0 : Int32)) dL_law_654 (by decide) ?_
    exact hp.elim

def f_law_soon (xs : (Nat → Int32)) (s : (Nat → Int32)) (x : (Nat → Int32)) (lf : (Nat → Int32)) (r : (Nat → Int32)) (t : (Nat → Int32)) (W : (Nat → Nat → Int32)) (LF : (Nat → Nat → Int32)) (KF : (Nat → Nat → Int32)) (dr : (Nat → Int32)) (dt : (Nat → Int32)) (DW : (Nat → Nat → Int32)) (DL : (Nat → Nat → Int32)) (DK : (Nat → Nat → Int32)) (ER : (Nat → Nat → Int32)) (ET : (Nat → Nat → Int32)) (EW : (Nat → Nat → Nat → Int32)) (EL : (Nat → Nat → Nat → Int32)) (EK : (Nat → Nat → Nat → Int32)) (tw : (Nat → Int32)) (tl : (Nat → Int32)) (tk : (Nat → Int32)) (tu : (Nat → Int32)) (m : (Nat → Int32)) (tn : (Nat → Int32)) (tr_ : (Nat → Int32)) (ts : (Nat → Int32)) (tp : (Nat → Int32)) (tx : (Nat → Int32)) (Ls : Nat) (v3 : Int32) : (Nat → Int32) × (Nat → Int32) × (Nat → Int32) × (Nat → Int32) × (Nat → Int32) × (Nat → Int32) := (if (f_X4_soon s r t W LF KF tw tl tk tu (xs ((v3 + (1 : Int32)).toNatClampNeg)) (xs ((v3 + (2 : Int32)).toNatClampNeg))).1 = (f_X5_soon m tn ts (xs ((v3 + (1 : Int32)).toNatClampNeg)) (xs ((v3 + (2 : Int32)).toNatClampNeg))).1 then ((f_X4_soon s r t W LF KF tw tl tk tu (xs ((v3 + (1 : Int32)).toNatClampNeg)) (xs ((v3 + (2 : Int32)).toNatClampNeg))).2.1, (f_X4_soon s r t W LF KF tw tl tk tu (xs ((v3 + (1 : Int32)).toNatClampNeg)) (xs ((v3 + (2 : Int32)).toNatClampNeg))).2.2.1, (f_X4_soon s r t W LF KF tw tl tk tu (xs ((v3 + (1 : Int32)).toNatClampNeg)) (xs ((v3 + (2 : Int32)).toNatClampNeg))).2.2.2.1, (f_X4_soon s r t W LF KF tw tl tk tu (xs ((v3 + (1 : Int32)).toNatClampNeg)) (xs ((v3 + (2 : Int32)).toNatClampNeg))).2.2.2.2, (f_X5_soon m tn ts (xs ((v3 + (1 : Int32)).toNatClampNeg)) (xs ((v3 + (2 : Int32)).toNatClampNeg))).2.1, (f_X5_soon m tn ts (xs ((v3 + (1 : Int32)).toNatClampNeg)) (xs ((v3 + (2 : Int32)).toNatClampNeg))).2.2) else ((fun _ => 0), (fun _ => 0), (fun _ => 0), (fun _ => 0), (fun _ => 0), (fun _ => 0)))
def p_law_soon (xs : (Nat → Int32)) (s : (Nat → Int32)) (x : (Nat → Int32)) (lf : (Nat → Int32)) (r : (Nat → Int32)) (t : (Nat → Int32)) (W : (Nat → Nat → Int32)) (LF : (Nat → Nat → Int32)) (KF : (Nat → Nat → Int32)) (dr : (Nat → Int32)) (dt : (Nat → Int32)) (DW : (Nat → Nat → Int32)) (DL : (Nat → Nat → Int32)) (DK : (Nat → Nat → Int32)) (ER : (Nat → Nat → Int32)) (ET : (Nat → Nat → Int32)) (EW : (Nat → Nat → Nat → Int32)) (EL : (Nat → Nat → Nat → Int32)) (EK : (Nat → Nat → Nat → Int32)) (tw : (Nat → Int32)) (tl : (Nat → Int32)) (tk : (Nat → Int32)) (tu : (Nat → Int32)) (m : (Nat → Int32)) (tn : (Nat → Int32)) (tr_ : (Nat → Int32)) (ts : (Nat → Int32)) (tp : (Nat → Int32)) (tx : (Nat → Int32)) (Ls : Nat) (v3 : Int32) : Prop := (vp_in (v3 + (1 : Int32)) Ls ∧ (vp_in (v3 + (2 : Int32)) Ls ∧ (p_X4_soon s r t W LF KF tw tl tk tu (xs ((v3 + (1 : Int32)).toNatClampNeg)) (xs ((v3 + (2 : Int32)).toNatClampNeg)) ∧ (vp_in (v3 + (1 : Int32)) Ls ∧ (vp_in (v3 + (2 : Int32)) Ls ∧ (p_X5_soon m tn ts (xs ((v3 + (1 : Int32)).toNatClampNeg)) (xs ((v3 + (2 : Int32)).toNatClampNeg)) ∧ (((f_X4_soon s r t W LF KF tw tl tk tu (xs ((v3 + (1 : Int32)).toNatClampNeg)) (xs ((v3 + (2 : Int32)).toNatClampNeg))).1 = (f_X5_soon m tn ts (xs ((v3 + (1 : Int32)).toNatClampNeg)) (xs ((v3 + (2 : Int32)).toNatClampNeg))).1 → True) ∧ (¬ ((f_X4_soon s r t W LF KF tw tl tk tu (xs ((v3 + (1 : Int32)).toNatClampNeg)) (xs ((v3 + (2 : Int32)).toNatClampNeg))).1 = (f_X5_soon m tn ts (xs ((v3 + (1 : Int32)).toNatClampNeg)) (xs ((v3 + (2 : Int32)).toNatClampNeg))).1) → False))))))))
set_option maxRecDepth 100000 in
set_option maxHeartbeats 4000000 in
theorem K_law_soon (G : xG) (h : xH) (nm : String) (g : Nat) (xs : (Nat → Int32)) (s : (Nat → Int32)) (x : (Nat → Int32)) (lf : (Nat → Int32)) (r : (Nat → Int32)) (t : (Nat → Int32)) (W : (Nat → Nat → Int32)) (LF : (Nat → Nat → Int32)) (KF : (Nat → Nat → Int32)) (dr : (Nat → Int32)) (dt : (Nat → Int32)) (DW : (Nat → Nat → Int32)) (DL : (Nat → Nat → Int32)) (DK : (Nat → Nat → Int32)) (ER : (Nat → Nat → Int32)) (ET : (Nat → Nat → Int32)) (EW : (Nat → Nat → Nat → Int32)) (EL : (Nat → Nat → Nat → Int32)) (EK : (Nat → Nat → Nat → Int32)) (tw : (Nat → Int32)) (tl : (Nat → Int32)) (tk : (Nat → Int32)) (tu : (Nat → Int32)) (m : (Nat → Int32)) (tn : (Nat → Int32)) (tr_ : (Nat → Int32)) (ts : (Nat → Int32)) (tp : (Nat → Int32)) (tx : (Nat → Int32)) (Ls : Nat) (v3 : Int32) (k_g : hAt h g = some (gpC (g + 1) (g + 3) (g + 18) (g + 33) (g + 34) (g + 37) s)) (k_g1 : hAt h (g + 1) = some (txC (g + 2) x)) (k_g2 : hAt h (g + 2) = some (arC 240 lf)) (k_g3 : nk h (g + 3) r t W LF KF) (k_g18 : nk h (g + 18) dr dt DW DL DK) (k_g33 : hAt h (g + 33) = some (arR 2 4 (fun j => some ((g + 38) + 15 * j)))) (k_g38 : ek h (g + 38) ER ET EW EL EK) (k_g34 : hAt h (g + 34) = some (waC (g + 35) (g + 36) tw)) (k_g35 : hAt h (g + 35) = some (arI 6 tl)) (k_g36 : hAt h (g + 36) = some (arI 6 tk)) (k_g37 : hAt h (g + 37) = some (ruC tu)) (k_g98 : hAt h (g + 98) = some (moC (g + 99) (g + 100) (g + 101) (g + 102) (g + 103) m)) (k_g99 : hAt h (g + 99) = some (arI 103 tn)) (k_g100 : hAt h (g + 100) = some (arI 103 tr_)) (k_g101 : hAt h (g + 101) = some (arI 103 ts)) (k_g102 : hAt h (g + 102) = some (arI 412 tp)) (k_g103 : hAt h (g + 103) = some (arI 240 tx)) (ex : xg_x G = xs) (eL : xg_L G = Ls) (hp : p_law_soon xs s x lf r t W LF KF dr dt DW DL DK ER ET EW EL EK tw tl tk tu m tn tr_ ts tp tx Ls v3) (kk : ∀ h2 : xH, hAt h2 g = some (gpC (g + 1) (g + 3) (g + 18) (g + 33) (g + 34) (g + 37) s) → hAt h2 (g + 1) = some (txC (g + 2) x) → hAt h2 (g + 2) = some (arC 240 lf) → nk h2 (g + 3) r t W LF KF → nk h2 (g + 18) dr dt DW DL DK → hAt h2 (g + 33) = some (arR 2 4 (fun j => some ((g + 38) + 15 * j))) → ek h2 (g + 38) ER ET EW EL EK → hAt h2 (g + 34) = some (waC (g + 35) (g + 36) (f_law_soon xs s x lf r t W LF KF dr dt DW DL DK ER ET EW EL EK tw tl tk tu m tn tr_ ts tp tx Ls v3).1) → hAt h2 (g + 35) = some (arI 6 (f_law_soon xs s x lf r t W LF KF dr dt DW DL DK ER ET EW EL EK tw tl tk tu m tn tr_ ts tp tx Ls v3).2.1) → hAt h2 (g + 36) = some (arI 6 (f_law_soon xs s x lf r t W LF KF dr dt DW DL DK ER ET EW EL EK tw tl tk tu m tn tr_ ts tp tx Ls v3).2.2.1) → hAt h2 (g + 37) = some (ruC (f_law_soon xs s x lf r t W LF KF dr dt DW DL DK ER ET EW EL EK tw tl tk tu m tn tr_ ts tp tx Ls v3).2.2.2.1) → hAt h2 (g + 98) = some (moC (g + 99) (g + 100) (g + 101) (g + 102) (g + 103) (f_law_soon xs s x lf r t W LF KF dr dt DW DL DK ER ET EW EL EK tw tl tk tu m tn tr_ ts tp tx Ls v3).2.2.2.2.1) → hAt h2 (g + 99) = some (arI 103 tn) → hAt h2 (g + 100) = some (arI 103 tr_) → hAt h2 (g + 101) = some (arI 103 (f_law_soon xs s x lf r t W LF KF dr dt DW DL DK ER ET EW EL EK tw tl tk tu m tn tr_ ts tp tx Ls v3).2.2.2.2.2) → hAt h2 (g + 102) = some (arI 412 tp) → hAt h2 (g + 103) = some (arI 240 tx) → Wp G RL code 4 nm ret room_1 (lwZ G) 104 1984 735 [(3, .int v3), (2, .ref (g + 98)), (1, .ref g), (0, .ref (xg_b G))] [] h2) : Wp G RL code 4 nm ret room_1 (lwZ G) 104 1984 656 [(3, .int v3), (2, .ref (g + 98)), (1, .ref g), (0, .ref (xg_b G))] [] h := by
  obtain ⟨R, er⟩ : ∃ R, f_law_soon xs s x lf r t W LF KF dr dt DW DL DK ER ET EW EL EK tw tl tk tu m tn tr_ ts tp tx Ls v3 = R := ⟨_, rfl⟩
  rw [er] at kk
  unfold f_law_soon at er
  unfold p_law_soon at hp
  refine x_aload_n (pc := 656) dL_law_656 rfl ?_
  refine x_aload_n (pc := 657) dL_law_657 rfl ?_
  refine x_iload_n (pc := 658) dL_law_658 rfl ?_
  refine x_iconst (pc := 659) (v := (1 : Int32)) dL_law_659 (by decide) ?_
  refine x_iadd (pc := 660) dL_law_660 ?_
  obtain ⟨q661, hp⟩ := hp
  refine x_sldE (pc := 661) dL_law_661 ex eL q661 (j := ((v3 + (1 : Int32)).toNatClampNeg)) rfl ?_
  refine x_aload_n (pc := 662) dL_law_662 rfl ?_
  refine x_iload_n (pc := 663) dL_law_663 rfl ?_
  refine x_iconst (pc := 664) (v := (2 : Int32)) dL_law_664 (by decide) ?_
  refine x_iadd (pc := 665) dL_law_665 ?_
  obtain ⟨q666, hp⟩ := hp
  refine x_sldE (pc := 666) dL_law_666 ex eL q666 (j := ((v3 + (2 : Int32)).toNatClampNeg)) rfl ?_
  obtain ⟨q667, hp⟩ := hp
  refine x_cVQ (pc := 667) (As := [.int (xs ((v3 + (1 : Int32)).toNatClampNeg)), .int (xs ((v3 + (2 : Int32)).toNatClampNeg))]) (rest := []) dL_law_667 xl_L_89 xv_X4_soon k_g rfl rfl rfl rfl rfl rfl (C_X4_soon G _ g s r t W LF KF tw tl tk tu (xs ((v3 + (1 : Int32)).toNatClampNeg)) (xs ((v3 + (2 : Int32)).toNatClampNeg)) k_g k_g3 k_g34 k_g35 k_g36 k_g37 q667) (fun v h1 hq => ?_)
  obtain ⟨ev, z0_h1, z1_h1, z2_h1, z3_h1, g_h1⟩ := hq
  subst ev
  refine Wp.eqs (L' := [(3, .int v3), (2, .ref (g + 98)), (1, .ref g), (0, .ref (xg_b G))]) (st' := [.int (f_X4_soon s r t W LF KF tw tl tk tu (xs ((v3 + (1 : Int32)).toNatClampNeg)) (xs ((v3 + (2 : Int32)).toNatClampNeg))).1]) rfl rfl ?_
  obtain ⟨F1, eF1⟩ : ∃ F, f_X4_soon s r t W LF KF tw tl tk tu (xs ((v3 + (1 : Int32)).toNatClampNeg)) (xs ((v3 + (2 : Int32)).toNatClampNeg)) = F := ⟨_, rfl⟩
  try rw [eF1] at er
  try rw [eF1] at hp
  try rw [eF1]
  try rw [eF1] at z0_h1
  try rw [eF1] at z1_h1
  try rw [eF1] at z2_h1
  try rw [eF1] at z3_h1
  have k_g_h1 : hAt h1 g = some (gpC (g + 1) (g + 3) (g + 18) (g + 33) (g + 34) (g + 37) s) := (g_h1.2 g (nt_X4_soon_0 g)).trans k_g
  have k_g1_h1 : hAt h1 (g + 1) = some (txC (g + 2) x) := (g_h1.2 (g + 1) (nt_X4_soon_1 g)).trans k_g1
  have k_g2_h1 : hAt h1 (g + 2) = some (arC 240 lf) := (g_h1.2 (g + 2) (nt_X4_soon_2 g)).trans k_g2
  have k_g3_h1 : nk h1 (g + 3) r t W LF KF := nk_fr (fun q u1 u2 => g_h1.2 q (nt_X4_soon_r3 g q u1 u2)) k_g3
  have k_g18_h1 : nk h1 (g + 18) dr dt DW DL DK := nk_fr (fun q u1 u2 => g_h1.2 q (nt_X4_soon_r18 g q u1 u2)) k_g18
  have k_g33_h1 : hAt h1 (g + 33) = some (arR 2 4 (fun j => some ((g + 38) + 15 * j))) := (g_h1.2 (g + 33) (nt_X4_soon_33 g)).trans k_g33
  have k_g38_h1 : ek h1 (g + 38) ER ET EW EL EK := ek_fr (fun q u1 u2 => g_h1.2 q (nt_X4_soon_r38 g q u1 u2)) k_g38
  have k_g34_h1 : hAt h1 (g + 34) = some (waC (g + 35) (g + 36) F1.2.1) := z0_h1
  have k_g35_h1 : hAt h1 (g + 35) = some (arI 6 F1.2.2.1) := z1_h1
  have k_g36_h1 : hAt h1 (g + 36) = some (arI 6 F1.2.2.2.1) := z2_h1
  have k_g37_h1 : hAt h1 (g + 37) = some (ruC F1.2.2.2.2) := z3_h1
  have k_g98_h1 : hAt h1 (g + 98) = some (moC (g + 99) (g + 100) (g + 101) (g + 102) (g + 103) m) := (g_h1.2 (g + 98) (nt_X4_soon_98 g)).trans k_g98
  have k_g99_h1 : hAt h1 (g + 99) = some (arI 103 tn) := (g_h1.2 (g + 99) (nt_X4_soon_99 g)).trans k_g99
  have k_g100_h1 : hAt h1 (g + 100) = some (arI 103 tr_) := (g_h1.2 (g + 100) (nt_X4_soon_100 g)).trans k_g100
  have k_g101_h1 : hAt h1 (g + 101) = some (arI 103 ts) := (g_h1.2 (g + 101) (nt_X4_soon_101 g)).trans k_g101
  have k_g102_h1 : hAt h1 (g + 102) = some (arI 412 tp) := (g_h1.2 (g + 102) (nt_X4_soon_102 g)).trans k_g102
  have k_g103_h1 : hAt h1 (g + 103) = some (arI 240 tx) := (g_h1.2 (g + 103) (nt_X4_soon_103 g)).trans k_g103
  refine x_aload_n (pc := 670) dL_law_670 rfl ?_
  refine x_aload_n (pc := 671) dL_law_671 rfl ?_
  refine x_iload_n (pc := 672) dL_law_672 rfl ?_
  refine x_iconst (pc := 673) (v := (1 : Int32)) dL_law_673 (by decide) ?_
  refine x_iadd (pc := 674) dL_law_674 ?_
  obtain ⟨q675, hp⟩ := hp
  refine x_sldE (pc := 675) dL_law_675 ex eL q675 (j := ((v3 + (1 : Int32)).toNatClampNeg)) rfl ?_
  refine x_aload_n (pc := 676) dL_law_676 rfl ?_
  refine x_iload_n (pc := 677) dL_law_677 rfl ?_
  refine x_iconst (pc := 678) (v := (2 : Int32)) dL_law_678 (by decide) ?_
  refine x_iadd (pc := 679) dL_law_679 ?_
  obtain ⟨q680, hp⟩ := hp
  refine x_sldE (pc := 680) dL_law_680 ex eL q680 (j := ((v3 + (2 : Int32)).toNatClampNeg)) rfl ?_
  obtain ⟨q681, hp⟩ := hp
  refine x_cV2i (pc := 681) dL_law_681 xl_L_92 xv_X5_soon k_g98_h1 rfl (C_X5_soon G _ (g + 98) (g + 99) (g + 100) (g + 101) (g + 102) (g + 103) m tn ts (xs ((v3 + (1 : Int32)).toNatClampNeg)) (xs ((v3 + (2 : Int32)).toNatClampNeg)) k_g98_h1 k_g99_h1 k_g101_h1 (cNe rfl) q681) rfl rfl rfl ?_
  obtain ⟨F2, eF2⟩ : ∃ F, f_X5_soon m tn ts (xs ((v3 + (1 : Int32)).toNatClampNeg)) (xs ((v3 + (2 : Int32)).toNatClampNeg)) = F := ⟨_, rfl⟩
  rw [eF2]
  try rw [eF2] at er
  try rw [eF2] at hp
  obtain ⟨h2, eh2⟩ : ∃ z, z = hSet h1 (g + 98) (moC (g + 99) (g + 100) (g + 101) (g + 102) (g + 103) F2.2.1) := ⟨_, rfl⟩
  rw [← eh2]
  have k_g_h2 : hAt h2 g = some (gpC (g + 1) (g + 3) (g + 18) (g + 33) (g + 34) (g + 37) s) := by rw [eh2]; exact hAt_n (cNeL rfl) k_g_h1
  have k_g1_h2 : hAt h2 (g + 1) = some (txC (g + 2) x) := by rw [eh2]; exact hAt_n (cNe rfl) k_g1_h1
  have k_g2_h2 : hAt h2 (g + 2) = some (arC 240 lf) := by rw [eh2]; exact hAt_n (cNe rfl) k_g2_h1
  have k_g3_h2 : nk h2 (g + 3) r t W LF KF := by rw [eh2]; exact nk_fr1 (cOut rfl) k_g3_h1
  have k_g18_h2 : nk h2 (g + 18) dr dt DW DL DK := by rw [eh2]; exact nk_fr1 (cOut rfl) k_g18_h1
  have k_g33_h2 : hAt h2 (g + 33) = some (arR 2 4 (fun j => some ((g + 38) + 15 * j))) := by rw [eh2]; exact hAt_n (cNe rfl) k_g33_h1
  have k_g38_h2 : ek h2 (g + 38) ER ET EW EL EK := by rw [eh2]; exact ek_fr1 (cOutE rfl) k_g38_h1
  have k_g34_h2 : hAt h2 (g + 34) = some (waC (g + 35) (g + 36) F1.2.1) := by rw [eh2]; exact hAt_n (cNe rfl) k_g34_h1
  have k_g35_h2 : hAt h2 (g + 35) = some (arI 6 F1.2.2.1) := by rw [eh2]; exact hAt_n (cNe rfl) k_g35_h1
  have k_g36_h2 : hAt h2 (g + 36) = some (arI 6 F1.2.2.2.1) := by rw [eh2]; exact hAt_n (cNe rfl) k_g36_h1
  have k_g37_h2 : hAt h2 (g + 37) = some (ruC F1.2.2.2.2) := by rw [eh2]; exact hAt_n (cNe rfl) k_g37_h1
  have k_g98_h2 : hAt h2 (g + 98) = some (moC (g + 99) (g + 100) (g + 101) (g + 102) (g + 103) F2.2.1) := by rw [eh2]; exact hAt_same
  have k_g99_h2 : hAt h2 (g + 99) = some (arI 103 tn) := by rw [eh2]; exact hAt_n (cNe rfl) k_g99_h1
  have k_g100_h2 : hAt h2 (g + 100) = some (arI 103 tr_) := by rw [eh2]; exact hAt_n (cNe rfl) k_g100_h1
  have k_g101_h2 : hAt h2 (g + 101) = some (arI 103 ts) := by rw [eh2]; exact hAt_n (cNe rfl) k_g101_h1
  have k_g102_h2 : hAt h2 (g + 102) = some (arI 412 tp) := by rw [eh2]; exact hAt_n (cNe rfl) k_g102_h1
  have k_g103_h2 : hAt h2 (g + 103) = some (arI 240 tx) := by rw [eh2]; exact hAt_n (cNe rfl) k_g103_h1
  obtain ⟨h3, eh3⟩ : ∃ z, z = hSet h2 (g + 101) (arI 103 F2.2.2) := ⟨_, rfl⟩
  rw [← eh3]
  have k_g_h3 : hAt h3 g = some (gpC (g + 1) (g + 3) (g + 18) (g + 33) (g + 34) (g + 37) s) := by rw [eh3]; exact hAt_n (cNeL rfl) k_g_h2
  have k_g1_h3 : hAt h3 (g + 1) = some (txC (g + 2) x) := by rw [eh3]; exact hAt_n (cNe rfl) k_g1_h2
  have k_g2_h3 : hAt h3 (g + 2) = some (arC 240 lf) := by rw [eh3]; exact hAt_n (cNe rfl) k_g2_h2
  have k_g3_h3 : nk h3 (g + 3) r t W LF KF := by rw [eh3]; exact nk_fr1 (cOut rfl) k_g3_h2
  have k_g18_h3 : nk h3 (g + 18) dr dt DW DL DK := by rw [eh3]; exact nk_fr1 (cOut rfl) k_g18_h2
  have k_g33_h3 : hAt h3 (g + 33) = some (arR 2 4 (fun j => some ((g + 38) + 15 * j))) := by rw [eh3]; exact hAt_n (cNe rfl) k_g33_h2
  have k_g38_h3 : ek h3 (g + 38) ER ET EW EL EK := by rw [eh3]; exact ek_fr1 (cOutE rfl) k_g38_h2
  have k_g34_h3 : hAt h3 (g + 34) = some (waC (g + 35) (g + 36) F1.2.1) := by rw [eh3]; exact hAt_n (cNe rfl) k_g34_h2
  have k_g35_h3 : hAt h3 (g + 35) = some (arI 6 F1.2.2.1) := by rw [eh3]; exact hAt_n (cNe rfl) k_g35_h2
  have k_g36_h3 : hAt h3 (g + 36) = some (arI 6 F1.2.2.2.1) := by rw [eh3]; exact hAt_n (cNe rfl) k_g36_h2
  have k_g37_h3 : hAt h3 (g + 37) = some (ruC F1.2.2.2.2) := by rw [eh3]; exact hAt_n (cNe rfl) k_g37_h2
  have k_g98_h3 : hAt h3 (g + 98) = some (moC (g + 99) (g + 100) (g + 101) (g + 102) (g + 103) F2.2.1) := by rw [eh3]; exact hAt_n (cNe rfl) k_g98_h2
  have k_g99_h3 : hAt h3 (g + 99) = some (arI 103 tn) := by rw [eh3]; exact hAt_n (cNe rfl) k_g99_h2
  have k_g100_h3 : hAt h3 (g + 100) = some (arI 103 tr_) := by rw [eh3]; exact hAt_n (cNe rfl) k_g100_h2
  have k_g101_h3 : hAt h3 (g + 101) = some (arI 103 F2.2.2) := by rw [eh3]; exact hAt_same
  have k_g102_h3 : hAt h3 (g + 102) = some (arI 412 tp) := by rw [eh3]; exact hAt_n (cNe rfl) k_g102_h2
  have k_g103_h3 : hAt h3 (g + 103) = some (arI 240 tx) := by rw [eh3]; exact hAt_n (cNe rfl) k_g103_h2
  refine x_icmp_eq (pc := 684) (tgt := 735) dL_law_684 (by decide) (fun (c1 : F1.1 = F2.1) => ?_) (fun (c1 : ¬ (F1.1 = F2.1)) => ?_)
  · replace hp := hp.1 c1
    rw [if_pos c1] at er
    subst er
    exact kk h3 k_g_h3 k_g1_h3 k_g2_h3 k_g3_h3 k_g18_h3 k_g33_h3 k_g38_h3 k_g34_h3 k_g35_h3 k_g36_h3 k_g37_h3 k_g98_h3 k_g99_h3 k_g100_h3 k_g101_h3 k_g102_h3 k_g103_h3
  · replace hp := hp.2 c1
    rw [if_neg c1] at er
    refine x_iconst (pc := 687) (v := (0 : Int32)) dL_law_687 (by decide) ?_
    exact hp.elim

def f_law_best (xs : (Nat → Int32)) (s : (Nat → Int32)) (x : (Nat → Int32)) (lf : (Nat → Int32)) (r : (Nat → Int32)) (t : (Nat → Int32)) (W : (Nat → Nat → Int32)) (LF : (Nat → Nat → Int32)) (KF : (Nat → Nat → Int32)) (dr : (Nat → Int32)) (dt : (Nat → Int32)) (DW : (Nat → Nat → Int32)) (DL : (Nat → Nat → Int32)) (DK : (Nat → Nat → Int32)) (ER : (Nat → Nat → Int32)) (ET : (Nat → Nat → Int32)) (EW : (Nat → Nat → Nat → Int32)) (EL : (Nat → Nat → Nat → Int32)) (EK : (Nat → Nat → Nat → Int32)) (tw : (Nat → Int32)) (tl : (Nat → Int32)) (tk : (Nat → Int32)) (tu : (Nat → Int32)) (m : (Nat → Int32)) (tn : (Nat → Int32)) (tr_ : (Nat → Int32)) (ts : (Nat → Int32)) (tp : (Nat → Int32)) (tx : (Nat → Int32)) (Ls : Nat) (v3 : Int32) : (Nat → Int32) × (Nat → Int32) × (Nat → Int32) × (Nat → Int32) × (Nat → Int32) × (Nat → Int32) := (if (f_X4_best s r t W LF KF tw tl tk tu (xs ((v3 + (1 : Int32)).toNatClampNeg))).1 = (f_X5_best m tn ts (xs ((v3 + (1 : Int32)).toNatClampNeg))).1 then ((f_X4_best s r t W LF KF tw tl tk tu (xs ((v3 + (1 : Int32)).toNatClampNeg))).2.1, (f_X4_best s r t W LF KF tw tl tk tu (xs ((v3 + (1 : Int32)).toNatClampNeg))).2.2.1, (f_X4_best s r t W LF KF tw tl tk tu (xs ((v3 + (1 : Int32)).toNatClampNeg))).2.2.2.1, (f_X4_best s r t W LF KF tw tl tk tu (xs ((v3 + (1 : Int32)).toNatClampNeg))).2.2.2.2, (f_X5_best m tn ts (xs ((v3 + (1 : Int32)).toNatClampNeg))).2.1, (f_X5_best m tn ts (xs ((v3 + (1 : Int32)).toNatClampNeg))).2.2) else ((fun _ => 0), (fun _ => 0), (fun _ => 0), (fun _ => 0), (fun _ => 0), (fun _ => 0)))
def p_law_best (xs : (Nat → Int32)) (s : (Nat → Int32)) (x : (Nat → Int32)) (lf : (Nat → Int32)) (r : (Nat → Int32)) (t : (Nat → Int32)) (W : (Nat → Nat → Int32)) (LF : (Nat → Nat → Int32)) (KF : (Nat → Nat → Int32)) (dr : (Nat → Int32)) (dt : (Nat → Int32)) (DW : (Nat → Nat → Int32)) (DL : (Nat → Nat → Int32)) (DK : (Nat → Nat → Int32)) (ER : (Nat → Nat → Int32)) (ET : (Nat → Nat → Int32)) (EW : (Nat → Nat → Nat → Int32)) (EL : (Nat → Nat → Nat → Int32)) (EK : (Nat → Nat → Nat → Int32)) (tw : (Nat → Int32)) (tl : (Nat → Int32)) (tk : (Nat → Int32)) (tu : (Nat → Int32)) (m : (Nat → Int32)) (tn : (Nat → Int32)) (tr_ : (Nat → Int32)) (ts : (Nat → Int32)) (tp : (Nat → Int32)) (tx : (Nat → Int32)) (Ls : Nat) (v3 : Int32) : Prop := (vp_in (v3 + (1 : Int32)) Ls ∧ (p_X4_best s r t W LF KF tw tl tk tu (xs ((v3 + (1 : Int32)).toNatClampNeg)) ∧ (vp_in (v3 + (1 : Int32)) Ls ∧ (p_X5_best m tn ts (xs ((v3 + (1 : Int32)).toNatClampNeg)) ∧ (((f_X4_best s r t W LF KF tw tl tk tu (xs ((v3 + (1 : Int32)).toNatClampNeg))).1 = (f_X5_best m tn ts (xs ((v3 + (1 : Int32)).toNatClampNeg))).1 → True) ∧ (¬ ((f_X4_best s r t W LF KF tw tl tk tu (xs ((v3 + (1 : Int32)).toNatClampNeg))).1 = (f_X5_best m tn ts (xs ((v3 + (1 : Int32)).toNatClampNeg))).1) → False))))))
set_option maxRecDepth 100000 in
set_option maxHeartbeats 4000000 in
theorem K_law_best (G : xG) (h : xH) (nm : String) (g : Nat) (xs : (Nat → Int32)) (s : (Nat → Int32)) (x : (Nat → Int32)) (lf : (Nat → Int32)) (r : (Nat → Int32)) (t : (Nat → Int32)) (W : (Nat → Nat → Int32)) (LF : (Nat → Nat → Int32)) (KF : (Nat → Nat → Int32)) (dr : (Nat → Int32)) (dt : (Nat → Int32)) (DW : (Nat → Nat → Int32)) (DL : (Nat → Nat → Int32)) (DK : (Nat → Nat → Int32)) (ER : (Nat → Nat → Int32)) (ET : (Nat → Nat → Int32)) (EW : (Nat → Nat → Nat → Int32)) (EL : (Nat → Nat → Nat → Int32)) (EK : (Nat → Nat → Nat → Int32)) (tw : (Nat → Int32)) (tl : (Nat → Int32)) (tk : (Nat → Int32)) (tu : (Nat → Int32)) (m : (Nat → Int32)) (tn : (Nat → Int32)) (tr_ : (Nat → Int32)) (ts : (Nat → Int32)) (tp : (Nat → Int32)) (tx : (Nat → Int32)) (Ls : Nat) (v3 : Int32) (k_g : hAt h g = some (gpC (g + 1) (g + 3) (g + 18) (g + 33) (g + 34) (g + 37) s)) (k_g1 : hAt h (g + 1) = some (txC (g + 2) x)) (k_g2 : hAt h (g + 2) = some (arC 240 lf)) (k_g3 : nk h (g + 3) r t W LF KF) (k_g18 : nk h (g + 18) dr dt DW DL DK) (k_g33 : hAt h (g + 33) = some (arR 2 4 (fun j => some ((g + 38) + 15 * j)))) (k_g38 : ek h (g + 38) ER ET EW EL EK) (k_g34 : hAt h (g + 34) = some (waC (g + 35) (g + 36) tw)) (k_g35 : hAt h (g + 35) = some (arI 6 tl)) (k_g36 : hAt h (g + 36) = some (arI 6 tk)) (k_g37 : hAt h (g + 37) = some (ruC tu)) (k_g98 : hAt h (g + 98) = some (moC (g + 99) (g + 100) (g + 101) (g + 102) (g + 103) m)) (k_g99 : hAt h (g + 99) = some (arI 103 tn)) (k_g100 : hAt h (g + 100) = some (arI 103 tr_)) (k_g101 : hAt h (g + 101) = some (arI 103 ts)) (k_g102 : hAt h (g + 102) = some (arI 412 tp)) (k_g103 : hAt h (g + 103) = some (arI 240 tx)) (ex : xg_x G = xs) (eL : xg_L G = Ls) (hp : p_law_best xs s x lf r t W LF KF dr dt DW DL DK ER ET EW EL EK tw tl tk tu m tn tr_ ts tp tx Ls v3) (kk : ∀ h2 : xH, hAt h2 g = some (gpC (g + 1) (g + 3) (g + 18) (g + 33) (g + 34) (g + 37) s) → hAt h2 (g + 1) = some (txC (g + 2) x) → hAt h2 (g + 2) = some (arC 240 lf) → nk h2 (g + 3) r t W LF KF → nk h2 (g + 18) dr dt DW DL DK → hAt h2 (g + 33) = some (arR 2 4 (fun j => some ((g + 38) + 15 * j))) → ek h2 (g + 38) ER ET EW EL EK → hAt h2 (g + 34) = some (waC (g + 35) (g + 36) (f_law_best xs s x lf r t W LF KF dr dt DW DL DK ER ET EW EL EK tw tl tk tu m tn tr_ ts tp tx Ls v3).1) → hAt h2 (g + 35) = some (arI 6 (f_law_best xs s x lf r t W LF KF dr dt DW DL DK ER ET EW EL EK tw tl tk tu m tn tr_ ts tp tx Ls v3).2.1) → hAt h2 (g + 36) = some (arI 6 (f_law_best xs s x lf r t W LF KF dr dt DW DL DK ER ET EW EL EK tw tl tk tu m tn tr_ ts tp tx Ls v3).2.2.1) → hAt h2 (g + 37) = some (ruC (f_law_best xs s x lf r t W LF KF dr dt DW DL DK ER ET EW EL EK tw tl tk tu m tn tr_ ts tp tx Ls v3).2.2.2.1) → hAt h2 (g + 98) = some (moC (g + 99) (g + 100) (g + 101) (g + 102) (g + 103) (f_law_best xs s x lf r t W LF KF dr dt DW DL DK ER ET EW EL EK tw tl tk tu m tn tr_ ts tp tx Ls v3).2.2.2.2.1) → hAt h2 (g + 99) = some (arI 103 tn) → hAt h2 (g + 100) = some (arI 103 tr_) → hAt h2 (g + 101) = some (arI 103 (f_law_best xs s x lf r t W LF KF dr dt DW DL DK ER ET EW EL EK tw tl tk tu m tn tr_ ts tp tx Ls v3).2.2.2.2.2) → hAt h2 (g + 102) = some (arI 412 tp) → hAt h2 (g + 103) = some (arI 240 tx) → Wp G RL code 4 nm ret room_1 (lwZ G) 104 1984 735 [(3, .int v3), (2, .ref (g + 98)), (1, .ref g), (0, .ref (xg_b G))] [] h2) : Wp G RL code 4 nm ret room_1 (lwZ G) 104 1984 689 [(3, .int v3), (2, .ref (g + 98)), (1, .ref g), (0, .ref (xg_b G))] [] h := by
  obtain ⟨R, er⟩ : ∃ R, f_law_best xs s x lf r t W LF KF dr dt DW DL DK ER ET EW EL EK tw tl tk tu m tn tr_ ts tp tx Ls v3 = R := ⟨_, rfl⟩
  rw [er] at kk
  unfold f_law_best at er
  unfold p_law_best at hp
  refine x_aload_n (pc := 689) dL_law_689 rfl ?_
  refine x_aload_n (pc := 690) dL_law_690 rfl ?_
  refine x_iload_n (pc := 691) dL_law_691 rfl ?_
  refine x_iconst (pc := 692) (v := (1 : Int32)) dL_law_692 (by decide) ?_
  refine x_iadd (pc := 693) dL_law_693 ?_
  obtain ⟨q694, hp⟩ := hp
  refine x_sldE (pc := 694) dL_law_694 ex eL q694 (j := ((v3 + (1 : Int32)).toNatClampNeg)) rfl ?_
  obtain ⟨q695, hp⟩ := hp
  refine x_cVQ (pc := 695) (As := [.int (xs ((v3 + (1 : Int32)).toNatClampNeg))]) (rest := []) dL_law_695 xl_L_93 xv_X4_best k_g rfl rfl rfl rfl rfl rfl (C_X4_best G _ g s r t W LF KF tw tl tk tu (xs ((v3 + (1 : Int32)).toNatClampNeg)) k_g k_g3 k_g34 k_g35 k_g36 k_g37 q695) (fun v h1 hq => ?_)
  obtain ⟨ev, z0_h1, z1_h1, z2_h1, z3_h1, g_h1⟩ := hq
  subst ev
  refine Wp.eqs (L' := [(3, .int v3), (2, .ref (g + 98)), (1, .ref g), (0, .ref (xg_b G))]) (st' := [.int (f_X4_best s r t W LF KF tw tl tk tu (xs ((v3 + (1 : Int32)).toNatClampNeg))).1]) rfl rfl ?_
  obtain ⟨F1, eF1⟩ : ∃ F, f_X4_best s r t W LF KF tw tl tk tu (xs ((v3 + (1 : Int32)).toNatClampNeg)) = F := ⟨_, rfl⟩
  try rw [eF1] at er
  try rw [eF1] at hp
  try rw [eF1]
  try rw [eF1] at z0_h1
  try rw [eF1] at z1_h1
  try rw [eF1] at z2_h1
  try rw [eF1] at z3_h1
  have k_g_h1 : hAt h1 g = some (gpC (g + 1) (g + 3) (g + 18) (g + 33) (g + 34) (g + 37) s) := (g_h1.2 g (nt_X4_best_0 g)).trans k_g
  have k_g1_h1 : hAt h1 (g + 1) = some (txC (g + 2) x) := (g_h1.2 (g + 1) (nt_X4_best_1 g)).trans k_g1
  have k_g2_h1 : hAt h1 (g + 2) = some (arC 240 lf) := (g_h1.2 (g + 2) (nt_X4_best_2 g)).trans k_g2
  have k_g3_h1 : nk h1 (g + 3) r t W LF KF := nk_fr (fun q u1 u2 => g_h1.2 q (nt_X4_best_r3 g q u1 u2)) k_g3
  have k_g18_h1 : nk h1 (g + 18) dr dt DW DL DK := nk_fr (fun q u1 u2 => g_h1.2 q (nt_X4_best_r18 g q u1 u2)) k_g18
  have k_g33_h1 : hAt h1 (g + 33) = some (arR 2 4 (fun j => some ((g + 38) + 15 * j))) := (g_h1.2 (g + 33) (nt_X4_best_33 g)).trans k_g33
  have k_g38_h1 : ek h1 (g + 38) ER ET EW EL EK := ek_fr (fun q u1 u2 => g_h1.2 q (nt_X4_best_r38 g q u1 u2)) k_g38
  have k_g34_h1 : hAt h1 (g + 34) = some (waC (g + 35) (g + 36) F1.2.1) := z0_h1
  have k_g35_h1 : hAt h1 (g + 35) = some (arI 6 F1.2.2.1) := z1_h1
  have k_g36_h1 : hAt h1 (g + 36) = some (arI 6 F1.2.2.2.1) := z2_h1
  have k_g37_h1 : hAt h1 (g + 37) = some (ruC F1.2.2.2.2) := z3_h1
  have k_g98_h1 : hAt h1 (g + 98) = some (moC (g + 99) (g + 100) (g + 101) (g + 102) (g + 103) m) := (g_h1.2 (g + 98) (nt_X4_best_98 g)).trans k_g98
  have k_g99_h1 : hAt h1 (g + 99) = some (arI 103 tn) := (g_h1.2 (g + 99) (nt_X4_best_99 g)).trans k_g99
  have k_g100_h1 : hAt h1 (g + 100) = some (arI 103 tr_) := (g_h1.2 (g + 100) (nt_X4_best_100 g)).trans k_g100
  have k_g101_h1 : hAt h1 (g + 101) = some (arI 103 ts) := (g_h1.2 (g + 101) (nt_X4_best_101 g)).trans k_g101
  have k_g102_h1 : hAt h1 (g + 102) = some (arI 412 tp) := (g_h1.2 (g + 102) (nt_X4_best_102 g)).trans k_g102
  have k_g103_h1 : hAt h1 (g + 103) = some (arI 240 tx) := (g_h1.2 (g + 103) (nt_X4_best_103 g)).trans k_g103
  refine x_aload_n (pc := 698) dL_law_698 rfl ?_
  refine x_aload_n (pc := 699) dL_law_699 rfl ?_
  refine x_iload_n (pc := 700) dL_law_700 rfl ?_
  refine x_iconst (pc := 701) (v := (1 : Int32)) dL_law_701 (by decide) ?_
  refine x_iadd (pc := 702) dL_law_702 ?_
  obtain ⟨q703, hp⟩ := hp
  refine x_sldE (pc := 703) dL_law_703 ex eL q703 (j := ((v3 + (1 : Int32)).toNatClampNeg)) rfl ?_
  obtain ⟨q704, hp⟩ := hp
  refine x_cV1i (pc := 704) dL_law_704 xl_L_96 xv_X5_best k_g98_h1 rfl (C_X5_best G _ (g + 98) (g + 99) (g + 100) (g + 101) (g + 102) (g + 103) m tn ts (xs ((v3 + (1 : Int32)).toNatClampNeg)) k_g98_h1 k_g99_h1 k_g101_h1 (cNe rfl) q704) rfl rfl rfl ?_
  obtain ⟨F2, eF2⟩ : ∃ F, f_X5_best m tn ts (xs ((v3 + (1 : Int32)).toNatClampNeg)) = F := ⟨_, rfl⟩
  rw [eF2]
  try rw [eF2] at er
  try rw [eF2] at hp
  obtain ⟨h2, eh2⟩ : ∃ z, z = hSet h1 (g + 98) (moC (g + 99) (g + 100) (g + 101) (g + 102) (g + 103) F2.2.1) := ⟨_, rfl⟩
  rw [← eh2]
  have k_g_h2 : hAt h2 g = some (gpC (g + 1) (g + 3) (g + 18) (g + 33) (g + 34) (g + 37) s) := by rw [eh2]; exact hAt_n (cNeL rfl) k_g_h1
  have k_g1_h2 : hAt h2 (g + 1) = some (txC (g + 2) x) := by rw [eh2]; exact hAt_n (cNe rfl) k_g1_h1
  have k_g2_h2 : hAt h2 (g + 2) = some (arC 240 lf) := by rw [eh2]; exact hAt_n (cNe rfl) k_g2_h1
  have k_g3_h2 : nk h2 (g + 3) r t W LF KF := by rw [eh2]; exact nk_fr1 (cOut rfl) k_g3_h1
  have k_g18_h2 : nk h2 (g + 18) dr dt DW DL DK := by rw [eh2]; exact nk_fr1 (cOut rfl) k_g18_h1
  have k_g33_h2 : hAt h2 (g + 33) = some (arR 2 4 (fun j => some ((g + 38) + 15 * j))) := by rw [eh2]; exact hAt_n (cNe rfl) k_g33_h1
  have k_g38_h2 : ek h2 (g + 38) ER ET EW EL EK := by rw [eh2]; exact ek_fr1 (cOutE rfl) k_g38_h1
  have k_g34_h2 : hAt h2 (g + 34) = some (waC (g + 35) (g + 36) F1.2.1) := by rw [eh2]; exact hAt_n (cNe rfl) k_g34_h1
  have k_g35_h2 : hAt h2 (g + 35) = some (arI 6 F1.2.2.1) := by rw [eh2]; exact hAt_n (cNe rfl) k_g35_h1
  have k_g36_h2 : hAt h2 (g + 36) = some (arI 6 F1.2.2.2.1) := by rw [eh2]; exact hAt_n (cNe rfl) k_g36_h1
  have k_g37_h2 : hAt h2 (g + 37) = some (ruC F1.2.2.2.2) := by rw [eh2]; exact hAt_n (cNe rfl) k_g37_h1
  have k_g98_h2 : hAt h2 (g + 98) = some (moC (g + 99) (g + 100) (g + 101) (g + 102) (g + 103) F2.2.1) := by rw [eh2]; exact hAt_same
  have k_g99_h2 : hAt h2 (g + 99) = some (arI 103 tn) := by rw [eh2]; exact hAt_n (cNe rfl) k_g99_h1
  have k_g100_h2 : hAt h2 (g + 100) = some (arI 103 tr_) := by rw [eh2]; exact hAt_n (cNe rfl) k_g100_h1
  have k_g101_h2 : hAt h2 (g + 101) = some (arI 103 ts) := by rw [eh2]; exact hAt_n (cNe rfl) k_g101_h1
  have k_g102_h2 : hAt h2 (g + 102) = some (arI 412 tp) := by rw [eh2]; exact hAt_n (cNe rfl) k_g102_h1
  have k_g103_h2 : hAt h2 (g + 103) = some (arI 240 tx) := by rw [eh2]; exact hAt_n (cNe rfl) k_g103_h1
  obtain ⟨h3, eh3⟩ : ∃ z, z = hSet h2 (g + 101) (arI 103 F2.2.2) := ⟨_, rfl⟩
  rw [← eh3]
  have k_g_h3 : hAt h3 g = some (gpC (g + 1) (g + 3) (g + 18) (g + 33) (g + 34) (g + 37) s) := by rw [eh3]; exact hAt_n (cNeL rfl) k_g_h2
  have k_g1_h3 : hAt h3 (g + 1) = some (txC (g + 2) x) := by rw [eh3]; exact hAt_n (cNe rfl) k_g1_h2
  have k_g2_h3 : hAt h3 (g + 2) = some (arC 240 lf) := by rw [eh3]; exact hAt_n (cNe rfl) k_g2_h2
  have k_g3_h3 : nk h3 (g + 3) r t W LF KF := by rw [eh3]; exact nk_fr1 (cOut rfl) k_g3_h2
  have k_g18_h3 : nk h3 (g + 18) dr dt DW DL DK := by rw [eh3]; exact nk_fr1 (cOut rfl) k_g18_h2
  have k_g33_h3 : hAt h3 (g + 33) = some (arR 2 4 (fun j => some ((g + 38) + 15 * j))) := by rw [eh3]; exact hAt_n (cNe rfl) k_g33_h2
  have k_g38_h3 : ek h3 (g + 38) ER ET EW EL EK := by rw [eh3]; exact ek_fr1 (cOutE rfl) k_g38_h2
  have k_g34_h3 : hAt h3 (g + 34) = some (waC (g + 35) (g + 36) F1.2.1) := by rw [eh3]; exact hAt_n (cNe rfl) k_g34_h2
  have k_g35_h3 : hAt h3 (g + 35) = some (arI 6 F1.2.2.1) := by rw [eh3]; exact hAt_n (cNe rfl) k_g35_h2
  have k_g36_h3 : hAt h3 (g + 36) = some (arI 6 F1.2.2.2.1) := by rw [eh3]; exact hAt_n (cNe rfl) k_g36_h2
  have k_g37_h3 : hAt h3 (g + 37) = some (ruC F1.2.2.2.2) := by rw [eh3]; exact hAt_n (cNe rfl) k_g37_h2
  have k_g98_h3 : hAt h3 (g + 98) = some (moC (g + 99) (g + 100) (g + 101) (g + 102) (g + 103) F2.2.1) := by rw [eh3]; exact hAt_n (cNe rfl) k_g98_h2
  have k_g99_h3 : hAt h3 (g + 99) = some (arI 103 tn) := by rw [eh3]; exact hAt_n (cNe rfl) k_g99_h2
  have k_g100_h3 : hAt h3 (g + 100) = some (arI 103 tr_) := by rw [eh3]; exact hAt_n (cNe rfl) k_g100_h2
  have k_g101_h3 : hAt h3 (g + 101) = some (arI 103 F2.2.2) := by rw [eh3]; exact hAt_same
  have k_g102_h3 : hAt h3 (g + 102) = some (arI 412 tp) := by rw [eh3]; exact hAt_n (cNe rfl) k_g102_h2
  have k_g103_h3 : hAt h3 (g + 103) = some (arI 240 tx) := by rw [eh3]; exact hAt_n (cNe rfl) k_g103_h2
  refine x_icmp_eq (pc := 707) (tgt := 735) dL_law_707 (by decide) (fun (c1 : F1.1 = F2.1) => ?_) (fun (c1 : ¬ (F1.1 = F2.1)) => ?_)
  · replace hp := hp.1 c1
    rw [if_pos c1] at er
    subst er
    exact kk h3 k_g_h3 k_g1_h3 k_g2_h3 k_g3_h3 k_g18_h3 k_g33_h3 k_g38_h3 k_g34_h3 k_g35_h3 k_g36_h3 k_g37_h3 k_g98_h3 k_g99_h3 k_g100_h3 k_g101_h3 k_g102_h3 k_g103_h3
  · replace hp := hp.2 c1
    rw [if_neg c1] at er
    refine x_iconst (pc := 710) (v := (0 : Int32)) dL_law_710 (by decide) ?_
    exact hp.elim

def f_law_count (xs : (Nat → Int32)) (s : (Nat → Int32)) (x : (Nat → Int32)) (lf : (Nat → Int32)) (r : (Nat → Int32)) (t : (Nat → Int32)) (W : (Nat → Nat → Int32)) (LF : (Nat → Nat → Int32)) (KF : (Nat → Nat → Int32)) (dr : (Nat → Int32)) (dt : (Nat → Int32)) (DW : (Nat → Nat → Int32)) (DL : (Nat → Nat → Int32)) (DK : (Nat → Nat → Int32)) (ER : (Nat → Nat → Int32)) (ET : (Nat → Nat → Int32)) (EW : (Nat → Nat → Nat → Int32)) (EL : (Nat → Nat → Nat → Int32)) (EK : (Nat → Nat → Nat → Int32)) (tw : (Nat → Int32)) (tl : (Nat → Int32)) (tk : (Nat → Int32)) (tu : (Nat → Int32)) (m : (Nat → Int32)) (tn : (Nat → Int32)) (tr_ : (Nat → Int32)) (ts : (Nat → Int32)) (tp : (Nat → Int32)) (tx : (Nat → Int32)) (Ls : Nat) (v3 : Int32) : Unit := (if (f_X4_count s r t W LF KF x (xs ((v3 + (1 : Int32)).toNatClampNeg))) = (f_X5_count m tn (xs ((v3 + (1 : Int32)).toNatClampNeg))) then () else ())
def p_law_count (xs : (Nat → Int32)) (s : (Nat → Int32)) (x : (Nat → Int32)) (lf : (Nat → Int32)) (r : (Nat → Int32)) (t : (Nat → Int32)) (W : (Nat → Nat → Int32)) (LF : (Nat → Nat → Int32)) (KF : (Nat → Nat → Int32)) (dr : (Nat → Int32)) (dt : (Nat → Int32)) (DW : (Nat → Nat → Int32)) (DL : (Nat → Nat → Int32)) (DK : (Nat → Nat → Int32)) (ER : (Nat → Nat → Int32)) (ET : (Nat → Nat → Int32)) (EW : (Nat → Nat → Nat → Int32)) (EL : (Nat → Nat → Nat → Int32)) (EK : (Nat → Nat → Nat → Int32)) (tw : (Nat → Int32)) (tl : (Nat → Int32)) (tk : (Nat → Int32)) (tu : (Nat → Int32)) (m : (Nat → Int32)) (tn : (Nat → Int32)) (tr_ : (Nat → Int32)) (ts : (Nat → Int32)) (tp : (Nat → Int32)) (tx : (Nat → Int32)) (Ls : Nat) (v3 : Int32) : Prop := (vp_in (v3 + (1 : Int32)) Ls ∧ (p_X4_count s r t W LF KF x (xs ((v3 + (1 : Int32)).toNatClampNeg)) ∧ (vp_in (v3 + (1 : Int32)) Ls ∧ (p_X5_count m tn (xs ((v3 + (1 : Int32)).toNatClampNeg)) ∧ (((f_X4_count s r t W LF KF x (xs ((v3 + (1 : Int32)).toNatClampNeg))) = (f_X5_count m tn (xs ((v3 + (1 : Int32)).toNatClampNeg))) → True) ∧ (¬ ((f_X4_count s r t W LF KF x (xs ((v3 + (1 : Int32)).toNatClampNeg))) = (f_X5_count m tn (xs ((v3 + (1 : Int32)).toNatClampNeg)))) → False))))))
set_option maxRecDepth 100000 in
set_option maxHeartbeats 4000000 in
theorem K_law_count (G : xG) (h : xH) (nm : String) (g : Nat) (xs : (Nat → Int32)) (s : (Nat → Int32)) (x : (Nat → Int32)) (lf : (Nat → Int32)) (r : (Nat → Int32)) (t : (Nat → Int32)) (W : (Nat → Nat → Int32)) (LF : (Nat → Nat → Int32)) (KF : (Nat → Nat → Int32)) (dr : (Nat → Int32)) (dt : (Nat → Int32)) (DW : (Nat → Nat → Int32)) (DL : (Nat → Nat → Int32)) (DK : (Nat → Nat → Int32)) (ER : (Nat → Nat → Int32)) (ET : (Nat → Nat → Int32)) (EW : (Nat → Nat → Nat → Int32)) (EL : (Nat → Nat → Nat → Int32)) (EK : (Nat → Nat → Nat → Int32)) (tw : (Nat → Int32)) (tl : (Nat → Int32)) (tk : (Nat → Int32)) (tu : (Nat → Int32)) (m : (Nat → Int32)) (tn : (Nat → Int32)) (tr_ : (Nat → Int32)) (ts : (Nat → Int32)) (tp : (Nat → Int32)) (tx : (Nat → Int32)) (Ls : Nat) (v3 : Int32) (k_g : hAt h g = some (gpC (g + 1) (g + 3) (g + 18) (g + 33) (g + 34) (g + 37) s)) (k_g1 : hAt h (g + 1) = some (txC (g + 2) x)) (k_g2 : hAt h (g + 2) = some (arC 240 lf)) (k_g3 : nk h (g + 3) r t W LF KF) (k_g18 : nk h (g + 18) dr dt DW DL DK) (k_g33 : hAt h (g + 33) = some (arR 2 4 (fun j => some ((g + 38) + 15 * j)))) (k_g38 : ek h (g + 38) ER ET EW EL EK) (k_g34 : hAt h (g + 34) = some (waC (g + 35) (g + 36) tw)) (k_g35 : hAt h (g + 35) = some (arI 6 tl)) (k_g36 : hAt h (g + 36) = some (arI 6 tk)) (k_g37 : hAt h (g + 37) = some (ruC tu)) (k_g98 : hAt h (g + 98) = some (moC (g + 99) (g + 100) (g + 101) (g + 102) (g + 103) m)) (k_g99 : hAt h (g + 99) = some (arI 103 tn)) (k_g100 : hAt h (g + 100) = some (arI 103 tr_)) (k_g101 : hAt h (g + 101) = some (arI 103 ts)) (k_g102 : hAt h (g + 102) = some (arI 412 tp)) (k_g103 : hAt h (g + 103) = some (arI 240 tx)) (ex : xg_x G = xs) (eL : xg_L G = Ls) (hp : p_law_count xs s x lf r t W LF KF dr dt DW DL DK ER ET EW EL EK tw tl tk tu m tn tr_ ts tp tx Ls v3) (kk : ∀ h2 : xH, hAt h2 g = some (gpC (g + 1) (g + 3) (g + 18) (g + 33) (g + 34) (g + 37) s) → hAt h2 (g + 1) = some (txC (g + 2) x) → hAt h2 (g + 2) = some (arC 240 lf) → nk h2 (g + 3) r t W LF KF → nk h2 (g + 18) dr dt DW DL DK → hAt h2 (g + 33) = some (arR 2 4 (fun j => some ((g + 38) + 15 * j))) → ek h2 (g + 38) ER ET EW EL EK → hAt h2 (g + 34) = some (waC (g + 35) (g + 36) tw) → hAt h2 (g + 35) = some (arI 6 tl) → hAt h2 (g + 36) = some (arI 6 tk) → hAt h2 (g + 37) = some (ruC tu) → hAt h2 (g + 98) = some (moC (g + 99) (g + 100) (g + 101) (g + 102) (g + 103) m) → hAt h2 (g + 99) = some (arI 103 tn) → hAt h2 (g + 100) = some (arI 103 tr_) → hAt h2 (g + 101) = some (arI 103 ts) → hAt h2 (g + 102) = some (arI 412 tp) → hAt h2 (g + 103) = some (arI 240 tx) → Wp G RL code 4 nm ret room_1 (lwZ G) 104 1984 735 [(3, .int v3), (2, .ref (g + 98)), (1, .ref g), (0, .ref (xg_b G))] [] h2) : Wp G RL code 4 nm ret room_1 (lwZ G) 104 1984 712 [(3, .int v3), (2, .ref (g + 98)), (1, .ref g), (0, .ref (xg_b G))] [] h := by
  unfold p_law_count at hp
  refine x_aload_n (pc := 712) dL_law_712 rfl ?_
  refine x_aload_n (pc := 713) dL_law_713 rfl ?_
  refine x_iload_n (pc := 714) dL_law_714 rfl ?_
  refine x_iconst (pc := 715) (v := (1 : Int32)) dL_law_715 (by decide) ?_
  refine x_iadd (pc := 716) dL_law_716 ?_
  obtain ⟨q717, hp⟩ := hp
  refine x_sldE (pc := 717) dL_law_717 ex eL q717 (j := ((v3 + (1 : Int32)).toNatClampNeg)) rfl ?_
  obtain ⟨q718, hp⟩ := hp
  refine x_cV1i (pc := 718) dL_law_718 xl_L_97 xv_X4_count k_g rfl (C_X4_count G _ g s r t W LF KF x (xs ((v3 + (1 : Int32)).toNatClampNeg)) k_g k_g3 k_g1 q718) rfl rfl rfl ?_
  obtain ⟨F1, eF1⟩ : ∃ F, f_X4_count s r t W LF KF x (xs ((v3 + (1 : Int32)).toNatClampNeg)) = F := ⟨_, rfl⟩
  rw [eF1]
  try rw [eF1] at hp
  refine x_aload_n (pc := 721) dL_law_721 rfl ?_
  refine x_aload_n (pc := 722) dL_law_722 rfl ?_
  refine x_iload_n (pc := 723) dL_law_723 rfl ?_
  refine x_iconst (pc := 724) (v := (1 : Int32)) dL_law_724 (by decide) ?_
  refine x_iadd (pc := 725) dL_law_725 ?_
  obtain ⟨q726, hp⟩ := hp
  refine x_sldE (pc := 726) dL_law_726 ex eL q726 (j := ((v3 + (1 : Int32)).toNatClampNeg)) rfl ?_
  obtain ⟨q727, hp⟩ := hp
  refine x_cV1i (pc := 727) dL_law_727 xl_L_100 xv_X5_count k_g98 rfl (C_X5_count G _ (g + 98) (g + 99) (g + 100) (g + 101) (g + 102) (g + 103) m tn (xs ((v3 + (1 : Int32)).toNatClampNeg)) k_g98 k_g99 q727) rfl rfl rfl ?_
  obtain ⟨F2, eF2⟩ : ∃ F, f_X5_count m tn (xs ((v3 + (1 : Int32)).toNatClampNeg)) = F := ⟨_, rfl⟩
  rw [eF2]
  try rw [eF2] at hp
  refine x_icmp_eq (pc := 730) (tgt := 735) dL_law_730 (by decide) (fun (c1 : F1 = F2) => ?_) (fun (c1 : ¬ (F1 = F2)) => ?_)
  · replace hp := hp.1 c1
    exact kk h k_g k_g1 k_g2 k_g3 k_g18 k_g33 k_g38 k_g34 k_g35 k_g36 k_g37 k_g98 k_g99 k_g100 k_g101 k_g102 k_g103
  · replace hp := hp.2 c1
    refine x_iconst (pc := 733) (v := (0 : Int32)) dL_law_733 (by decide) ?_
    exact hp.elim
