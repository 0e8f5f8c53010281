/-! PURE. Part 39: the invariant, and that every call keeps it -/
def gInv (s : Nat → Int32) (x : Nat → Int32) (lf : Nat → Int32) (r : Nat → Int32) (t : Nat → Int32) (W : Nat → Nat → Int32) (LF : Nat → Nat → Int32) (KF : Nat → Nat → Int32) (dr : Nat → Int32) (dt : Nat → Int32) (DW : Nat → Nat → Int32) (DL : Nat → Nat → Int32) (DK : Nat → Nat → Int32) (ER : Nat → Nat → Int32) (ET : Nat → Nat → Int32) (EW : Nat → Nat → Nat → Int32) (EL : Nat → Nat → Nat → Int32) (EK : Nat → Nat → Nat → Int32) (tw : Nat → Int32) (tl : Nat → Int32) (tk : Nat → Int32) (tu : Nat → Int32) (m : Nat → Int32) (tn : Nat → Int32) (tr_ : Nat → Int32) (ts : Nat → Int32) (tp : Nat → Int32) (tx : Nat → Int32) : Prop := NR r t W LF KF tn ∧ UR s ER ET EW EL EK m tp ∧ TT x lf m tx
theorem ow_write : Ow_write gInv := by
  intro xs s x lf r t W LF KF dr dt DW DL DK ER ET EW EL EK tw tl tk tu m tn tr_ ts tp tx Ls v3 hI h1 h2 h3
  obtain ⟨hn, hu, ht⟩ := hI
  obtain ⟨p4, p5, a, x', lf', m', tx', e4, e5, ht', hm0⟩ := writeM (s := s) (l := (xs ((v3 + (1 : Int32)).toNatClampNeg))) ht
  have ee : (f_X4_write s x lf (xs ((v3 + (1 : Int32)).toNatClampNeg))).1 = (f_X5_write m tx (xs ((v3 + (1 : Int32)).toNatClampNeg))).1 := by rw [e4, e5]
  have el : f_law_write xs s x lf r t W LF KF dr dt DW DL DK ER ET EW EL EK tw tl tk tu m tn tr_ ts tp tx Ls v3 = (x', lf', m', tx') := by
    unfold f_law_write
    rw [if_pos ee, e4, e5]
  refine ⟨⟨h1, p4, h1, p5, fun _ => trivial, fun z => z ee⟩, ?_⟩
  rw [el]
  exact ⟨hn, UR.m hu hm0, ht'⟩
theorem ow_wipe : Ow_wipe gInv := by
  intro xs s x lf r t W LF KF dr dt DW DL DK ER ET EW EL EK tw tl tk tu m tn tr_ ts tp tx Ls v3 hI h1 h2 h3
  obtain ⟨hn, hu, ht⟩ := hI
  obtain ⟨a, x', m', e4, e5, ht', hm0⟩ := wipeM (s := s) ht
  have ee : (f_X4_wipe s x).1 = (f_X5_wipe m).1 := by rw [e4, e5]
  have el : f_law_wipe xs s x lf r t W LF KF dr dt DW DL DK ER ET EW EL EK tw tl tk tu m tn tr_ ts tp tx Ls v3 = (x', m') := by
    unfold f_law_wipe
    rw [if_pos ee, e4, e5]
  refine ⟨⟨fun _ => trivial, fun z => z ee⟩, ?_⟩
  rw [el]
  exact ⟨hn, UR.m hu hm0, ht'⟩
theorem ow_fault : Ow_fault gInv := by
  intro xs s x lf r t W LF KF dr dt DW DL DK ER ET EW EL EK tw tl tk tu m tn tr_ ts tp tx Ls v3 hI h1 h2 h3
  obtain ⟨hn, hu, ht⟩ := hI
  obtain ⟨p4, p5, a, x', dr', dt', DW', DL', DK', m', tr_', e4, e5, ht', hm0⟩ := faultM (s := s) (tr := tr_) (dr := dr) (dt := dt) (DW := DW) (DL := DL) (DK := DK) ht
  have ee : (f_X4_fault s x lf dr dt DW DL DK).1 = (f_X5_fault m tr_ tx).1 := by rw [e4, e5]
  have el : f_law_fault xs s x lf r t W LF KF dr dt DW DL DK ER ET EW EL EK tw tl tk tu m tn tr_ ts tp tx Ls v3 = (x', dr', dt', DW', DL', DK', m', tr_') := by
    unfold f_law_fault
    rw [if_pos ee, e4, e5]
  refine ⟨⟨p4, p5, fun _ => trivial, fun z => z ee⟩, ?_⟩
  rw [el]
  exact ⟨hn, UR.m hu hm0, ht'⟩
theorem ow_lay : Ow_lay gInv := by
  intro xs s x lf r t W LF KF dr dt DW DL DK ER ET EW EL EK tw tl tk tu m tn tr_ ts tp tx Ls v3 hI h1 h2 h3
  obtain ⟨hn, hu, ht⟩ := hI
  obtain ⟨p4, p5, a, s', x', r', t', W', LF', KF', dr', dt', DW', DL', DK', m', tn', tr_', e4, e5, hn', hu', ht'⟩ := layM (tr := tr_) (dr := dr) (dt := dt) (DW := DW) (DL := DL) (DK := DK) hn hu ht
  have ee : (f_X4_lay s x lf r t W LF KF dr dt DW DL DK).1 = (f_X5_lay m tn tr_ tx).1 := by rw [e4, e5]
  have el : f_law_lay xs s x lf r t W LF KF dr dt DW DL DK ER ET EW EL EK tw tl tk tu m tn tr_ ts tp tx Ls v3 = (s', x', r', t', W', LF', KF', dr', dt', DW', DL', DK', m', tn', tr_') := by
    unfold f_law_lay
    rw [if_pos ee, e4, e5]
  refine ⟨⟨p4, p5, fun _ => trivial, fun z => z ee⟩, ?_⟩
  rw [el]
  exact ⟨hn', hu', ht'⟩
theorem ow_tick : Ow_tick gInv := by
  intro xs s x lf r t W LF KF dr dt DW DL DK ER ET EW EL EK tw tl tk tu m tn tr_ ts tp tx Ls v3 hI h1 h2 h3
  obtain ⟨hn, hu, ht⟩ := hI
  obtain ⟨p4, p5, a, s', t', W', ER', ET', EW', EL', EK', m', tn', tp', e4, e5, hn', hu', hm1⟩ := tickM (nn := (xs ((v3 + (1 : Int32)).toNatClampNeg))) hn hu
  have ee : (f_X4_tick s r t W LF KF ER ET EW EL EK (xs ((v3 + (1 : Int32)).toNatClampNeg))).1 = (f_X5_tick m tn tp (xs ((v3 + (1 : Int32)).toNatClampNeg))).1 := by rw [e4, e5]
  have el : f_law_tick xs s x lf r t W LF KF dr dt DW DL DK ER ET EW EL EK tw tl tk tu m tn tr_ ts tp tx Ls v3 = (s', t', W', ER', ET', EW', EL', EK', m', tn', tp') := by
    unfold f_law_tick
    rw [if_pos ee, e4, e5]
  refine ⟨⟨h1, p4, h1, p5, fun _ => trivial, fun z => z ee⟩, ?_⟩
  rw [el]
  exact ⟨hn', hu', TT.xm ht rfl hm1⟩
theorem ow_send : Ow_send gInv := by
  intro xs s x lf r t W LF KF dr dt DW DL DK ER ET EW EL EK tw tl tk tu m tn tr_ ts tp tx Ls v3 hI h1 h2 h3
  obtain ⟨hn, hu, ht⟩ := hI
  obtain ⟨p4, p5, a, s', W', ER', ET', EW', EL', EK', m', tn', tp', e4, e5, hn', hu', hm1⟩ := sendM (i := (xs ((v3 + (1 : Int32)).toNatClampNeg))) (size := (xs ((v3 + (2 : Int32)).toNatClampNeg))) hn hu
  have ee : (f_X4_send s r t W LF KF ER ET EW EL EK (xs ((v3 + (1 : Int32)).toNatClampNeg)) (xs ((v3 + (2 : Int32)).toNatClampNeg))).1 = (f_X5_send m tn tp (xs ((v3 + (1 : Int32)).toNatClampNeg)) (xs ((v3 + (2 : Int32)).toNatClampNeg))).1 := by rw [e4, e5]
  have el : f_law_send xs s x lf r t W LF KF dr dt DW DL DK ER ET EW EL EK tw tl tk tu m tn tr_ ts tp tx Ls v3 = (s', W', ER', ET', EW', EL', EK', m', tn', tp') := by
    unfold f_law_send
    rw [if_pos ee, e4, e5]
  refine ⟨⟨h1, h2, p4, h1, h2, p5, fun _ => trivial, fun z => z ee⟩, ?_⟩
  rw [el]
  exact ⟨hn', hu', TT.xm ht rfl hm1⟩
theorem ow_limit : Ow_limit gInv := by
  intro xs s x lf r t W LF KF dr dt DW DL DK ER ET EW EL EK tw tl tk tu m tn tr_ ts tp tx Ls v3 hI h1 h2 h3
  obtain ⟨hn, hu, ht⟩ := hI
  obtain ⟨p4, p5, a, s', LF', ER', ET', EW', EL', EK', m', tn', tp', e4, e5, hn', hu', hm1⟩ := limitM (i := (xs ((v3 + (1 : Int32)).toNatClampNeg))) (hh := (xs ((v3 + (2 : Int32)).toNatClampNeg))) (l := (xs ((v3 + (3 : Int32)).toNatClampNeg))) hn hu
  have ee : (f_X4_limit s r t W LF KF ER ET EW EL EK (xs ((v3 + (1 : Int32)).toNatClampNeg)) (xs ((v3 + (2 : Int32)).toNatClampNeg)) (xs ((v3 + (3 : Int32)).toNatClampNeg))).1 = (f_X5_limit m tn tp (xs ((v3 + (1 : Int32)).toNatClampNeg)) (xs ((v3 + (2 : Int32)).toNatClampNeg)) (xs ((v3 + (3 : Int32)).toNatClampNeg))).1 := by rw [e4, e5]
  have el : f_law_limit xs s x lf r t W LF KF dr dt DW DL DK ER ET EW EL EK tw tl tk tu m tn tr_ ts tp tx Ls v3 = (s', LF', ER', ET', EW', EL', EK', m', tn', tp') := by
    unfold f_law_limit
    rw [if_pos ee, e4, e5]
  refine ⟨⟨h1, h2, h3, p4, h1, h2, h3, p5, fun _ => trivial, fun z => z ee⟩, ?_⟩
  rw [el]
  exact ⟨hn', hu', TT.xm ht rfl hm1⟩
theorem ow_kind : Ow_kind gInv := by
  intro xs s x lf r t W LF KF dr dt DW DL DK ER ET EW EL EK tw tl tk tu m tn tr_ ts tp tx Ls v3 hI h1 h2 h3
  obtain ⟨hn, hu, ht⟩ := hI
  obtain ⟨p4, p5, a, s', KF', ER', ET', EW', EL', EK', m', tn', tp', e4, e5, hn', hu', hm1⟩ := kindM (i := (xs ((v3 + (1 : Int32)).toNatClampNeg))) (hh := (xs ((v3 + (2 : Int32)).toNatClampNeg))) (k := (xs ((v3 + (3 : Int32)).toNatClampNeg))) hn hu
  have ee : (f_X4_kind s r t W LF KF ER ET EW EL EK (xs ((v3 + (1 : Int32)).toNatClampNeg)) (xs ((v3 + (2 : Int32)).toNatClampNeg)) (xs ((v3 + (3 : Int32)).toNatClampNeg))).1 = (f_X5_kind m tn tp (xs ((v3 + (1 : Int32)).toNatClampNeg)) (xs ((v3 + (2 : Int32)).toNatClampNeg)) (xs ((v3 + (3 : Int32)).toNatClampNeg))).1 := by rw [e4, e5]
  have el : f_law_kind xs s x lf r t W LF KF dr dt DW DL DK ER ET EW EL EK tw tl tk tu m tn tr_ ts tp tx Ls v3 = (s', KF', ER', ET', EW', EL', EK', m', tn', tp') := by
    unfold f_law_kind
    rw [if_pos ee, e4, e5]
  refine ⟨⟨h1, h2, h3, p4, h1, h2, h3, p5, fun _ => trivial, fun z => z ee⟩, ?_⟩
  rw [el]
  exact ⟨hn', hu', TT.xm ht rfl hm1⟩
theorem ow_loss : Ow_loss gInv := by
  intro xs s x lf r t W LF KF dr dt DW DL DK ER ET EW EL EK tw tl tk tu m tn tr_ ts tp tx Ls v3 hI h1 h2 h3
  obtain ⟨hn, hu, ht⟩ := hI
  obtain ⟨p4, p5, a, s', W', ER', ET', EW', EL', EK', m', tn', tp', e4, e5, hn', hu', hm1⟩ := lossM (i := (xs ((v3 + (1 : Int32)).toNatClampNeg))) (q := (xs ((v3 + (2 : Int32)).toNatClampNeg))) hn hu
  have ee : (f_X4_loss s r t W LF KF ER ET EW EL EK (xs ((v3 + (1 : Int32)).toNatClampNeg)) (xs ((v3 + (2 : Int32)).toNatClampNeg))).1 = (f_X5_loss m tn tp (xs ((v3 + (1 : Int32)).toNatClampNeg)) (xs ((v3 + (2 : Int32)).toNatClampNeg))).1 := by rw [e4, e5]
  have el : f_law_loss xs s x lf r t W LF KF dr dt DW DL DK ER ET EW EL EK tw tl tk tu m tn tr_ ts tp tx Ls v3 = (s', W', ER', ET', EW', EL', EK', m', tn', tp') := by
    unfold f_law_loss
    rw [if_pos ee, e4, e5]
  refine ⟨⟨h1, h2, p4, h1, h2, p5, fun _ => trivial, fun z => z ee⟩, ?_⟩
  rw [el]
  exact ⟨hn', hu', TT.xm ht rfl hm1⟩
theorem ow_believe : Ow_believe gInv := by
  intro xs s x lf r t W LF KF dr dt DW DL DK ER ET EW EL EK tw tl tk tu m tn tr_ ts tp tx Ls v3 hI h1 h2 h3
  obtain ⟨hn, hu, ht⟩ := hI
  obtain ⟨p4, p5, a, s', r', ER', ET', EW', EL', EK', m', tn', tp', e4, e5, hn', hu', hm1⟩ := believeM (b := (xs ((v3 + (1 : Int32)).toNatClampNeg))) hn hu
  have ee : (f_X4_believe s r t W LF KF ER ET EW EL EK (xs ((v3 + (1 : Int32)).toNatClampNeg))).1 = (f_X5_believe m tn tp (xs ((v3 + (1 : Int32)).toNatClampNeg))).1 := by rw [e4, e5]
  have el : f_law_believe xs s x lf r t W LF KF dr dt DW DL DK ER ET EW EL EK tw tl tk tu m tn tr_ ts tp tx Ls v3 = (s', r', ER', ET', EW', EL', EK', m', tn', tp') := by
    unfold f_law_believe
    rw [if_pos ee, e4, e5]
  refine ⟨⟨h1, p4, h1, p5, fun _ => trivial, fun z => z ee⟩, ?_⟩
  rw [el]
  exact ⟨hn', hu', TT.xm ht rfl hm1⟩
theorem ow_undo : Ow_undo gInv := by
  intro xs s x lf r t W LF KF dr dt DW DL DK ER ET EW EL EK tw tl tk tu m tn tr_ ts tp tx Ls v3 hI h1 h2 h3
  obtain ⟨hn, hu, ht⟩ := hI
  obtain ⟨p4, p5, a, s', r', t', W', LF', KF', m', tn', e4, e5, hn', hu', hm'⟩ := undoR hn hu
  have ee : (f_X4_undo s r t W LF KF ER ET EW EL EK).1 = (f_X5_undo m tn tp).1 := by rw [e4, e5]
  have el : f_law_undo xs s x lf r t W LF KF dr dt DW DL DK ER ET EW EL EK tw tl tk tu m tn tr_ ts tp tx Ls v3 = (s', r', t', W', LF', KF', m', tn') := by
    unfold f_law_undo
    rw [if_pos ee, e4, e5]
  refine ⟨⟨p4, p5, fun _ => trivial, fun z => z ee⟩, ?_⟩
  rw [el]
  exact ⟨hn', hu', TT.xm ht rfl (hm' 1 (by decide))⟩
theorem ow_ahead : Ow_ahead gInv := by
  intro xs s x lf r t W LF KF dr dt DW DL DK ER ET EW EL EK tw tl tk tu m tn tr_ ts tp tx Ls v3 hI h1 h2 h3
  obtain ⟨hn, hu, ht⟩ := hI
  obtain ⟨p4, p5, a, tw', tl', tk', tu', m', ts', e4, e5, hm'⟩ := aheadM (s := s) (m := m) (ts := ts) (tw := tw) (tl := tl) (tk := tk) (tu := tu) (nn := (xs ((v3 + (1 : Int32)).toNatClampNeg))) (i := (xs ((v3 + (2 : Int32)).toNatClampNeg))) (what := (xs ((v3 + (3 : Int32)).toNatClampNeg))) hn
  have ee : (f_X4_ahead s r t W LF KF tw tl tk tu (xs ((v3 + (1 : Int32)).toNatClampNeg)) (xs ((v3 + (2 : Int32)).toNatClampNeg)) (xs ((v3 + (3 : Int32)).toNatClampNeg))).1 = (f_X5_ahead m tn ts (xs ((v3 + (1 : Int32)).toNatClampNeg)) (xs ((v3 + (2 : Int32)).toNatClampNeg)) (xs ((v3 + (3 : Int32)).toNatClampNeg))).1 := by rw [e4, e5]
  have el : f_law_ahead xs s x lf r t W LF KF dr dt DW DL DK ER ET EW EL EK tw tl tk tu m tn tr_ ts tp tx Ls v3 = (tw', tl', tk', tu', m', ts') := by
    unfold f_law_ahead
    rw [if_pos ee, e4, e5]
  refine ⟨⟨h1, h2, h3, p4, h1, h2, h3, p5, fun _ => trivial, fun z => z ee⟩, ?_⟩
  rw [el]
  exact ⟨hn, UR.m hu (hm' 0 (by decide)), TT.xm ht rfl (hm' 1 (by decide))⟩
theorem ow_soon : Ow_soon gInv := by
  intro xs s x lf r t W LF KF dr dt DW DL DK ER ET EW EL EK tw tl tk tu m tn tr_ ts tp tx Ls v3 hI h1 h2 h3
  obtain ⟨hn, hu, ht⟩ := hI
  obtain ⟨p4, p5, a, tw', tl', tk', tu', m', ts', e4, e5, hm'⟩ := soonM (s := s) (m := m) (ts := ts) (tw := tw) (tl := tl) (tk := tk) (tu := tu) (i := (xs ((v3 + (1 : Int32)).toNatClampNeg))) (b := (xs ((v3 + (2 : Int32)).toNatClampNeg))) hn
  have ee : (f_X4_soon s r t W LF KF tw tl tk tu (xs ((v3 + (1 : Int32)).toNatClampNeg)) (xs ((v3 + (2 : Int32)).toNatClampNeg))).1 = (f_X5_soon m tn ts (xs ((v3 + (1 : Int32)).toNatClampNeg)) (xs ((v3 + (2 : Int32)).toNatClampNeg))).1 := by rw [e4, e5]
  have el : f_law_soon xs s x lf r t W LF KF dr dt DW DL DK ER ET EW EL EK tw tl tk tu m tn tr_ ts tp tx Ls v3 = (tw', tl', tk', tu', m', ts') := by
    unfold f_law_soon
    rw [if_pos ee, e4, e5]
  refine ⟨⟨h1, h2, p4, h1, h2, p5, fun _ => trivial, fun z => z ee⟩, ?_⟩
  rw [el]
  exact ⟨hn, UR.m hu (hm' 0 (by decide)), TT.xm ht rfl (hm' 1 (by decide))⟩
theorem ow_best : Ow_best gInv := by
  intro xs s x lf r t W LF KF dr dt DW DL DK ER ET EW EL EK tw tl tk tu m tn tr_ ts tp tx Ls v3 hI h1 h2 h3
  obtain ⟨hn, hu, ht⟩ := hI
  obtain ⟨p4, p5, a, tw', tl', tk', tu', m', ts', e4, e5, hm'⟩ := bestM (s := s) (m := m) (ts := ts) (tw := tw) (tl := tl) (tk := tk) (tu := tu) (i := (xs ((v3 + (1 : Int32)).toNatClampNeg))) hn
  have ee : (f_X4_best s r t W LF KF tw tl tk tu (xs ((v3 + (1 : Int32)).toNatClampNeg))).1 = (f_X5_best m tn ts (xs ((v3 + (1 : Int32)).toNatClampNeg))).1 := by rw [e4, e5]
  have el : f_law_best xs s x lf r t W LF KF dr dt DW DL DK ER ET EW EL EK tw tl tk tu m tn tr_ ts tp tx Ls v3 = (tw', tl', tk', tu', m', ts') := by
    unfold f_law_best
    rw [if_pos ee, e4, e5]
  refine ⟨⟨h1, p4, h1, p5, fun _ => trivial, fun z => z ee⟩, ?_⟩
  rw [el]
  exact ⟨hn, UR.m hu (hm' 0 (by decide)), TT.xm ht rfl (hm' 1 (by decide))⟩
theorem ow_way : Ow_way gInv := by
  intro xs s x lf r t W LF KF dr dt DW DL DK ER ET EW EL EK tw tl tk tu m tn tr_ ts tp tx Ls v3 hI h1 h2 h3
  obtain ⟨hn, hu, ht⟩ := hI
  obtain ⟨p4, p5, ee⟩ := wayR (s := s) (m := m) (i := (xs ((v3 + (1 : Int32)).toNatClampNeg))) (what := (xs ((v3 + (2 : Int32)).toNatClampNeg))) hn
  exact ⟨⟨h1, h2, p4, h1, h2, p5, fun _ => trivial, fun z => z ee⟩, hn, hu, ht⟩
theorem ow_hop : Ow_hop gInv := by
  intro xs s x lf r t W LF KF dr dt DW DL DK ER ET EW EL EK tw tl tk tu m tn tr_ ts tp tx Ls v3 hI h1 h2 h3
  obtain ⟨hn, hu, ht⟩ := hI
  obtain ⟨p4, p5, ee⟩ := hopR (s := s) (m := m) (i := (xs ((v3 + (1 : Int32)).toNatClampNeg))) (hh := (xs ((v3 + (2 : Int32)).toNatClampNeg))) (what := (xs ((v3 + (3 : Int32)).toNatClampNeg))) hn
  exact ⟨⟨h1, h2, h3, p4, h1, h2, h3, p5, fun _ => trivial, fun z => z ee⟩, hn, hu, ht⟩
theorem ow_probe : Ow_probe gInv := by
  intro xs s x lf r t W LF KF dr dt DW DL DK ER ET EW EL EK tw tl tk tu m tn tr_ ts tp tx Ls v3 hI h1 h2 h3
  obtain ⟨hn, hu, ht⟩ := hI
  obtain ⟨p4, p5, ee⟩ := probeR (s := s) (m := m) (i := (xs ((v3 + (1 : Int32)).toNatClampNeg))) hn
  exact ⟨⟨h1, p4, h1, p5, fun _ => trivial, fun z => z ee⟩, hn, hu, ht⟩
theorem ow_padding : Ow_padding gInv := by
  intro xs s x lf r t W LF KF dr dt DW DL DK ER ET EW EL EK tw tl tk tu m tn tr_ ts tp tx Ls v3 hI h1 h2 h3
  obtain ⟨hn, hu, ht⟩ := hI
  obtain ⟨p4, p5, ee⟩ := paddingR (s := s) (m := m) (i := (xs ((v3 + (1 : Int32)).toNatClampNeg))) (c := (xs ((v3 + (2 : Int32)).toNatClampNeg))) hn
  exact ⟨⟨h1, h2, p4, h1, h2, p5, fun _ => trivial, fun z => z ee⟩, hn, hu, ht⟩
theorem ow_meets : Ow_meets gInv := by
  intro xs s x lf r t W LF KF dr dt DW DL DK ER ET EW EL EK tw tl tk tu m tn tr_ ts tp tx Ls v3 hI h1 h2 h3
  obtain ⟨hn, hu, ht⟩ := hI
  obtain ⟨p4, p5, ee⟩ := meetsR (s := s) (m := m) (i := (xs ((v3 + (1 : Int32)).toNatClampNeg))) (size := (xs ((v3 + (2 : Int32)).toNatClampNeg))) (what := (xs ((v3 + (3 : Int32)).toNatClampNeg))) hn
  exact ⟨⟨h1, h2, h3, p4, h1, h2, h3, p5, fun _ => trivial, fun z => z ee⟩, hn, hu, ht⟩
theorem ow_draw : Ow_draw gInv := by
  intro xs s x lf r t W LF KF dr dt DW DL DK ER ET EW EL EK tw tl tk tu m tn tr_ ts tp tx Ls v3 hI h1 h2 h3
  obtain ⟨hn, hu, ht⟩ := hI
  obtain ⟨p4, ee⟩ := drawR (s := s) (m := m) (i := (xs ((v3 + (1 : Int32)).toNatClampNeg))) (k := (xs ((v3 + (2 : Int32)).toNatClampNeg))) hn
  exact ⟨⟨h1, h2, p4, h1, h2, fun _ => trivial, fun z => z ee⟩, hn, hu, ht⟩
theorem ow_count : Ow_count gInv := by
  intro xs s x lf r t W LF KF dr dt DW DL DK ER ET EW EL EK tw tl tk tu m tn tr_ ts tp tx Ls v3 hI h1 h2 h3
  obtain ⟨hn, hu, ht⟩ := hI
  have h10 : s 1 = m 0 := by
    obtain ⟨U, S, _, _, _, a, b, _⟩ := hu
    rw [a, b]
  have h11 : x 0 = m 1 := by
    obtain ⟨n, c, a, b, _⟩ := ht
    rw [a, b]
  obtain ⟨p4, p5, ee⟩ := countM (s := s) (m := m) (what := (xs ((v3 + (1 : Int32)).toNatClampNeg))) hn h10 h11
  exact ⟨⟨h1, p4, h1, p5, fun _ => trivial, fun z => z ee⟩, hn, hu, ht⟩
