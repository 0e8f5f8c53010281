/-! PURE. Part 36: an item, class and model -/
theorem gI_way {O tr tx : Nat → Int32} {V : Int64} (t0 : lg_cmp V (23609 : Int64) = 0) : g_X5_takesItem_12 tr tx V O (lg_cmp V (23609 : Int64)) = ((f_X5_addsWay O tr).1, O, (f_X5_addsWay O tr).2) := by
  unfold g_X5_takesItem_12
  rw [if_pos t0]
theorem hI_way {O tr tx : Nat → Int32} {V : Int64} (t0 : lg_cmp V (23609 : Int64) = 0) : h_X5_takesItem_12 tr tx V O (lg_cmp V (23609 : Int64)) := ⟨fun _ => trivial, fun z => absurd t0 z⟩
theorem gI_hop {O tr tx : Nat → Int32} {V : Int64} (t0 : ¬ (lg_cmp V (23609 : Int64) = 0)) (t1 : lg_cmp V (8688 : Int64) = 0) : g_X5_takesItem_12 tr tx V O (lg_cmp V (23609 : Int64)) = f_X5_takesHop O tr tx := by
  unfold g_X5_takesItem_12
  rw [if_neg t0, if_pos t1]
theorem hI_hop {O tr tx : Nat → Int32} {V : Int64} (t0 : ¬ (lg_cmp V (23609 : Int64) = 0)) (t1 : lg_cmp V (8688 : Int64) = 0) (u : p_X5_takesHop O tr tx) : h_X5_takesItem_12 tr tx V O (lg_cmp V (23609 : Int64)) := ⟨fun z => absurd z t0, fun _ => ⟨fun _ => ⟨u, trivial⟩, fun z => absurd t1 z⟩⟩
theorem gI_loss {O tr tx : Nat → Int32} {V : Int64} (t0 : ¬ (lg_cmp V (23609 : Int64) = 0)) (t1 : ¬ (lg_cmp V (8688 : Int64) = 0)) (t2 : lg_cmp V (409203 : Int64) = 0) : g_X5_takesItem_12 tr tx V O (lg_cmp V (23609 : Int64)) = f_X5_takesLoss O tr tx := by
  unfold g_X5_takesItem_12
  rw [if_neg t0, if_neg t1, if_pos t2]
theorem hI_loss {O tr tx : Nat → Int32} {V : Int64} (t0 : ¬ (lg_cmp V (23609 : Int64) = 0)) (t1 : ¬ (lg_cmp V (8688 : Int64) = 0)) (t2 : lg_cmp V (409203 : Int64) = 0) (u : p_X5_takesLoss O tr tx) : h_X5_takesItem_12 tr tx V O (lg_cmp V (23609 : Int64)) := ⟨fun z => absurd z t0, fun _ => ⟨fun z => absurd z t1, fun _ => ⟨fun _ => ⟨u, trivial⟩, fun z => absurd t2 z⟩⟩⟩
theorem gI_base {O tr tx : Nat → Int32} {V : Int64} (t0 : ¬ (lg_cmp V (23609 : Int64) = 0)) (t1 : ¬ (lg_cmp V (8688 : Int64) = 0)) (t2 : ¬ (lg_cmp V (409203 : Int64) = 0)) (t3 : lg_cmp V (67173 : Int64) = 0) : g_X5_takesItem_12 tr tx V O (lg_cmp V (23609 : Int64)) = f_X5_puts O tr tx (2 : Int32) (20 : Int32) (200 : Int32) := by
  unfold g_X5_takesItem_12
  rw [if_neg t0, if_neg t1, if_neg t2, if_pos t3]
theorem hI_base {O tr tx : Nat → Int32} {V : Int64} (t0 : ¬ (lg_cmp V (23609 : Int64) = 0)) (t1 : ¬ (lg_cmp V (8688 : Int64) = 0)) (t2 : ¬ (lg_cmp V (409203 : Int64) = 0)) (t3 : lg_cmp V (67173 : Int64) = 0) (u : p_X5_puts O tr tx (2 : Int32) (20 : Int32) (200 : Int32)) : h_X5_takesItem_12 tr tx V O (lg_cmp V (23609 : Int64)) := ⟨fun z => absurd z t0, fun _ => ⟨fun z => absurd z t1, fun _ => ⟨fun z => absurd z t2, fun _ => ⟨fun _ => ⟨u, trivial⟩, fun z => absurd t3 z⟩⟩⟩⟩
theorem gI_top {O tr tx : Nat → Int32} {V : Int64} (t0 : ¬ (lg_cmp V (23609 : Int64) = 0)) (t1 : ¬ (lg_cmp V (8688 : Int64) = 0)) (t2 : ¬ (lg_cmp V (409203 : Int64) = 0)) (t3 : ¬ (lg_cmp V (67173 : Int64) = 0)) (t4 : lg_cmp V (20976 : Int64) = 0) : g_X5_takesItem_12 tr tx V O (lg_cmp V (23609 : Int64)) = f_X5_puts O tr tx (3 : Int32) (200 : Int32) (999 : Int32) := by
  unfold g_X5_takesItem_12
  rw [if_neg t0, if_neg t1, if_neg t2, if_neg t3, if_pos t4]
theorem hI_top {O tr tx : Nat → Int32} {V : Int64} (t0 : ¬ (lg_cmp V (23609 : Int64) = 0)) (t1 : ¬ (lg_cmp V (8688 : Int64) = 0)) (t2 : ¬ (lg_cmp V (409203 : Int64) = 0)) (t3 : ¬ (lg_cmp V (67173 : Int64) = 0)) (t4 : lg_cmp V (20976 : Int64) = 0) (u : p_X5_puts O tr tx (3 : Int32) (200 : Int32) (999 : Int32)) : h_X5_takesItem_12 tr tx V O (lg_cmp V (23609 : Int64)) := ⟨fun z => absurd z t0, fun _ => ⟨fun z => absurd z t1, fun _ => ⟨fun z => absurd z t2, fun _ => ⟨fun z => absurd z t3, fun _ => ⟨fun _ => ⟨u, trivial⟩, fun z => absurd t4 z⟩⟩⟩⟩⟩
theorem gI_age {O tr tx : Nat → Int32} {V : Int64} (t0 : ¬ (lg_cmp V (23609 : Int64) = 0)) (t1 : ¬ (lg_cmp V (8688 : Int64) = 0)) (t2 : ¬ (lg_cmp V (409203 : Int64) = 0)) (t3 : ¬ (lg_cmp V (67173 : Int64) = 0)) (t4 : ¬ (lg_cmp V (20976 : Int64) = 0)) (t5 : lg_cmp V (1253 : Int64) = 0) : g_X5_takesItem_12 tr tx V O (lg_cmp V (23609 : Int64)) = f_X5_puts O tr tx (4 : Int32) (1 : Int32) (99 : Int32) := by
  unfold g_X5_takesItem_12
  rw [if_neg t0, if_neg t1, if_neg t2, if_neg t3, if_neg t4, if_pos t5]
theorem hI_age {O tr tx : Nat → Int32} {V : Int64} (t0 : ¬ (lg_cmp V (23609 : Int64) = 0)) (t1 : ¬ (lg_cmp V (8688 : Int64) = 0)) (t2 : ¬ (lg_cmp V (409203 : Int64) = 0)) (t3 : ¬ (lg_cmp V (67173 : Int64) = 0)) (t4 : ¬ (lg_cmp V (20976 : Int64) = 0)) (t5 : lg_cmp V (1253 : Int64) = 0) (u : p_X5_puts O tr tx (4 : Int32) (1 : Int32) (99 : Int32)) : h_X5_takesItem_12 tr tx V O (lg_cmp V (23609 : Int64)) := ⟨fun z => absurd z t0, fun _ => ⟨fun z => absurd z t1, fun _ => ⟨fun z => absurd z t2, fun _ => ⟨fun z => absurd z t3, fun _ => ⟨fun z => absurd z t4, fun _ => ⟨fun _ => ⟨u, trivial⟩, fun z => absurd t5 z⟩⟩⟩⟩⟩⟩
theorem gI_believe {O tr tx : Nat → Int32} {V : Int64} (t0 : ¬ (lg_cmp V (23609 : Int64) = 0)) (t1 : ¬ (lg_cmp V (8688 : Int64) = 0)) (t2 : ¬ (lg_cmp V (409203 : Int64) = 0)) (t3 : ¬ (lg_cmp V (67173 : Int64) = 0)) (t4 : ¬ (lg_cmp V (20976 : Int64) = 0)) (t5 : ¬ (lg_cmp V (1253 : Int64) = 0)) (t6 : lg_cmp V (2328139461 : Int64) = 0) : g_X5_takesItem_12 tr tx V O (lg_cmp V (23609 : Int64)) = f_X5_takesBelief O tr tx := by
  unfold g_X5_takesItem_12
  rw [if_neg t0, if_neg t1, if_neg t2, if_neg t3, if_neg t4, if_neg t5, if_pos t6]
theorem hI_believe {O tr tx : Nat → Int32} {V : Int64} (t0 : ¬ (lg_cmp V (23609 : Int64) = 0)) (t1 : ¬ (lg_cmp V (8688 : Int64) = 0)) (t2 : ¬ (lg_cmp V (409203 : Int64) = 0)) (t3 : ¬ (lg_cmp V (67173 : Int64) = 0)) (t4 : ¬ (lg_cmp V (20976 : Int64) = 0)) (t5 : ¬ (lg_cmp V (1253 : Int64) = 0)) (t6 : lg_cmp V (2328139461 : Int64) = 0) (u : p_X5_takesBelief O tr tx) : h_X5_takesItem_12 tr tx V O (lg_cmp V (23609 : Int64)) := ⟨fun z => absurd z t0, fun _ => ⟨fun z => absurd z t1, fun _ => ⟨fun z => absurd z t2, fun _ => ⟨fun z => absurd z t3, fun _ => ⟨fun z => absurd z t4, fun _ => ⟨fun z => absurd z t5, fun _ => ⟨fun _ => ⟨u, trivial⟩, fun z => absurd t6 z⟩⟩⟩⟩⟩⟩⟩
theorem gI_draws {O tr tx : Nat → Int32} {V : Int64} (t0 : ¬ (lg_cmp V (23609 : Int64) = 0)) (t1 : ¬ (lg_cmp V (8688 : Int64) = 0)) (t2 : ¬ (lg_cmp V (409203 : Int64) = 0)) (t3 : ¬ (lg_cmp V (67173 : Int64) = 0)) (t4 : ¬ (lg_cmp V (20976 : Int64) = 0)) (t5 : ¬ (lg_cmp V (1253 : Int64) = 0)) (t6 : ¬ (lg_cmp V (2328139461 : Int64) = 0)) (t7 : lg_cmp V (4785907 : Int64) = 0) : g_X5_takesItem_12 tr tx V O (lg_cmp V (23609 : Int64)) = f_X5_puts O tr tx (6 : Int32) (0 : Int32) (9999 : Int32) := by
  unfold g_X5_takesItem_12
  rw [if_neg t0, if_neg t1, if_neg t2, if_neg t3, if_neg t4, if_neg t5, if_neg t6, if_pos t7]
theorem hI_draws {O tr tx : Nat → Int32} {V : Int64} (t0 : ¬ (lg_cmp V (23609 : Int64) = 0)) (t1 : ¬ (lg_cmp V (8688 : Int64) = 0)) (t2 : ¬ (lg_cmp V (409203 : Int64) = 0)) (t3 : ¬ (lg_cmp V (67173 : Int64) = 0)) (t4 : ¬ (lg_cmp V (20976 : Int64) = 0)) (t5 : ¬ (lg_cmp V (1253 : Int64) = 0)) (t6 : ¬ (lg_cmp V (2328139461 : Int64) = 0)) (t7 : lg_cmp V (4785907 : Int64) = 0) (u : p_X5_puts O tr tx (6 : Int32) (0 : Int32) (9999 : Int32)) : h_X5_takesItem_12 tr tx V O (lg_cmp V (23609 : Int64)) := ⟨fun z => absurd z t0, fun _ => ⟨fun z => absurd z t1, fun _ => ⟨fun z => absurd z t2, fun _ => ⟨fun z => absurd z t3, fun _ => ⟨fun z => absurd z t4, fun _ => ⟨fun z => absurd z t5, fun _ => ⟨fun z => absurd z t6, fun _ => ⟨fun _ => ⟨u, trivial⟩, fun z => absurd t7 z⟩⟩⟩⟩⟩⟩⟩⟩
theorem gI_non {O tr tx : Nat → Int32} {V : Int64} (t0 : ¬ (lg_cmp V (23609 : Int64) = 0)) (t1 : ¬ (lg_cmp V (8688 : Int64) = 0)) (t2 : ¬ (lg_cmp V (409203 : Int64) = 0)) (t3 : ¬ (lg_cmp V (67173 : Int64) = 0)) (t4 : ¬ (lg_cmp V (20976 : Int64) = 0)) (t5 : ¬ (lg_cmp V (1253 : Int64) = 0)) (t6 : ¬ (lg_cmp V (2328139461 : Int64) = 0)) (t7 : ¬ (lg_cmp V (4785907 : Int64) = 0)) : g_X5_takesItem_12 tr tx V O (lg_cmp V (23609 : Int64)) = ((0 : Int32), O, tr) := by
  unfold g_X5_takesItem_12
  rw [if_neg t0, if_neg t1, if_neg t2, if_neg t3, if_neg t4, if_neg t5, if_neg t6, if_neg t7]
theorem hI_non {O tr tx : Nat → Int32} {V : Int64} (t0 : ¬ (lg_cmp V (23609 : Int64) = 0)) (t1 : ¬ (lg_cmp V (8688 : Int64) = 0)) (t2 : ¬ (lg_cmp V (409203 : Int64) = 0)) (t3 : ¬ (lg_cmp V (67173 : Int64) = 0)) (t4 : ¬ (lg_cmp V (20976 : Int64) = 0)) (t5 : ¬ (lg_cmp V (1253 : Int64) = 0)) (t6 : ¬ (lg_cmp V (2328139461 : Int64) = 0)) (t7 : ¬ (lg_cmp V (4785907 : Int64) = 0)) : h_X5_takesItem_12 tr tx V O (lg_cmp V (23609 : Int64)) := ⟨fun z => absurd z t0, fun _ => ⟨fun z => absurd z t1, fun _ => ⟨fun z => absurd z t2, fun _ => ⟨fun z => absurd z t3, fun _ => ⟨fun z => absurd z t4, fun _ => ⟨fun z => absurd z t5, fun _ => ⟨fun z => absurd z t6, fun _ => ⟨fun z => absurd z t7, fun _ => trivial⟩⟩⟩⟩⟩⟩⟩⟩
theorem cI_way {r t X Y lf : Nat → Int32} {W LF KF : Nat → Nat → Int32} (t0 : f_X2_take X lf 1 = (1, Y)) : f_X0_readItem r t W LF KF X lf = ((f_X0_addWay r t W LF KF).1, r, (f_X0_addWay r t W LF KF).2.1, (f_X0_addWay r t W LF KF).2.2, LF, KF, Y) := by
  simp only [f_X0_readItem, f_X0_readRule, t0, n10, ↓reduceIte, upd_s]
theorem cP_way {r t X Y lf : Nat → Int32} {W LF KF : Nat → Nat → Int32} (t0 : f_X2_take X lf 1 = (1, Y)) (u0 : p_X2_take X lf 1) (v : p_X0_addWay r t W LF KF) : p_X0_readItem r t W LF KF X lf := by
  simp [p_X0_readItem, p_X0_readRule, t0, u0, v]
theorem cI_hop {r t X Y lf : Nat → Int32} {W LF KF : Nat → Nat → Int32} (t0 : f_X2_take X lf 1 = (0, X)) (t1 : f_X2_take X lf 2 = (1, Y)) : f_X0_readItem r t W LF KF X lf = ((f_X0_readHop r t W LF KF Y lf).1, r, t, (f_X0_readHop r t W LF KF Y lf).2.1, (f_X0_readHop r t W LF KF Y lf).2.2.1, (f_X0_readHop r t W LF KF Y lf).2.2.2.1, (f_X0_readHop r t W LF KF Y lf).2.2.2.2) := by
  simp only [f_X0_readItem, f_X0_readRule, t0, t1, n10, ↓reduceIte, upd_s]
theorem cP_hop {r t X Y lf : Nat → Int32} {W LF KF : Nat → Nat → Int32} (t0 : f_X2_take X lf 1 = (0, X)) (t1 : f_X2_take X lf 2 = (1, Y)) (u0 : p_X2_take X lf 1) (u1 : p_X2_take X lf 2) (v : p_X0_readHop r t W LF KF Y lf) : p_X0_readItem r t W LF KF X lf := by
  simp [p_X0_readItem, p_X0_readRule, t0, t1, u0, u1, v]
theorem cI_loss {r t X Y lf : Nat → Int32} {W LF KF : Nat → Nat → Int32} (t0 : f_X2_take X lf 1 = (0, X)) (t1 : f_X2_take X lf 2 = (0, X)) (t2 : f_X2_take X lf 8 = (1, Y)) : f_X0_readItem r t W LF KF X lf = ((f_X0_readLoss r t W LF KF Y lf).1, r, t, (f_X0_readLoss r t W LF KF Y lf).2.1, LF, KF, (f_X0_readLoss r t W LF KF Y lf).2.2) := by
  simp only [f_X0_readItem, f_X0_readRule, t0, t1, t2, n10, ↓reduceIte, upd_s]
theorem cP_loss {r t X Y lf : Nat → Int32} {W LF KF : Nat → Nat → Int32} (t0 : f_X2_take X lf 1 = (0, X)) (t1 : f_X2_take X lf 2 = (0, X)) (t2 : f_X2_take X lf 8 = (1, Y)) (u0 : p_X2_take X lf 1) (u1 : p_X2_take X lf 2) (u2 : p_X2_take X lf 8) (v : p_X0_readLoss r t W LF KF Y lf) : p_X0_readItem r t W LF KF X lf := by
  simp [p_X0_readItem, p_X0_readRule, t0, t1, t2, u0, u1, u2, v]
theorem cI_base {r t X Y lf : Nat → Int32} {W LF KF : Nat → Nat → Int32} (t0 : f_X2_take X lf 1 = (0, X)) (t1 : f_X2_take X lf 2 = (0, X)) (t2 : f_X2_take X lf 8 = (0, X)) (t3 : f_X2_take X lf 9 = (1, Y)) : f_X0_readItem r t W LF KF X lf = (if (f_X2_takeNumber Y lf (20 : Int32) (200 : Int32)).1 = (-4 : Int32) then (0 : Int32) else 1, upd r 0 (f_X2_takeNumber Y lf (20 : Int32) (200 : Int32)).1, t, W, LF, KF, (f_X2_takeNumber Y lf (20 : Int32) (200 : Int32)).2) := by
  simp only [f_X0_readItem, f_X0_readRule, t0, t1, t2, t3, n10, ↓reduceIte, upd_s]
theorem cP_base {r t X Y lf : Nat → Int32} {W LF KF : Nat → Nat → Int32} (t0 : f_X2_take X lf 1 = (0, X)) (t1 : f_X2_take X lf 2 = (0, X)) (t2 : f_X2_take X lf 8 = (0, X)) (t3 : f_X2_take X lf 9 = (1, Y)) (u0 : p_X2_take X lf 1) (u1 : p_X2_take X lf 2) (u2 : p_X2_take X lf 8) (u3 : p_X2_take X lf 9) (v : p_X2_takeNumber Y lf (20 : Int32) (200 : Int32)) : p_X0_readItem r t W LF KF X lf := by
  simp [p_X0_readItem, p_X0_readRule, t0, t1, t2, t3, u0, u1, u2, u3, v]
theorem cI_top {r t X Y lf : Nat → Int32} {W LF KF : Nat → Nat → Int32} (t0 : f_X2_take X lf 1 = (0, X)) (t1 : f_X2_take X lf 2 = (0, X)) (t2 : f_X2_take X lf 8 = (0, X)) (t3 : f_X2_take X lf 9 = (0, X)) (t4 : f_X2_take X lf 10 = (1, Y)) : f_X0_readItem r t W LF KF X lf = (if (f_X2_takeNumber Y lf (200 : Int32) (999 : Int32)).1 = (-4 : Int32) then (0 : Int32) else 1, upd r 1 (f_X2_takeNumber Y lf (200 : Int32) (999 : Int32)).1, t, W, LF, KF, (f_X2_takeNumber Y lf (200 : Int32) (999 : Int32)).2) := by
  simp only [f_X0_readItem, f_X0_readRule, t0, t1, t2, t3, t4, n10, ↓reduceIte, upd_s]
theorem cP_top {r t X Y lf : Nat → Int32} {W LF KF : Nat → Nat → Int32} (t0 : f_X2_take X lf 1 = (0, X)) (t1 : f_X2_take X lf 2 = (0, X)) (t2 : f_X2_take X lf 8 = (0, X)) (t3 : f_X2_take X lf 9 = (0, X)) (t4 : f_X2_take X lf 10 = (1, Y)) (u0 : p_X2_take X lf 1) (u1 : p_X2_take X lf 2) (u2 : p_X2_take X lf 8) (u3 : p_X2_take X lf 9) (u4 : p_X2_take X lf 10) (v : p_X2_takeNumber Y lf (200 : Int32) (999 : Int32)) : p_X0_readItem r t W LF KF X lf := by
  simp [p_X0_readItem, p_X0_readRule, t0, t1, t2, t3, t4, u0, u1, u2, u3, u4, v]
theorem cI_age {r t X Y lf : Nat → Int32} {W LF KF : Nat → Nat → Int32} (t0 : f_X2_take X lf 1 = (0, X)) (t1 : f_X2_take X lf 2 = (0, X)) (t2 : f_X2_take X lf 8 = (0, X)) (t3 : f_X2_take X lf 9 = (0, X)) (t4 : f_X2_take X lf 10 = (0, X)) (t5 : f_X2_take X lf 11 = (1, Y)) : f_X0_readItem r t W LF KF X lf = (if (f_X2_takeNumber Y lf (1 : Int32) (99 : Int32)).1 = (-4 : Int32) then (0 : Int32) else 1, upd r 2 (f_X2_takeNumber Y lf (1 : Int32) (99 : Int32)).1, t, W, LF, KF, (f_X2_takeNumber Y lf (1 : Int32) (99 : Int32)).2) := by
  simp only [f_X0_readItem, f_X0_readRule, t0, t1, t2, t3, t4, t5, n10, ↓reduceIte, upd_s]
theorem cP_age {r t X Y lf : Nat → Int32} {W LF KF : Nat → Nat → Int32} (t0 : f_X2_take X lf 1 = (0, X)) (t1 : f_X2_take X lf 2 = (0, X)) (t2 : f_X2_take X lf 8 = (0, X)) (t3 : f_X2_take X lf 9 = (0, X)) (t4 : f_X2_take X lf 10 = (0, X)) (t5 : f_X2_take X lf 11 = (1, Y)) (u0 : p_X2_take X lf 1) (u1 : p_X2_take X lf 2) (u2 : p_X2_take X lf 8) (u3 : p_X2_take X lf 9) (u4 : p_X2_take X lf 10) (u5 : p_X2_take X lf 11) (v : p_X2_takeNumber Y lf (1 : Int32) (99 : Int32)) : p_X0_readItem r t W LF KF X lf := by
  simp [p_X0_readItem, p_X0_readRule, t0, t1, t2, t3, t4, t5, u0, u1, u2, u3, u4, u5, v]
theorem cI_believe {r t X Y lf : Nat → Int32} {W LF KF : Nat → Nat → Int32} (t0 : f_X2_take X lf 1 = (0, X)) (t1 : f_X2_take X lf 2 = (0, X)) (t2 : f_X2_take X lf 8 = (0, X)) (t3 : f_X2_take X lf 9 = (0, X)) (t4 : f_X2_take X lf 10 = (0, X)) (t5 : f_X2_take X lf 11 = (0, X)) (t6 : f_X2_take X lf 12 = (1, Y)) : f_X0_readItem r t W LF KF X lf = (if (f_X2_takeBelief Y lf).1 = (-4 : Int32) then (0 : Int32) else 1, upd r 3 (f_X2_takeBelief Y lf).1, t, W, LF, KF, (f_X2_takeBelief Y lf).2) := by
  simp only [f_X0_readItem, f_X0_readRule, t0, t1, t2, t3, t4, t5, t6, n10, ↓reduceIte, upd_s]
theorem cP_believe {r t X Y lf : Nat → Int32} {W LF KF : Nat → Nat → Int32} (t0 : f_X2_take X lf 1 = (0, X)) (t1 : f_X2_take X lf 2 = (0, X)) (t2 : f_X2_take X lf 8 = (0, X)) (t3 : f_X2_take X lf 9 = (0, X)) (t4 : f_X2_take X lf 10 = (0, X)) (t5 : f_X2_take X lf 11 = (0, X)) (t6 : f_X2_take X lf 12 = (1, Y)) (u0 : p_X2_take X lf 1) (u1 : p_X2_take X lf 2) (u2 : p_X2_take X lf 8) (u3 : p_X2_take X lf 9) (u4 : p_X2_take X lf 10) (u5 : p_X2_take X lf 11) (u6 : p_X2_take X lf 12) (v : p_X2_takeBelief Y lf) : p_X0_readItem r t W LF KF X lf := by
  simp [p_X0_readItem, p_X0_readRule, t0, t1, t2, t3, t4, t5, t6, u0, u1, u2, u3, u4, u5, u6, v]
theorem cI_draws {r t X Y lf : Nat → Int32} {W LF KF : Nat → Nat → Int32} (t0 : f_X2_take X lf 1 = (0, X)) (t1 : f_X2_take X lf 2 = (0, X)) (t2 : f_X2_take X lf 8 = (0, X)) (t3 : f_X2_take X lf 9 = (0, X)) (t4 : f_X2_take X lf 10 = (0, X)) (t5 : f_X2_take X lf 11 = (0, X)) (t6 : f_X2_take X lf 12 = (0, X)) (t7 : f_X2_take X lf 16 = (1, Y)) : f_X0_readItem r t W LF KF X lf = (if (f_X2_takeNumber Y lf (0 : Int32) (9999 : Int32)).1 = (-4 : Int32) then (0 : Int32) else 1, upd r 4 (f_X2_takeNumber Y lf (0 : Int32) (9999 : Int32)).1, t, W, LF, KF, (f_X2_takeNumber Y lf (0 : Int32) (9999 : Int32)).2) := by
  simp only [f_X0_readItem, f_X0_readRule, t0, t1, t2, t3, t4, t5, t6, t7, n10, ↓reduceIte, upd_s]
theorem cP_draws {r t X Y lf : Nat → Int32} {W LF KF : Nat → Nat → Int32} (t0 : f_X2_take X lf 1 = (0, X)) (t1 : f_X2_take X lf 2 = (0, X)) (t2 : f_X2_take X lf 8 = (0, X)) (t3 : f_X2_take X lf 9 = (0, X)) (t4 : f_X2_take X lf 10 = (0, X)) (t5 : f_X2_take X lf 11 = (0, X)) (t6 : f_X2_take X lf 12 = (0, X)) (t7 : f_X2_take X lf 16 = (1, Y)) (u0 : p_X2_take X lf 1) (u1 : p_X2_take X lf 2) (u2 : p_X2_take X lf 8) (u3 : p_X2_take X lf 9) (u4 : p_X2_take X lf 10) (u5 : p_X2_take X lf 11) (u6 : p_X2_take X lf 12) (u7 : p_X2_take X lf 16) (v : p_X2_takeNumber Y lf (0 : Int32) (9999 : Int32)) : p_X0_readItem r t W LF KF X lf := by
  simp [p_X0_readItem, p_X0_readRule, t0, t1, t2, t3, t4, t5, t6, t7, u0, u1, u2, u3, u4, u5, u6, u7, v]
theorem cI_non {r t X lf : Nat → Int32} {W LF KF : Nat → Nat → Int32} (t0 : f_X2_take X lf 1 = (0, X)) (t1 : f_X2_take X lf 2 = (0, X)) (t2 : f_X2_take X lf 8 = (0, X)) (t3 : f_X2_take X lf 9 = (0, X)) (t4 : f_X2_take X lf 10 = (0, X)) (t5 : f_X2_take X lf 11 = (0, X)) (t6 : f_X2_take X lf 12 = (0, X)) (t7 : f_X2_take X lf 16 = (0, X)) : f_X0_readItem r t W LF KF X lf = ((0 : Int32), r, t, W, LF, KF, X) := by
  simp only [f_X0_readItem, f_X0_readRule, t0, t1, t2, t3, t4, t5, t6, t7, n10, ↓reduceIte, upd_s]
theorem cP_non {r t X lf : Nat → Int32} {W LF KF : Nat → Nat → Int32} (t0 : f_X2_take X lf 1 = (0, X)) (t1 : f_X2_take X lf 2 = (0, X)) (t2 : f_X2_take X lf 8 = (0, X)) (t3 : f_X2_take X lf 9 = (0, X)) (t4 : f_X2_take X lf 10 = (0, X)) (t5 : f_X2_take X lf 11 = (0, X)) (t6 : f_X2_take X lf 12 = (0, X)) (t7 : f_X2_take X lf 16 = (0, X)) (u0 : p_X2_take X lf 1) (u1 : p_X2_take X lf 2) (u2 : p_X2_take X lf 8) (u3 : p_X2_take X lf 9) (u4 : p_X2_take X lf 10) (u5 : p_X2_take X lf 11) (u6 : p_X2_take X lf 12) (u7 : p_X2_take X lf 16)  : p_X0_readItem r t W LF KF X lf := by
  simp [p_X0_readItem, p_X0_readRule, t0, t1, t2, t3, t4, t5, t6, t7, u0, u1, u2, u3, u4, u5, u6, u7]
theorem f_X5_takesItem_e {m tr tx : Nat → Int32} {R : Int64 × (Nat → Int32)} {B : Int32 × (Nat → Int32) × (Nat → Int32)} (e0 : f_X5_takesWord m tx = R) (e1 : g_X5_takesItem_12 tr tx R.1 R.2 (lg_cmp R.1 (23609 : Int64)) = B) : f_X5_takesItem m tr tx = ((g_X5_takesItem_156 tx B.1 B.2.1).1, (g_X5_takesItem_156 tx B.1 B.2.1).2, B.2.2) := by
  subst e0
  subst e1
  rfl
theorem p_X5_takesItem_e {m tr tx : Nat → Int32} {R : Int64 × (Nat → Int32)} {B : Int32 × (Nat → Int32) × (Nat → Int32)} (e0 : f_X5_takesWord m tx = R) (e1 : g_X5_takesItem_12 tr tx R.1 R.2 (lg_cmp R.1 (23609 : Int64)) = B) (u0 : p_X5_takesWord m tx) (u1 : h_X5_takesItem_12 tr tx R.1 R.2 (lg_cmp R.1 (23609 : Int64))) (u2 : h_X5_takesItem_156 tx B.1 B.2.1) : p_X5_takesItem m tr tx := by
  subst e0
  subst e1
  exact ⟨u0, u1, u2, trivial⟩
def IT (c : Nat → Nat) (n p : Nat) (x m lf tx r t : Nat → Int32) (W LF KF : Nat → Nat → Int32) (tr : Nat → Int32) : Prop := p_X0_readItem r t W LF KF (upd x 1 (nI p)) lf ∧ p_X5_takesItem (upd m 2 (nI p)) tr tx ∧ ∃ a r' t' W' LF' KF' q a' q' tr', f_X0_readItem r t W LF KF (upd x 1 (nI p)) lf = (a, r', t', W', LF', KF', upd x 1 (nI q)) ∧ f_X5_takesItem (upd m 2 (nI p)) tr tx = (a', upd m 2 (nI q'), tr') ∧ q ≤ n ∧ q' ≤ n ∧ ((a' = 0 ∧ (a = 0 ∨ ¬ sg c n q 59)) ∨ (¬ (a' = 0) ∧ ¬ (a = 0) ∧ sg c n q 59 ∧ q' = q + 1 ∧ p < q' ∧ ∃ N', DR N' r' t' W' LF' KF' tr'))
theorem itemF {c : Nat → Nat} {n p q q0 : Nat} {x m lf tx r t r' t' tr tr' O : Nat → Int32} {W LF KF W' LF' KF' : Nat → Nat → Int32} {a b : Int32} {V : Int64} (h' : TX c n tx) (hm : m 1 = nI n) (pw : p_X5_takesWord (upd m 2 (nI p)) tx) (fw : f_X5_takesWord (upd m 2 (nI p)) tx = (V, O)) (pc : p_X0_readItem r t W LF KF (upd x 1 (nI p)) lf) (fc : f_X0_readItem r t W LF KF (upd x 1 (nI p)) lf = (a, r', t', W', LF', KF', upd x 1 (nI q))) (h12 : h_X5_takesItem_12 tr tx V O (lg_cmp V (23609 : Int64))) (f12 : g_X5_takesItem_12 tr tx V O (lg_cmp V (23609 : Int64)) = (b, upd m 2 (nI q0), tr')) (hq : q ≤ n) (hq0 : q0 ≤ n) (hpq : p ≤ q) (hh : (b = 0 ∧ (a = 0 ∨ ¬ sg c n q 59)) ∨ (¬ (b = 0) ∧ ¬ (a = 0) ∧ q = q0 ∧ ∃ N', DR N' r' t' W' LF' KF' tr')) : IT c n p x m lf tx r t W LF KF tr := by
  obtain ⟨s1, s2⟩ := takesSignM (s := 59) h' hm hq0 (by decide)
  have e := f_X5_takesItem_e (tr := tr) (R := (V, O)) fw f12
  have pe := p_X5_takesItem_e (tr := tr) (R := (V, O)) fw f12 pw h12 ⟨fun _ => trivial, fun _ => ⟨s1, fun _ => trivial, fun _ => trivial⟩⟩
  simp only at e
  unfold g_X5_takesItem_156 at e
  rcases hh with ⟨b0, hc⟩ | ⟨b0, a0, hqq, hD⟩
  · rw [if_pos b0] at e
    exact ⟨pc, pe, _, _, _, _, _, _, _, _, _, _, fc, e, hq, hq0, Or.inl ⟨rfl, hc⟩⟩
  · rw [if_neg b0] at e
    rcases s2 with ⟨g1, g2⟩ | ⟨g1, g2⟩
    · have g2' : f_X5_takesSign (upd m 2 (nI q0)) tx (59 : Int32) = (1, upd m 2 (nI (q0 + 1))) := g2
      simp only [g2', n10, ↓reduceIte] at e
      exact ⟨pc, pe, _, _, _, _, _, _, _, _, _, _, fc, e, hq, g1.1, Or.inr ⟨n10, a0, by rw [hqq]; exact g1, by rw [hqq], by omega, hD⟩⟩
    · have g2' : f_X5_takesSign (upd m 2 (nI q0)) tx (59 : Int32) = (0, upd m 2 (nI q0)) := g2
      simp only [g2', ↓reduceIte] at e
      exact ⟨pc, pe, _, _, _, _, _, _, _, _, _, _, fc, e, hq, hq0, Or.inl ⟨rfl, Or.inr (by rw [hqq]; exact g1)⟩⟩
theorem takeC0 {c : Nat → Nat} {n : Nat} {lf x : Nat → Int32} (h : TX c n lf) (hx : x 0 = nI n) {si p : Nat} (hs : si < 18) (hp : p ≤ n) (hn : ¬ mt c n p (wd si)) : f_X2_take (upd x 1 (nI p)) lf si = (0, upd x 1 (nI p)) := by
  rcases (takeC h hx hs hp).2 with ⟨z, _⟩ | ⟨_, z⟩
  · exact absurd z hn
  · exact z
theorem takeC1 {c : Nat → Nat} {n : Nat} {lf x : Nat → Int32} (h : TX c n lf) (hx : x 0 = nI n) {si p : Nat} (hs : si < 18) (hp : p ≤ n) (hn : mt c n p (wd si)) : f_X2_take (upd x 1 (nI p)) lf si = (1, upd x 1 (nI (p + (wd si).length))) := by
  rcases (takeC h hx hs hp).2 with ⟨_, z⟩ | ⟨z, _⟩
  · exact z
  · exact absurd hn z
/-- without a blank behind the word -/
theorem num_nb {c : Nat → Nat} {n : Nat} {tx m : Nat → Int32} (h : TX c n tx) (hm : m 1 = nI n) {lo hi p : Nat} (hp : p ≤ n) (hl : lo < 100000) (hh : hi < 100000) (hs : ¬ sg c n p 32) : f_X5_takesNumber (upd m 2 (nI p)) tx (nI lo) (nI hi) = (-4, upd m 2 (nI p)) := by
  rcases (takesNumberM h hm hp hl hh).2 with ⟨z, _⟩ | ⟨_, z⟩
  · exact absurd z hs
  · exact z
theorem puts_nb {c : Nat → Nat} {n : Nat} {tx tr m : Nat → Int32} (h : TX c n tx) (hm : m 1 = nI n) {lo hi p pl : Nat} {place : Int32} (hp : p ≤ n) (hl : lo < 100000) (hh : hi < 100000) (hs : ¬ sg c n p 32) (hpl : place = nI pl) (h103 : pl < 103) : p_X5_puts (upd m 2 (nI p)) tr tx place (nI lo) (nI hi) ∧ f_X5_puts (upd m 2 (nI p)) tr tx place (nI lo) (nI hi) = (0, upd m 2 (nI p), upd tr pl (tr pl)) := by
  have e := num_nb h hm hp hl hh hs
  obtain ⟨a, b⟩ := putsM (tr := tr) e (takesNumberM h hm hp hl hh).1 hpl h103
  refine ⟨a, b.trans ?_⟩
  simp only [↓reduceIte]
theorem hop_nb {c : Nat → Nat} {n : Nat} {tx tr m : Nat → Int32} (h : TX c n tx) (hm : m 1 = nI n) {p : Nat} (hp : p ≤ n) (hs : ¬ sg c n p 32) : p_X5_takesHop (upd m 2 (nI p)) tr tx ∧ f_X5_takesHop (upd m 2 (nI p)) tr tx = (0, upd m 2 (nI p), tr) := by
  have e : f_X5_takesNumber (upd m 2 (nI p)) tx (20 : Int32) (999 : Int32) = (-4, upd m 2 (nI p)) := num_nb h hm (lo := 20) (hi := 999) hp (by decide) (by decide) hs
  have u : p_X5_takesNumber (upd m 2 (nI p)) tx (20 : Int32) (999 : Int32) := (takesNumberM h hm (lo := 20) (hi := 999) hp (by decide) (by decide)).1
  unfold p_X5_takesHop f_X5_takesHop
  rw [e]
  exact ⟨⟨u, fun _ => trivial, fun z => absurd rfl z⟩, if_pos rfl⟩
theorem loss_nb {c : Nat → Nat} {n N : Nat} {tx tr m : Nat → Int32} (h : TX c n tx) (hm : m 1 = nI n) (h0 : tr 0 = nI N) (hN : N ≤ 4) {p : Nat} (hp : p ≤ n) (hs : ¬ sg c n p 32) : p_X5_takesLoss (upd m 2 (nI p)) tr tx ∧ ∃ tr', f_X5_takesLoss (upd m 2 (nI p)) tr tx = (0, upd m 2 (nI p), tr') := by
  unfold p_X5_takesLoss f_X5_takesLoss g_X5_takesLoss_6 h_X5_takesLoss_6
  rw [h0]
  by_cases hN : N = 0
  · subst hN
    have t1 : nI 0 ≤ (0 : Int32) := by decide
    rw [if_pos t1]
    exact ⟨⟨⟨fun _ => trivial, fun z => absurd t1 z⟩, trivial⟩, _, rfl⟩
  · have t1 : ¬ (nI N ≤ (0 : Int32)) := nI_nle (by omega) (by omega)
    rw [if_neg t1, i_pred (by omega)]
    obtain ⟨pu, fu⟩ := puts_nb (tr := tr) (lo := 0) (hi := 99) (place := f_X5_at (nI (N - 1)) (10 : Int32)) (pl := 7 + 24 * (N - 1) + 10) h hm hp (by decide) (by decide) hs (at_nI (k := 10) (by omega) (by decide)) (by omega)
    have fu' : f_X5_puts (upd m 2 (nI p)) tr tx (f_X5_at (nI (N - 1)) (10 : Int32)) (0 : Int32) (99 : Int32) = (0, upd m 2 (nI p), upd tr (7 + 24 * (N - 1) + 10) (tr (7 + 24 * (N - 1) + 10))) := fu
    simp only [fu', ↓reduceIte]
    exact ⟨⟨⟨fun _ => trivial, fun _ => ⟨pu, fun _ => trivial, fun _ => trivial⟩⟩, trivial⟩, _, rfl⟩
theorem believe_nb {c : Nat → Nat} {n : Nat} {tx tr m : Nat → Int32} (h : TX c n tx) (hm : m 1 = nI n) {p : Nat} (hp : p ≤ n) (hs : ¬ sg c n p 32) : p_X5_takesBelief (upd m 2 (nI p)) tr tx ∧ f_X5_takesBelief (upd m 2 (nI p)) tr tx = (0, upd m 2 (nI p), tr) := by
  obtain ⟨s1, s2⟩ := takesSignM (s := 32) h hm hp (by decide)
  have e : f_X5_takesSign (upd m 2 (nI p)) tx (32 : Int32) = (0, upd m 2 (nI p)) := by
    rcases s2 with ⟨z, _⟩ | ⟨_, z⟩
    · exact absurd z hs
    · exact z
  unfold p_X5_takesBelief f_X5_takesBelief
  rw [e]
  exact ⟨⟨s1, fun _ => trivial, fun z => absurd rfl z⟩, if_pos rfl⟩
theorem itemR {c : Nat → Nat} {n p N : Nat} {x m lf tx r t tr : Nat → Int32} {W LF KF : Nat → Nat → Int32} (h : TX c n lf) (h' : TX c n tx) (hx : x 0 = nI n) (hm : m 1 = nI n) (hd : DR N r t W LF KF tr) (hp : p ≤ n) : IT c n p x m lf tx r t W LF KF tr := by
  obtain ⟨pw, L, hr, hw⟩ := takesWordM h' hm hp
  have hL := hr.1
  have u0 := (takeC (si := 1) h hx (by decide) hp).1
  have u1 := (takeC (si := 2) h hx (by decide) hp).1
  have u2 := (takeC (si := 8) h hx (by decide) hp).1
  have u3 := (takeC (si := 9) h hx (by decide) hp).1
  have u4 := (takeC (si := 10) h hx (by decide) hp).1
  have u5 := (takeC (si := 11) h hx (by decide) hp).1
  have u6 := (takeC (si := 12) h hx (by decide) hp).1
  have u7 := (takeC (si := 16) h hx (by decide) hp).1
  by_cases m0 : mt c n p (wd 1)
  · have e0 := takeC1 h hx (si := 1) (by decide) hp m0
    have b0 := m0.1
    obtain ⟨ua, ka⟩ := addWayR (m := upd m 2 (nI (p + L))) hd
    by_cases w0 : isW c p L kW_way
    · have n0 : lg_cmp (wq c p L) (23609 : Int64) = 0 := (cmpW hr kO_way).mpr w0
      have eL : L = 3 := w0.1
      subst eL
      rcases ka with ⟨t', W', tr', k1, k2, k3, k4⟩ | ⟨k1, k2⟩
      · refine itemF h' hm pw hw (cP_way e0 u0 ua) (cI_way e0) (hI_way n0) (q0 := p + 3) ((gI_way n0).trans (by rw [k2])) b0 hL (by omega) (Or.inr ⟨n10, ?_, rfl, N + 1, ?_⟩)
        · rw [k1]; exact n10
        · rw [k1]; exact k4
      · refine itemF h' hm pw hw (cP_way e0 u0 ua) (cI_way e0) (hI_way n0) (q0 := p + 3) ((gI_way n0).trans (by rw [k2])) b0 hL (by omega) (Or.inl ⟨rfl, Or.inl ?_⟩)
        rw [k1]
    · have nn : ∀ w V, wOK w V → conf kW_way w = true → ¬ (lg_cmp (wq c p L) V = 0) := fun w V a b z => mtX b m0 (isW_mt hr a ((cmpW hr a).mp z))
      have n0 : ¬ (lg_cmp (wq c p L) (23609 : Int64) = 0) := fun z => w0 ((cmpW hr kO_way).mp z)
      exact itemF h' hm pw hw (cP_way e0 u0 ua) (cI_way e0) (hI_non n0 (nn _ _ kO_hop rfl) (nn _ _ kO_loss rfl) (nn _ _ kO_base rfl) (nn _ _ kO_top rfl) (nn _ _ kO_age rfl) (nn _ _ kO_believe rfl) (nn _ _ kO_draws rfl)) (gI_non n0 (nn _ _ kO_hop rfl) (nn _ _ kO_loss rfl) (nn _ _ kO_base rfl) (nn _ _ kO_top rfl) (nn _ _ kO_age rfl) (nn _ _ kO_believe rfl) (nn _ _ kO_draws rfl)) b0 hL (by omega) (Or.inl ⟨rfl, Or.inr (nsg hr kO_way m0 w0)⟩)
  have e0 := takeC0 h hx (si := 1) (by decide) hp m0
  have n0 : ¬ (lg_cmp (wq c p L) (23609 : Int64) = 0) := fun z => m0 (isW_mt hr kO_way ((cmpW hr kO_way).mp z))
  by_cases w1 : isW c p L kW_hop
  · have n1 : lg_cmp (wq c p L) (8688 : Int64) = 0 := (cmpW hr kO_hop).mpr w1
    have eL : L = 3 := w1.1
    subst eL
    by_cases hs : sg c n (p + 3) 32
    · have m1 : mt c n p (wd 2) := (mtB hr kO_hop.2.1).mpr ⟨w1, hs⟩
      have e1 : f_X2_take (upd x 1 (nI p)) lf 2 = (1, upd x 1 (nI (p + 3 + 1))) := takeC1 h hx (si := 2) (by decide) hp m1
      obtain ⟨y0, y1, a, W', LF', KF', q, b, q0, tr', y2, y3, y4, y5, y6, y7⟩ := readHopR h h' hx hm hd hs
      refine itemF h' hm pw hw (cP_hop e0 e1 u0 u1 y0) ((cI_hop e0 e1).trans (by rw [y2])) (hI_hop n0 n1 y1) ((gI_hop n0 n1).trans y3) y4 y5 (by omega) ?_
      rcases y7 with y7 | ⟨z1, z2, z3, z4⟩
      · exact Or.inl y7
      · exact Or.inr ⟨z1, z2, z3, N, z4⟩
    · have e1 : f_X2_take (upd x 1 (nI p)) lf 2 = (0, upd x 1 (nI p)) := takeC0 h hx (si := 2) (by decide) hp (fun z => hs ((mtB hr kO_hop.2.1).mp z).2)
      have mw := isW_mt hr kO_hop w1
      have e2 := takeC0 h hx (si := 8) (by decide) hp (fun z => mtX (w1 := kW_hop) (w2 := kW_loss) rfl mw (mt_app.mp z).1)
      have e3 := takeC0 h hx (si := 9) (by decide) hp (fun z => mtX (w1 := kW_hop) (w2 := kW_base) rfl mw (mt_app.mp z).1)
      have e4 := takeC0 h hx (si := 10) (by decide) hp (fun z => mtX (w1 := kW_hop) (w2 := kW_top) rfl mw (mt_app.mp z).1)
      have e5 := takeC0 h hx (si := 11) (by decide) hp (fun z => mtX (w1 := kW_hop) (w2 := kW_age) rfl mw (mt_app.mp z).1)
      have e6 := takeC0 h hx (si := 12) (by decide) hp (fun z => mtX (w1 := kW_hop) (w2 := kW_believe) rfl mw (mt_app.mp z).1)
      have e7 := takeC0 h hx (si := 16) (by decide) hp (fun z => mtX (w1 := kW_hop) (w2 := kW_draws) rfl mw (mt_app.mp z).1)
      obtain ⟨y0, y1⟩ := hop_nb (tr := tr) h' hm hL hs
      exact itemF h' hm pw hw (cP_non e0 e1 e2 e3 e4 e5 e6 e7 u0 u1 u2 u3 u4 u5 u6 u7) (cI_non e0 e1 e2 e3 e4 e5 e6 e7) (hI_hop n0 n1 y0) ((gI_hop n0 n1).trans y1) hp hL (Nat.le_refl _) (Or.inl ⟨rfl, Or.inl rfl⟩)
  have e1 := takeC0 h hx (si := 2) (by decide) hp (fun z => w1 ((mtB hr kO_hop.2.1).mp z).1)
  have n1 : ¬ (lg_cmp (wq c p L) (8688 : Int64) = 0) := fun z => w1 ((cmpW hr kO_hop).mp z)
  by_cases w2 : isW c p L kW_loss
  · have n2 : lg_cmp (wq c p L) (409203 : Int64) = 0 := (cmpW hr kO_loss).mpr w2
    have eL : L = 4 := w2.1
    subst eL
    by_cases hs : sg c n (p + 4) 32
    · have m2 : mt c n p (wd 8) := (mtB hr kO_loss.2.1).mpr ⟨w2, hs⟩
      have e2 : f_X2_take (upd x 1 (nI p)) lf 8 = (1, upd x 1 (nI (p + 4 + 1))) := takeC1 h hx (si := 8) (by decide) hp m2
      obtain ⟨y0, y1, a, W', q, b, q0, tr', y2, y3, y4, y5, y6, y7⟩ := readLossR h h' hx hm hd hs
      refine itemF h' hm pw hw (cP_loss e0 e1 e2 u0 u1 u2 y0) ((cI_loss e0 e1 e2).trans (by rw [y2])) (hI_loss n0 n1 n2 y1) ((gI_loss n0 n1 n2).trans y3) y4 y5 (by omega) ?_
      rcases y7 with y7 | ⟨z1, z2, z3, z4⟩
      · exact Or.inl y7
      · exact Or.inr ⟨z1, z2, z3, N, z4⟩
    · have e2 : f_X2_take (upd x 1 (nI p)) lf 8 = (0, upd x 1 (nI p)) := takeC0 h hx (si := 8) (by decide) hp (fun z => hs ((mtB hr kO_loss.2.1).mp z).2)
      have mw := isW_mt hr kO_loss w2
      have e3 := takeC0 h hx (si := 9) (by decide) hp (fun z => mtX (w1 := kW_loss) (w2 := kW_base) rfl mw (mt_app.mp z).1)
      have e4 := takeC0 h hx (si := 10) (by decide) hp (fun z => mtX (w1 := kW_loss) (w2 := kW_top) rfl mw (mt_app.mp z).1)
      have e5 := takeC0 h hx (si := 11) (by decide) hp (fun z => mtX (w1 := kW_loss) (w2 := kW_age) rfl mw (mt_app.mp z).1)
      have e6 := takeC0 h hx (si := 12) (by decide) hp (fun z => mtX (w1 := kW_loss) (w2 := kW_believe) rfl mw (mt_app.mp z).1)
      have e7 := takeC0 h hx (si := 16) (by decide) hp (fun z => mtX (w1 := kW_loss) (w2 := kW_draws) rfl mw (mt_app.mp z).1)
      obtain ⟨y0, tr', y1⟩ := loss_nb h' hm hd.2.2.2.1 hd.1 hL hs
      exact itemF h' hm pw hw (cP_non e0 e1 e2 e3 e4 e5 e6 e7 u0 u1 u2 u3 u4 u5 u6 u7) (cI_non e0 e1 e2 e3 e4 e5 e6 e7) (hI_loss n0 n1 n2 y0) ((gI_loss n0 n1 n2).trans y1) hp hL (Nat.le_refl _) (Or.inl ⟨rfl, Or.inl rfl⟩)
  have e2 := takeC0 h hx (si := 8) (by decide) hp (fun z => w2 ((mtB hr kO_loss.2.1).mp z).1)
  have n2 : ¬ (lg_cmp (wq c p L) (409203 : Int64) = 0) := fun z => w2 ((cmpW hr kO_loss).mp z)
  by_cases w3 : isW c p L kW_base
  · have n3 : lg_cmp (wq c p L) (67173 : Int64) = 0 := (cmpW hr kO_base).mpr w3
    have eL : L = 4 := w3.1
    subst eL
    by_cases hs : sg c n (p + 4) 32
    · have m3 : mt c n p (wd 9) := (mtB hr kO_base.2.1).mpr ⟨w3, hs⟩
      have e3 : f_X2_take (upd x 1 (nI p)) lf 9 = (1, upd x 1 (nI (p + 4 + 1))) := takeC1 h hx (si := 9) (by decide) hp m3
      obtain ⟨y0, y1, v, D, b, tr', y2, y3, y4, y5, y7⟩ := ruleB (lo := 20) (hi := 200) (k := 0) (place := (2 : Int32)) h h' hx hm hd hs (by decide) (by decide) (by decide) rfl (fun w a b => RB0 hd.2.2.2.2.2.2.1 a b)
      have y2' : f_X2_takeNumber (upd x 1 (nI (p + 4 + 1))) lf (20 : Int32) (200 : Int32) = (v, upd x 1 (nI D)) := y2
      refine itemF h' hm pw hw (cP_base e0 e1 e2 e3 u0 u1 u2 u3 y0) ((cI_base e0 e1 e2 e3).trans (by rw [y2'])) (hI_base n0 n1 n2 n3 y1) ((gI_base n0 n1 n2 n3).trans y3) y4 y4 (by omega) ?_
      rcases y7 with ⟨z1, z2⟩ | ⟨z1, z2, z4⟩
      · exact Or.inl ⟨z1, Or.inl (if_pos z2)⟩
      · refine Or.inr ⟨z1, ?_, rfl, N, z4⟩
        show ¬ ((if v = (-4 : Int32) then (0 : Int32) else 1) = 0)
        rw [if_neg z2]; exact n10
    · have e3 : f_X2_take (upd x 1 (nI p)) lf 9 = (0, upd x 1 (nI p)) := takeC0 h hx (si := 9) (by decide) hp (fun z => hs ((mtB hr kO_base.2.1).mp z).2)
      have mw := isW_mt hr kO_base w3
      have e4 := takeC0 h hx (si := 10) (by decide) hp (fun z => mtX (w1 := kW_base) (w2 := kW_top) rfl mw (mt_app.mp z).1)
      have e5 := takeC0 h hx (si := 11) (by decide) hp (fun z => mtX (w1 := kW_base) (w2 := kW_age) rfl mw (mt_app.mp z).1)
      have e6 := takeC0 h hx (si := 12) (by decide) hp (fun z => mtX (w1 := kW_base) (w2 := kW_believe) rfl mw (mt_app.mp z).1)
      have e7 := takeC0 h hx (si := 16) (by decide) hp (fun z => mtX (w1 := kW_base) (w2 := kW_draws) rfl mw (mt_app.mp z).1)
      obtain ⟨y0, y1⟩ := puts_nb (tr := tr) (lo := 20) (hi := 200) (place := (2 : Int32)) (pl := 2) h' hm hL (by decide) (by decide) hs rfl (by decide)
      exact itemF h' hm pw hw (cP_non e0 e1 e2 e3 e4 e5 e6 e7 u0 u1 u2 u3 u4 u5 u6 u7) (cI_non e0 e1 e2 e3 e4 e5 e6 e7) (hI_base n0 n1 n2 n3 y0) ((gI_base n0 n1 n2 n3).trans y1) hp hL (Nat.le_refl _) (Or.inl ⟨rfl, Or.inl rfl⟩)
  have e3 := takeC0 h hx (si := 9) (by decide) hp (fun z => w3 ((mtB hr kO_base.2.1).mp z).1)
  have n3 : ¬ (lg_cmp (wq c p L) (67173 : Int64) = 0) := fun z => w3 ((cmpW hr kO_base).mp z)
  by_cases w4 : isW c p L kW_top
  · have n4 : lg_cmp (wq c p L) (20976 : Int64) = 0 := (cmpW hr kO_top).mpr w4
    have eL : L = 3 := w4.1
    subst eL
    by_cases hs : sg c n (p + 3) 32
    · have m4 : mt c n p (wd 10) := (mtB hr kO_top.2.1).mpr ⟨w4, hs⟩
      have e4 : f_X2_take (upd x 1 (nI p)) lf 10 = (1, upd x 1 (nI (p + 3 + 1))) := takeC1 h hx (si := 10) (by decide) hp m4
      obtain ⟨y0, y1, v, D, b, tr', y2, y3, y4, y5, y7⟩ := ruleB (lo := 200) (hi := 999) (k := 1) (place := (3 : Int32)) h h' hx hm hd hs (by decide) (by decide) (by decide) rfl (fun w a b => RB1 hd.2.2.2.2.2.2.1 a b)
      have y2' : f_X2_takeNumber (upd x 1 (nI (p + 3 + 1))) lf (200 : Int32) (999 : Int32) = (v, upd x 1 (nI D)) := y2
      refine itemF h' hm pw hw (cP_top e0 e1 e2 e3 e4 u0 u1 u2 u3 u4 y0) ((cI_top e0 e1 e2 e3 e4).trans (by rw [y2'])) (hI_top n0 n1 n2 n3 n4 y1) ((gI_top n0 n1 n2 n3 n4).trans y3) y4 y4 (by omega) ?_
      rcases y7 with ⟨z1, z2⟩ | ⟨z1, z2, z4⟩
      · exact Or.inl ⟨z1, Or.inl (if_pos z2)⟩
      · refine Or.inr ⟨z1, ?_, rfl, N, z4⟩
        show ¬ ((if v = (-4 : Int32) then (0 : Int32) else 1) = 0)
        rw [if_neg z2]; exact n10
    · have e4 : f_X2_take (upd x 1 (nI p)) lf 10 = (0, upd x 1 (nI p)) := takeC0 h hx (si := 10) (by decide) hp (fun z => hs ((mtB hr kO_top.2.1).mp z).2)
      have mw := isW_mt hr kO_top w4
      have e5 := takeC0 h hx (si := 11) (by decide) hp (fun z => mtX (w1 := kW_top) (w2 := kW_age) rfl mw (mt_app.mp z).1)
      have e6 := takeC0 h hx (si := 12) (by decide) hp (fun z => mtX (w1 := kW_top) (w2 := kW_believe) rfl mw (mt_app.mp z).1)
      have e7 := takeC0 h hx (si := 16) (by decide) hp (fun z => mtX (w1 := kW_top) (w2 := kW_draws) rfl mw (mt_app.mp z).1)
      obtain ⟨y0, y1⟩ := puts_nb (tr := tr) (lo := 200) (hi := 999) (place := (3 : Int32)) (pl := 3) h' hm hL (by decide) (by decide) hs rfl (by decide)
      exact itemF h' hm pw hw (cP_non e0 e1 e2 e3 e4 e5 e6 e7 u0 u1 u2 u3 u4 u5 u6 u7) (cI_non e0 e1 e2 e3 e4 e5 e6 e7) (hI_top n0 n1 n2 n3 n4 y0) ((gI_top n0 n1 n2 n3 n4).trans y1) hp hL (Nat.le_refl _) (Or.inl ⟨rfl, Or.inl rfl⟩)
  have e4 := takeC0 h hx (si := 10) (by decide) hp (fun z => w4 ((mtB hr kO_top.2.1).mp z).1)
  have n4 : ¬ (lg_cmp (wq c p L) (20976 : Int64) = 0) := fun z => w4 ((cmpW hr kO_top).mp z)
  by_cases w5 : isW c p L kW_age
  · have n5 : lg_cmp (wq c p L) (1253 : Int64) = 0 := (cmpW hr kO_age).mpr w5
    have eL : L = 3 := w5.1
    subst eL
    by_cases hs : sg c n (p + 3) 32
    · have m5 : mt c n p (wd 11) := (mtB hr kO_age.2.1).mpr ⟨w5, hs⟩
      have e5 : f_X2_take (upd x 1 (nI p)) lf 11 = (1, upd x 1 (nI (p + 3 + 1))) := takeC1 h hx (si := 11) (by decide) hp m5
      obtain ⟨y0, y1, v, D, b, tr', y2, y3, y4, y5, y7⟩ := ruleB (lo := 1) (hi := 99) (k := 2) (place := (4 : Int32)) h h' hx hm hd hs (by decide) (by decide) (by decide) rfl (fun w a b => RB2 hd.2.2.2.2.2.2.1 a b)
      have y2' : f_X2_takeNumber (upd x 1 (nI (p + 3 + 1))) lf (1 : Int32) (99 : Int32) = (v, upd x 1 (nI D)) := y2
      refine itemF h' hm pw hw (cP_age e0 e1 e2 e3 e4 e5 u0 u1 u2 u3 u4 u5 y0) ((cI_age e0 e1 e2 e3 e4 e5).trans (by rw [y2'])) (hI_age n0 n1 n2 n3 n4 n5 y1) ((gI_age n0 n1 n2 n3 n4 n5).trans y3) y4 y4 (by omega) ?_
      rcases y7 with ⟨z1, z2⟩ | ⟨z1, z2, z4⟩
      · exact Or.inl ⟨z1, Or.inl (if_pos z2)⟩
      · refine Or.inr ⟨z1, ?_, rfl, N, z4⟩
        show ¬ ((if v = (-4 : Int32) then (0 : Int32) else 1) = 0)
        rw [if_neg z2]; exact n10
    · have e5 : f_X2_take (upd x 1 (nI p)) lf 11 = (0, upd x 1 (nI p)) := takeC0 h hx (si := 11) (by decide) hp (fun z => hs ((mtB hr kO_age.2.1).mp z).2)
      have mw := isW_mt hr kO_age w5
      have e6 := takeC0 h hx (si := 12) (by decide) hp (fun z => mtX (w1 := kW_age) (w2 := kW_believe) rfl mw (mt_app.mp z).1)
      have e7 := takeC0 h hx (si := 16) (by decide) hp (fun z => mtX (w1 := kW_age) (w2 := kW_draws) rfl mw (mt_app.mp z).1)
      obtain ⟨y0, y1⟩ := puts_nb (tr := tr) (lo := 1) (hi := 99) (place := (4 : Int32)) (pl := 4) h' hm hL (by decide) (by decide) hs rfl (by decide)
      exact itemF h' hm pw hw (cP_non e0 e1 e2 e3 e4 e5 e6 e7 u0 u1 u2 u3 u4 u5 u6 u7) (cI_non e0 e1 e2 e3 e4 e5 e6 e7) (hI_age n0 n1 n2 n3 n4 n5 y0) ((gI_age n0 n1 n2 n3 n4 n5).trans y1) hp hL (Nat.le_refl _) (Or.inl ⟨rfl, Or.inl rfl⟩)
  have e5 := takeC0 h hx (si := 11) (by decide) hp (fun z => w5 ((mtB hr kO_age.2.1).mp z).1)
  have n5 : ¬ (lg_cmp (wq c p L) (1253 : Int64) = 0) := fun z => w5 ((cmpW hr kO_age).mp z)
  by_cases w6 : isW c p L kW_believe
  · have n6 : lg_cmp (wq c p L) (2328139461 : Int64) = 0 := (cmpW hr kO_believe).mpr w6
    have eL : L = 7 := w6.1
    subst eL
    by_cases hs : sg c n (p + 7) 32
    · have m6 : mt c n p (wd 12) := (mtB hr kO_believe.2.1).mpr ⟨w6, hs⟩
      have e6 : f_X2_take (upd x 1 (nI p)) lf 12 = (1, upd x 1 (nI (p + 7 + 1))) := takeC1 h hx (si := 12) (by decide) hp m6
      obtain ⟨y0, y1, v, q, b, q0, tr', y2, y3, y4, y5, y6, y7⟩ := beliefB h h' hx hm hd hs
      refine itemF h' hm pw hw (cP_believe e0 e1 e2 e3 e4 e5 e6 u0 u1 u2 u3 u4 u5 u6 y0) ((cI_believe e0 e1 e2 e3 e4 e5 e6).trans (by rw [y2])) (hI_believe n0 n1 n2 n3 n4 n5 n6 y1) ((gI_believe n0 n1 n2 n3 n4 n5 n6).trans y3) y4 y5 (by omega) ?_
      rcases y7 with ⟨z1, z2⟩ | ⟨z1, z2, z3, z4⟩
      · refine Or.inl ⟨z1, ?_⟩
        rcases z2 with z2 | z2
        · exact Or.inl (if_pos z2)
        · exact Or.inr z2
      · refine Or.inr ⟨z1, ?_, z3, N, z4⟩
        show ¬ ((if v = (-4 : Int32) then (0 : Int32) else 1) = 0)
        rw [if_neg z2]; exact n10
    · have e6 : f_X2_take (upd x 1 (nI p)) lf 12 = (0, upd x 1 (nI p)) := takeC0 h hx (si := 12) (by decide) hp (fun z => hs ((mtB hr kO_believe.2.1).mp z).2)
      have mw := isW_mt hr kO_believe w6
      have e7 := takeC0 h hx (si := 16) (by decide) hp (fun z => mtX (w1 := kW_believe) (w2 := kW_draws) rfl mw (mt_app.mp z).1)
      obtain ⟨y0, y1⟩ := believe_nb (tr := tr) h' hm hL hs
      exact itemF h' hm pw hw (cP_non e0 e1 e2 e3 e4 e5 e6 e7 u0 u1 u2 u3 u4 u5 u6 u7) (cI_non e0 e1 e2 e3 e4 e5 e6 e7) (hI_believe n0 n1 n2 n3 n4 n5 n6 y0) ((gI_believe n0 n1 n2 n3 n4 n5 n6).trans y1) hp hL (Nat.le_refl _) (Or.inl ⟨rfl, Or.inl rfl⟩)
  have e6 := takeC0 h hx (si := 12) (by decide) hp (fun z => w6 ((mtB hr kO_believe.2.1).mp z).1)
  have n6 : ¬ (lg_cmp (wq c p L) (2328139461 : Int64) = 0) := fun z => w6 ((cmpW hr kO_believe).mp z)
  by_cases w7 : isW c p L kW_draws
  · have n7 : lg_cmp (wq c p L) (4785907 : Int64) = 0 := (cmpW hr kO_draws).mpr w7
    have eL : L = 5 := w7.1
    subst eL
    by_cases hs : sg c n (p + 5) 32
    · have m7 : mt c n p (wd 16) := (mtB hr kO_draws.2.1).mpr ⟨w7, hs⟩
      have e7 : f_X2_take (upd x 1 (nI p)) lf 16 = (1, upd x 1 (nI (p + 5 + 1))) := takeC1 h hx (si := 16) (by decide) hp m7
      obtain ⟨y0, y1, v, D, b, tr', y2, y3, y4, y5, y7⟩ := ruleB (lo := 0) (hi := 9999) (k := 4) (place := (6 : Int32)) h h' hx hm hd hs (by decide) (by decide) (by decide) rfl (fun w a b => RB3 hd.2.2.2.2.2.2.1 (by decide))
      have y2' : f_X2_takeNumber (upd x 1 (nI (p + 5 + 1))) lf (0 : Int32) (9999 : Int32) = (v, upd x 1 (nI D)) := y2
      refine itemF h' hm pw hw (cP_draws e0 e1 e2 e3 e4 e5 e6 e7 u0 u1 u2 u3 u4 u5 u6 u7 y0) ((cI_draws e0 e1 e2 e3 e4 e5 e6 e7).trans (by rw [y2'])) (hI_draws n0 n1 n2 n3 n4 n5 n6 n7 y1) ((gI_draws n0 n1 n2 n3 n4 n5 n6 n7).trans y3) y4 y4 (by omega) ?_
      rcases y7 with ⟨z1, z2⟩ | ⟨z1, z2, z4⟩
      · exact Or.inl ⟨z1, Or.inl (if_pos z2)⟩
      · refine Or.inr ⟨z1, ?_, rfl, N, z4⟩
        show ¬ ((if v = (-4 : Int32) then (0 : Int32) else 1) = 0)
        rw [if_neg z2]; exact n10
    · have e7 : f_X2_take (upd x 1 (nI p)) lf 16 = (0, upd x 1 (nI p)) := takeC0 h hx (si := 16) (by decide) hp (fun z => hs ((mtB hr kO_draws.2.1).mp z).2)
      have mw := isW_mt hr kO_draws w7
      obtain ⟨y0, y1⟩ := puts_nb (tr := tr) (lo := 0) (hi := 9999) (place := (6 : Int32)) (pl := 6) h' hm hL (by decide) (by decide) hs rfl (by decide)
      exact itemF h' hm pw hw (cP_non e0 e1 e2 e3 e4 e5 e6 e7 u0 u1 u2 u3 u4 u5 u6 u7) (cI_non e0 e1 e2 e3 e4 e5 e6 e7) (hI_draws n0 n1 n2 n3 n4 n5 n6 n7 y0) ((gI_draws n0 n1 n2 n3 n4 n5 n6 n7).trans y1) hp hL (Nat.le_refl _) (Or.inl ⟨rfl, Or.inl rfl⟩)
  have e7 := takeC0 h hx (si := 16) (by decide) hp (fun z => w7 ((mtB hr kO_draws.2.1).mp z).1)
  have n7 : ¬ (lg_cmp (wq c p L) (4785907 : Int64) = 0) := fun z => w7 ((cmpW hr kO_draws).mp z)
  exact itemF h' hm pw hw (cP_non e0 e1 e2 e3 e4 e5 e6 e7 u0 u1 u2 u3 u4 u5 u6 u7) (cI_non e0 e1 e2 e3 e4 e5 e6 e7) (hI_non n0 n1 n2 n3 n4 n5 n6 n7) (gI_non n0 n1 n2 n3 n4 n5 n6 n7) hp hL (Nat.le_refl _) (Or.inl ⟨rfl, Or.inl rfl⟩)
