theorem cOutE {a k b : Nat} (h : (Nat.ble (k + 1) b || Nat.ble (b + 60) k) = true) : a + k < a + b ∨ a + b + 60 ≤ a + k := by
  rw [Bool.or_eq_true] at h
  rcases h with h | h
  · have := Nat.le_of_ble_eq_true h; omega
  · have := Nat.le_of_ble_eq_true h; omega
theorem cOutE0 {a b : Nat} (h : Nat.ble 1 b = true) : a < a + b ∨ a + b + 60 ≤ a := Or.inl (cTo0 h)
theorem nt_X4_write_0 (g : Nat) : ¬ (g = (g + 1) ∨ g = (g + 2)) := by omega
theorem nt_X4_write_r3 (g q : Nat) (u1 : (g + 3) ≤ q) (u2 : q < (g + 3) + 15) : ¬ (q = (g + 1) ∨ q = (g + 2)) := by omega
theorem nt_X4_write_r18 (g q : Nat) (u1 : (g + 18) ≤ q) (u2 : q < (g + 18) + 15) : ¬ (q = (g + 1) ∨ q = (g + 2)) := by omega
theorem nt_X4_write_33 (g : Nat) : ¬ ((g + 33) = (g + 1) ∨ (g + 33) = (g + 2)) := by omega
theorem nt_X4_write_r38 (g q : Nat) (u1 : (g + 38) ≤ q) (u2 : q < (g + 38) + 60) : ¬ (q = (g + 1) ∨ q = (g + 2)) := by omega
theorem nt_X4_write_34 (g : Nat) : ¬ ((g + 34) = (g + 1) ∨ (g + 34) = (g + 2)) := by omega
theorem nt_X4_write_35 (g : Nat) : ¬ ((g + 35) = (g + 1) ∨ (g + 35) = (g + 2)) := by omega
theorem nt_X4_write_36 (g : Nat) : ¬ ((g + 36) = (g + 1) ∨ (g + 36) = (g + 2)) := by omega
theorem nt_X4_write_37 (g : Nat) : ¬ ((g + 37) = (g + 1) ∨ (g + 37) = (g + 2)) := by omega
theorem nt_X4_write_98 (g : Nat) : ¬ ((g + 98) = (g + 1) ∨ (g + 98) = (g + 2)) := by omega
theorem nt_X4_write_99 (g : Nat) : ¬ ((g + 99) = (g + 1) ∨ (g + 99) = (g + 2)) := by omega
theorem nt_X4_write_100 (g : Nat) : ¬ ((g + 100) = (g + 1) ∨ (g + 100) = (g + 2)) := by omega
theorem nt_X4_write_101 (g : Nat) : ¬ ((g + 101) = (g + 1) ∨ (g + 101) = (g + 2)) := by omega
theorem nt_X4_write_102 (g : Nat) : ¬ ((g + 102) = (g + 1) ∨ (g + 102) = (g + 2)) := by omega
theorem nt_X4_write_103 (g : Nat) : ¬ ((g + 103) = (g + 1) ∨ (g + 103) = (g + 2)) := by omega
theorem nt_X4_wipe_0 (g : Nat) : ¬ (g = (g + 1)) := by omega
theorem nt_X4_wipe_2 (g : Nat) : ¬ ((g + 2) = (g + 1)) := by omega
theorem nt_X4_wipe_r3 (g q : Nat) (u1 : (g + 3) ≤ q) (u2 : q < (g + 3) + 15) : ¬ (q = (g + 1)) := by omega
theorem nt_X4_wipe_r18 (g q : Nat) (u1 : (g + 18) ≤ q) (u2 : q < (g + 18) + 15) : ¬ (q = (g + 1)) := by omega
theorem nt_X4_wipe_33 (g : Nat) : ¬ ((g + 33) = (g + 1)) := by omega
theorem nt_X4_wipe_r38 (g q : Nat) (u1 : (g + 38) ≤ q) (u2 : q < (g + 38) + 60) : ¬ (q = (g + 1)) := by omega
theorem nt_X4_wipe_34 (g : Nat) : ¬ ((g + 34) = (g + 1)) := by omega
theorem nt_X4_wipe_35 (g : Nat) : ¬ ((g + 35) = (g + 1)) := by omega
theorem nt_X4_wipe_36 (g : Nat) : ¬ ((g + 36) = (g + 1)) := by omega
theorem nt_X4_wipe_37 (g : Nat) : ¬ ((g + 37) = (g + 1)) := by omega
theorem nt_X4_wipe_98 (g : Nat) : ¬ ((g + 98) = (g + 1)) := by omega
theorem nt_X4_wipe_99 (g : Nat) : ¬ ((g + 99) = (g + 1)) := by omega
theorem nt_X4_wipe_100 (g : Nat) : ¬ ((g + 100) = (g + 1)) := by omega
theorem nt_X4_wipe_101 (g : Nat) : ¬ ((g + 101) = (g + 1)) := by omega
theorem nt_X4_wipe_102 (g : Nat) : ¬ ((g + 102) = (g + 1)) := by omega
theorem nt_X4_wipe_103 (g : Nat) : ¬ ((g + 103) = (g + 1)) := by omega
theorem nt_X4_fault_0 (g : Nat) : ¬ (g = (g + 1) ∨ ((g + 18) ≤ g ∧ g < (g + 18) + 15)) := by omega
theorem nt_X4_fault_2 (g : Nat) : ¬ ((g + 2) = (g + 1) ∨ ((g + 18) ≤ (g + 2) ∧ (g + 2) < (g + 18) + 15)) := by omega
theorem nt_X4_fault_r3 (g q : Nat) (u1 : (g + 3) ≤ q) (u2 : q < (g + 3) + 15) : ¬ (q = (g + 1) ∨ ((g + 18) ≤ q ∧ q < (g + 18) + 15)) := by omega
theorem nt_X4_fault_33 (g : Nat) : ¬ ((g + 33) = (g + 1) ∨ ((g + 18) ≤ (g + 33) ∧ (g + 33) < (g + 18) + 15)) := by omega
theorem nt_X4_fault_r38 (g q : Nat) (u1 : (g + 38) ≤ q) (u2 : q < (g + 38) + 60) : ¬ (q = (g + 1) ∨ ((g + 18) ≤ q ∧ q < (g + 18) + 15)) := by omega
theorem nt_X4_fault_34 (g : Nat) : ¬ ((g + 34) = (g + 1) ∨ ((g + 18) ≤ (g + 34) ∧ (g + 34) < (g + 18) + 15)) := by omega
theorem nt_X4_fault_35 (g : Nat) : ¬ ((g + 35) = (g + 1) ∨ ((g + 18) ≤ (g + 35) ∧ (g + 35) < (g + 18) + 15)) := by omega
theorem nt_X4_fault_36 (g : Nat) : ¬ ((g + 36) = (g + 1) ∨ ((g + 18) ≤ (g + 36) ∧ (g + 36) < (g + 18) + 15)) := by omega
theorem nt_X4_fault_37 (g : Nat) : ¬ ((g + 37) = (g + 1) ∨ ((g + 18) ≤ (g + 37) ∧ (g + 37) < (g + 18) + 15)) := by omega
theorem nt_X4_fault_98 (g : Nat) : ¬ ((g + 98) = (g + 1) ∨ ((g + 18) ≤ (g + 98) ∧ (g + 98) < (g + 18) + 15)) := by omega
theorem nt_X4_fault_99 (g : Nat) : ¬ ((g + 99) = (g + 1) ∨ ((g + 18) ≤ (g + 99) ∧ (g + 99) < (g + 18) + 15)) := by omega
theorem nt_X4_fault_100 (g : Nat) : ¬ ((g + 100) = (g + 1) ∨ ((g + 18) ≤ (g + 100) ∧ (g + 100) < (g + 18) + 15)) := by omega
theorem nt_X4_fault_101 (g : Nat) : ¬ ((g + 101) = (g + 1) ∨ ((g + 18) ≤ (g + 101) ∧ (g + 101) < (g + 18) + 15)) := by omega
theorem nt_X4_fault_102 (g : Nat) : ¬ ((g + 102) = (g + 1) ∨ ((g + 18) ≤ (g + 102) ∧ (g + 102) < (g + 18) + 15)) := by omega
theorem nt_X4_fault_103 (g : Nat) : ¬ ((g + 103) = (g + 1) ∨ ((g + 18) ≤ (g + 103) ∧ (g + 103) < (g + 18) + 15)) := by omega
theorem nt_X4_lay_2 (g : Nat) : ¬ ((g + 2) = g ∨ (g + 2) = (g + 1) ∨ ((g + 3) ≤ (g + 2) ∧ (g + 2) < (g + 3) + 15) ∨ ((g + 18) ≤ (g + 2) ∧ (g + 2) < (g + 18) + 15)) := by omega
theorem nt_X4_lay_33 (g : Nat) : ¬ ((g + 33) = g ∨ (g + 33) = (g + 1) ∨ ((g + 3) ≤ (g + 33) ∧ (g + 33) < (g + 3) + 15) ∨ ((g + 18) ≤ (g + 33) ∧ (g + 33) < (g + 18) + 15)) := by omega
theorem nt_X4_lay_r38 (g q : Nat) (u1 : (g + 38) ≤ q) (u2 : q < (g + 38) + 60) : ¬ (q = g ∨ q = (g + 1) ∨ ((g + 3) ≤ q ∧ q < (g + 3) + 15) ∨ ((g + 18) ≤ q ∧ q < (g + 18) + 15)) := by omega
theorem nt_X4_lay_34 (g : Nat) : ¬ ((g + 34) = g ∨ (g + 34) = (g + 1) ∨ ((g + 3) ≤ (g + 34) ∧ (g + 34) < (g + 3) + 15) ∨ ((g + 18) ≤ (g + 34) ∧ (g + 34) < (g + 18) + 15)) := by omega
theorem nt_X4_lay_35 (g : Nat) : ¬ ((g + 35) = g ∨ (g + 35) = (g + 1) ∨ ((g + 3) ≤ (g + 35) ∧ (g + 35) < (g + 3) + 15) ∨ ((g + 18) ≤ (g + 35) ∧ (g + 35) < (g + 18) + 15)) := by omega
theorem nt_X4_lay_36 (g : Nat) : ¬ ((g + 36) = g ∨ (g + 36) = (g + 1) ∨ ((g + 3) ≤ (g + 36) ∧ (g + 36) < (g + 3) + 15) ∨ ((g + 18) ≤ (g + 36) ∧ (g + 36) < (g + 18) + 15)) := by omega
theorem nt_X4_lay_37 (g : Nat) : ¬ ((g + 37) = g ∨ (g + 37) = (g + 1) ∨ ((g + 3) ≤ (g + 37) ∧ (g + 37) < (g + 3) + 15) ∨ ((g + 18) ≤ (g + 37) ∧ (g + 37) < (g + 18) + 15)) := by omega
theorem nt_X4_lay_98 (g : Nat) : ¬ ((g + 98) = g ∨ (g + 98) = (g + 1) ∨ ((g + 3) ≤ (g + 98) ∧ (g + 98) < (g + 3) + 15) ∨ ((g + 18) ≤ (g + 98) ∧ (g + 98) < (g + 18) + 15)) := by omega
theorem nt_X4_lay_99 (g : Nat) : ¬ ((g + 99) = g ∨ (g + 99) = (g + 1) ∨ ((g + 3) ≤ (g + 99) ∧ (g + 99) < (g + 3) + 15) ∨ ((g + 18) ≤ (g + 99) ∧ (g + 99) < (g + 18) + 15)) := by omega
theorem nt_X4_lay_100 (g : Nat) : ¬ ((g + 100) = g ∨ (g + 100) = (g + 1) ∨ ((g + 3) ≤ (g + 100) ∧ (g + 100) < (g + 3) + 15) ∨ ((g + 18) ≤ (g + 100) ∧ (g + 100) < (g + 18) + 15)) := by omega
theorem nt_X4_lay_101 (g : Nat) : ¬ ((g + 101) = g ∨ (g + 101) = (g + 1) ∨ ((g + 3) ≤ (g + 101) ∧ (g + 101) < (g + 3) + 15) ∨ ((g + 18) ≤ (g + 101) ∧ (g + 101) < (g + 18) + 15)) := by omega
theorem nt_X4_lay_102 (g : Nat) : ¬ ((g + 102) = g ∨ (g + 102) = (g + 1) ∨ ((g + 3) ≤ (g + 102) ∧ (g + 102) < (g + 3) + 15) ∨ ((g + 18) ≤ (g + 102) ∧ (g + 102) < (g + 18) + 15)) := by omega
theorem nt_X4_lay_103 (g : Nat) : ¬ ((g + 103) = g ∨ (g + 103) = (g + 1) ∨ ((g + 3) ≤ (g + 103) ∧ (g + 103) < (g + 3) + 15) ∨ ((g + 18) ≤ (g + 103) ∧ (g + 103) < (g + 18) + 15)) := by omega
theorem nt_X4_tick_1 (g : Nat) : ¬ ((g + 1) = g ∨ ((g + 3) ≤ (g + 1) ∧ (g + 1) < (g + 3) + 15) ∨ ((g + 38) ≤ (g + 1) ∧ (g + 1) < (g + 38) + 60)) := by omega
theorem nt_X4_tick_2 (g : Nat) : ¬ ((g + 2) = g ∨ ((g + 3) ≤ (g + 2) ∧ (g + 2) < (g + 3) + 15) ∨ ((g + 38) ≤ (g + 2) ∧ (g + 2) < (g + 38) + 60)) := by omega
theorem nt_X4_tick_r18 (g q : Nat) (u1 : (g + 18) ≤ q) (u2 : q < (g + 18) + 15) : ¬ (q = g ∨ ((g + 3) ≤ q ∧ q < (g + 3) + 15) ∨ ((g + 38) ≤ q ∧ q < (g + 38) + 60)) := by omega
theorem nt_X4_tick_33 (g : Nat) : ¬ ((g + 33) = g ∨ ((g + 3) ≤ (g + 33) ∧ (g + 33) < (g + 3) + 15) ∨ ((g + 38) ≤ (g + 33) ∧ (g + 33) < (g + 38) + 60)) := by omega
theorem nt_X4_tick_34 (g : Nat) : ¬ ((g + 34) = g ∨ ((g + 3) ≤ (g + 34) ∧ (g + 34) < (g + 3) + 15) ∨ ((g + 38) ≤ (g + 34) ∧ (g + 34) < (g + 38) + 60)) := by omega
theorem nt_X4_tick_35 (g : Nat) : ¬ ((g + 35) = g ∨ ((g + 3) ≤ (g + 35) ∧ (g + 35) < (g + 3) + 15) ∨ ((g + 38) ≤ (g + 35) ∧ (g + 35) < (g + 38) + 60)) := by omega
theorem nt_X4_tick_36 (g : Nat) : ¬ ((g + 36) = g ∨ ((g + 3) ≤ (g + 36) ∧ (g + 36) < (g + 3) + 15) ∨ ((g + 38) ≤ (g + 36) ∧ (g + 36) < (g + 38) + 60)) := by omega
theorem nt_X4_tick_37 (g : Nat) : ¬ ((g + 37) = g ∨ ((g + 3) ≤ (g + 37) ∧ (g + 37) < (g + 3) + 15) ∨ ((g + 38) ≤ (g + 37) ∧ (g + 37) < (g + 38) + 60)) := by omega
theorem nt_X4_tick_98 (g : Nat) : ¬ ((g + 98) = g ∨ ((g + 3) ≤ (g + 98) ∧ (g + 98) < (g + 3) + 15) ∨ ((g + 38) ≤ (g + 98) ∧ (g + 98) < (g + 38) + 60)) := by omega
theorem nt_X4_tick_99 (g : Nat) : ¬ ((g + 99) = g ∨ ((g + 3) ≤ (g + 99) ∧ (g + 99) < (g + 3) + 15) ∨ ((g + 38) ≤ (g + 99) ∧ (g + 99) < (g + 38) + 60)) := by omega
theorem nt_X4_tick_100 (g : Nat) : ¬ ((g + 100) = g ∨ ((g + 3) ≤ (g + 100) ∧ (g + 100) < (g + 3) + 15) ∨ ((g + 38) ≤ (g + 100) ∧ (g + 100) < (g + 38) + 60)) := by omega
theorem nt_X4_tick_101 (g : Nat) : ¬ ((g + 101) = g ∨ ((g + 3) ≤ (g + 101) ∧ (g + 101) < (g + 3) + 15) ∨ ((g + 38) ≤ (g + 101) ∧ (g + 101) < (g + 38) + 60)) := by omega
theorem nt_X4_tick_102 (g : Nat) : ¬ ((g + 102) = g ∨ ((g + 3) ≤ (g + 102) ∧ (g + 102) < (g + 3) + 15) ∨ ((g + 38) ≤ (g + 102) ∧ (g + 102) < (g + 38) + 60)) := by omega
theorem nt_X4_tick_103 (g : Nat) : ¬ ((g + 103) = g ∨ ((g + 3) ≤ (g + 103) ∧ (g + 103) < (g + 3) + 15) ∨ ((g + 38) ≤ (g + 103) ∧ (g + 103) < (g + 38) + 60)) := by omega
theorem nt_X4_send_1 (g : Nat) : ¬ ((g + 1) = g ∨ ((g + 3) ≤ (g + 1) ∧ (g + 1) < (g + 3) + 15) ∨ ((g + 38) ≤ (g + 1) ∧ (g + 1) < (g + 38) + 60)) := by omega
theorem nt_X4_send_2 (g : Nat) : ¬ ((g + 2) = g ∨ ((g + 3) ≤ (g + 2) ∧ (g + 2) < (g + 3) + 15) ∨ ((g + 38) ≤ (g + 2) ∧ (g + 2) < (g + 38) + 60)) := by omega
theorem nt_X4_send_r18 (g q : Nat) (u1 : (g + 18) ≤ q) (u2 : q < (g + 18) + 15) : ¬ (q = g ∨ ((g + 3) ≤ q ∧ q < (g + 3) + 15) ∨ ((g + 38) ≤ q ∧ q < (g + 38) + 60)) := by omega
theorem nt_X4_send_33 (g : Nat) : ¬ ((g + 33) = g ∨ ((g + 3) ≤ (g + 33) ∧ (g + 33) < (g + 3) + 15) ∨ ((g + 38) ≤ (g + 33) ∧ (g + 33) < (g + 38) + 60)) := by omega
theorem nt_X4_send_34 (g : Nat) : ¬ ((g + 34) = g ∨ ((g + 3) ≤ (g + 34) ∧ (g + 34) < (g + 3) + 15) ∨ ((g + 38) ≤ (g + 34) ∧ (g + 34) < (g + 38) + 60)) := by omega
theorem nt_X4_send_35 (g : Nat) : ¬ ((g + 35) = g ∨ ((g + 3) ≤ (g + 35) ∧ (g + 35) < (g + 3) + 15) ∨ ((g + 38) ≤ (g + 35) ∧ (g + 35) < (g + 38) + 60)) := by omega
theorem nt_X4_send_36 (g : Nat) : ¬ ((g + 36) = g ∨ ((g + 3) ≤ (g + 36) ∧ (g + 36) < (g + 3) + 15) ∨ ((g + 38) ≤ (g + 36) ∧ (g + 36) < (g + 38) + 60)) := by omega
theorem nt_X4_send_37 (g : Nat) : ¬ ((g + 37) = g ∨ ((g + 3) ≤ (g + 37) ∧ (g + 37) < (g + 3) + 15) ∨ ((g + 38) ≤ (g + 37) ∧ (g + 37) < (g + 38) + 60)) := by omega
theorem nt_X4_send_98 (g : Nat) : ¬ ((g + 98) = g ∨ ((g + 3) ≤ (g + 98) ∧ (g + 98) < (g + 3) + 15) ∨ ((g + 38) ≤ (g + 98) ∧ (g + 98) < (g + 38) + 60)) := by omega
theorem nt_X4_send_99 (g : Nat) : ¬ ((g + 99) = g ∨ ((g + 3) ≤ (g + 99) ∧ (g + 99) < (g + 3) + 15) ∨ ((g + 38) ≤ (g + 99) ∧ (g + 99) < (g + 38) + 60)) := by omega
theorem nt_X4_send_100 (g : Nat) : ¬ ((g + 100) = g ∨ ((g + 3) ≤ (g + 100) ∧ (g + 100) < (g + 3) + 15) ∨ ((g + 38) ≤ (g + 100) ∧ (g + 100) < (g + 38) + 60)) := by omega
theorem nt_X4_send_101 (g : Nat) : ¬ ((g + 101) = g ∨ ((g + 3) ≤ (g + 101) ∧ (g + 101) < (g + 3) + 15) ∨ ((g + 38) ≤ (g + 101) ∧ (g + 101) < (g + 38) + 60)) := by omega
theorem nt_X4_send_102 (g : Nat) : ¬ ((g + 102) = g ∨ ((g + 3) ≤ (g + 102) ∧ (g + 102) < (g + 3) + 15) ∨ ((g + 38) ≤ (g + 102) ∧ (g + 102) < (g + 38) + 60)) := by omega
theorem nt_X4_send_103 (g : Nat) : ¬ ((g + 103) = g ∨ ((g + 3) ≤ (g + 103) ∧ (g + 103) < (g + 3) + 15) ∨ ((g + 38) ≤ (g + 103) ∧ (g + 103) < (g + 38) + 60)) := by omega
theorem nt_X4_limit_1 (g : Nat) : ¬ ((g + 1) = g ∨ ((g + 3) ≤ (g + 1) ∧ (g + 1) < (g + 3) + 15) ∨ ((g + 38) ≤ (g + 1) ∧ (g + 1) < (g + 38) + 60)) := by omega
theorem nt_X4_limit_2 (g : Nat) : ¬ ((g + 2) = g ∨ ((g + 3) ≤ (g + 2) ∧ (g + 2) < (g + 3) + 15) ∨ ((g + 38) ≤ (g + 2) ∧ (g + 2) < (g + 38) + 60)) := by omega
theorem nt_X4_limit_r18 (g q : Nat) (u1 : (g + 18) ≤ q) (u2 : q < (g + 18) + 15) : ¬ (q = g ∨ ((g + 3) ≤ q ∧ q < (g + 3) + 15) ∨ ((g + 38) ≤ q ∧ q < (g + 38) + 60)) := by omega
theorem nt_X4_limit_33 (g : Nat) : ¬ ((g + 33) = g ∨ ((g + 3) ≤ (g + 33) ∧ (g + 33) < (g + 3) + 15) ∨ ((g + 38) ≤ (g + 33) ∧ (g + 33) < (g + 38) + 60)) := by omega
theorem nt_X4_limit_34 (g : Nat) : ¬ ((g + 34) = g ∨ ((g + 3) ≤ (g + 34) ∧ (g + 34) < (g + 3) + 15) ∨ ((g + 38) ≤ (g + 34) ∧ (g + 34) < (g + 38) + 60)) := by omega
theorem nt_X4_limit_35 (g : Nat) : ¬ ((g + 35) = g ∨ ((g + 3) ≤ (g + 35) ∧ (g + 35) < (g + 3) + 15) ∨ ((g + 38) ≤ (g + 35) ∧ (g + 35) < (g + 38) + 60)) := by omega
theorem nt_X4_limit_36 (g : Nat) : ¬ ((g + 36) = g ∨ ((g + 3) ≤ (g + 36) ∧ (g + 36) < (g + 3) + 15) ∨ ((g + 38) ≤ (g + 36) ∧ (g + 36) < (g + 38) + 60)) := by omega
theorem nt_X4_limit_37 (g : Nat) : ¬ ((g + 37) = g ∨ ((g + 3) ≤ (g + 37) ∧ (g + 37) < (g + 3) + 15) ∨ ((g + 38) ≤ (g + 37) ∧ (g + 37) < (g + 38) + 60)) := by omega
theorem nt_X4_limit_98 (g : Nat) : ¬ ((g + 98) = g ∨ ((g + 3) ≤ (g + 98) ∧ (g + 98) < (g + 3) + 15) ∨ ((g + 38) ≤ (g + 98) ∧ (g + 98) < (g + 38) + 60)) := by omega
theorem nt_X4_limit_99 (g : Nat) : ¬ ((g + 99) = g ∨ ((g + 3) ≤ (g + 99) ∧ (g + 99) < (g + 3) + 15) ∨ ((g + 38) ≤ (g + 99) ∧ (g + 99) < (g + 38) + 60)) := by omega
theorem nt_X4_limit_100 (g : Nat) : ¬ ((g + 100) = g ∨ ((g + 3) ≤ (g + 100) ∧ (g + 100) < (g + 3) + 15) ∨ ((g + 38) ≤ (g + 100) ∧ (g + 100) < (g + 38) + 60)) := by omega
theorem nt_X4_limit_101 (g : Nat) : ¬ ((g + 101) = g ∨ ((g + 3) ≤ (g + 101) ∧ (g + 101) < (g + 3) + 15) ∨ ((g + 38) ≤ (g + 101) ∧ (g + 101) < (g + 38) + 60)) := by omega
theorem nt_X4_limit_102 (g : Nat) : ¬ ((g + 102) = g ∨ ((g + 3) ≤ (g + 102) ∧ (g + 102) < (g + 3) + 15) ∨ ((g + 38) ≤ (g + 102) ∧ (g + 102) < (g + 38) + 60)) := by omega
theorem nt_X4_limit_103 (g : Nat) : ¬ ((g + 103) = g ∨ ((g + 3) ≤ (g + 103) ∧ (g + 103) < (g + 3) + 15) ∨ ((g + 38) ≤ (g + 103) ∧ (g + 103) < (g + 38) + 60)) := by omega
theorem nt_X4_kind_1 (g : Nat) : ¬ ((g + 1) = g ∨ ((g + 3) ≤ (g + 1) ∧ (g + 1) < (g + 3) + 15) ∨ ((g + 38) ≤ (g + 1) ∧ (g + 1) < (g + 38) + 60)) := by omega
theorem nt_X4_kind_2 (g : Nat) : ¬ ((g + 2) = g ∨ ((g + 3) ≤ (g + 2) ∧ (g + 2) < (g + 3) + 15) ∨ ((g + 38) ≤ (g + 2) ∧ (g + 2) < (g + 38) + 60)) := by omega
theorem nt_X4_kind_r18 (g q : Nat) (u1 : (g + 18) ≤ q) (u2 : q < (g + 18) + 15) : ¬ (q = g ∨ ((g + 3) ≤ q ∧ q < (g + 3) + 15) ∨ ((g + 38) ≤ q ∧ q < (g + 38) + 60)) := by omega
theorem nt_X4_kind_33 (g : Nat) : ¬ ((g + 33) = g ∨ ((g + 3) ≤ (g + 33) ∧ (g + 33) < (g + 3) + 15) ∨ ((g + 38) ≤ (g + 33) ∧ (g + 33) < (g + 38) + 60)) := by omega
theorem nt_X4_kind_34 (g : Nat) : ¬ ((g + 34) = g ∨ ((g + 3) ≤ (g + 34) ∧ (g + 34) < (g + 3) + 15) ∨ ((g + 38) ≤ (g + 34) ∧ (g + 34) < (g + 38) + 60)) := by omega
theorem nt_X4_kind_35 (g : Nat) : ¬ ((g + 35) = g ∨ ((g + 3) ≤ (g + 35) ∧ (g + 35) < (g + 3) + 15) ∨ ((g + 38) ≤ (g + 35) ∧ (g + 35) < (g + 38) + 60)) := by omega
theorem nt_X4_kind_36 (g : Nat) : ¬ ((g + 36) = g ∨ ((g + 3) ≤ (g + 36) ∧ (g + 36) < (g + 3) + 15) ∨ ((g + 38) ≤ (g + 36) ∧ (g + 36) < (g + 38) + 60)) := by omega
theorem nt_X4_kind_37 (g : Nat) : ¬ ((g + 37) = g ∨ ((g + 3) ≤ (g + 37) ∧ (g + 37) < (g + 3) + 15) ∨ ((g + 38) ≤ (g + 37) ∧ (g + 37) < (g + 38) + 60)) := by omega
theorem nt_X4_kind_98 (g : Nat) : ¬ ((g + 98) = g ∨ ((g + 3) ≤ (g + 98) ∧ (g + 98) < (g + 3) + 15) ∨ ((g + 38) ≤ (g + 98) ∧ (g + 98) < (g + 38) + 60)) := by omega
theorem nt_X4_kind_99 (g : Nat) : ¬ ((g + 99) = g ∨ ((g + 3) ≤ (g + 99) ∧ (g + 99) < (g + 3) + 15) ∨ ((g + 38) ≤ (g + 99) ∧ (g + 99) < (g + 38) + 60)) := by omega
theorem nt_X4_kind_100 (g : Nat) : ¬ ((g + 100) = g ∨ ((g + 3) ≤ (g + 100) ∧ (g + 100) < (g + 3) + 15) ∨ ((g + 38) ≤ (g + 100) ∧ (g + 100) < (g + 38) + 60)) := by omega
theorem nt_X4_kind_101 (g : Nat) : ¬ ((g + 101) = g ∨ ((g + 3) ≤ (g + 101) ∧ (g + 101) < (g + 3) + 15) ∨ ((g + 38) ≤ (g + 101) ∧ (g + 101) < (g + 38) + 60)) := by omega
theorem nt_X4_kind_102 (g : Nat) : ¬ ((g + 102) = g ∨ ((g + 3) ≤ (g + 102) ∧ (g + 102) < (g + 3) + 15) ∨ ((g + 38) ≤ (g + 102) ∧ (g + 102) < (g + 38) + 60)) := by omega
theorem nt_X4_kind_103 (g : Nat) : ¬ ((g + 103) = g ∨ ((g + 3) ≤ (g + 103) ∧ (g + 103) < (g + 3) + 15) ∨ ((g + 38) ≤ (g + 103) ∧ (g + 103) < (g + 38) + 60)) := by omega
theorem nt_X4_loss_1 (g : Nat) : ¬ ((g + 1) = g ∨ ((g + 3) ≤ (g + 1) ∧ (g + 1) < (g + 3) + 15) ∨ ((g + 38) ≤ (g + 1) ∧ (g + 1) < (g + 38) + 60)) := by omega
theorem nt_X4_loss_2 (g : Nat) : ¬ ((g + 2) = g ∨ ((g + 3) ≤ (g + 2) ∧ (g + 2) < (g + 3) + 15) ∨ ((g + 38) ≤ (g + 2) ∧ (g + 2) < (g + 38) + 60)) := by omega
theorem nt_X4_loss_r18 (g q : Nat) (u1 : (g + 18) ≤ q) (u2 : q < (g + 18) + 15) : ¬ (q = g ∨ ((g + 3) ≤ q ∧ q < (g + 3) + 15) ∨ ((g + 38) ≤ q ∧ q < (g + 38) + 60)) := by omega
theorem nt_X4_loss_33 (g : Nat) : ¬ ((g + 33) = g ∨ ((g + 3) ≤ (g + 33) ∧ (g + 33) < (g + 3) + 15) ∨ ((g + 38) ≤ (g + 33) ∧ (g + 33) < (g + 38) + 60)) := by omega
theorem nt_X4_loss_34 (g : Nat) : ¬ ((g + 34) = g ∨ ((g + 3) ≤ (g + 34) ∧ (g + 34) < (g + 3) + 15) ∨ ((g + 38) ≤ (g + 34) ∧ (g + 34) < (g + 38) + 60)) := by omega
theorem nt_X4_loss_35 (g : Nat) : ¬ ((g + 35) = g ∨ ((g + 3) ≤ (g + 35) ∧ (g + 35) < (g + 3) + 15) ∨ ((g + 38) ≤ (g + 35) ∧ (g + 35) < (g + 38) + 60)) := by omega
theorem nt_X4_loss_36 (g : Nat) : ¬ ((g + 36) = g ∨ ((g + 3) ≤ (g + 36) ∧ (g + 36) < (g + 3) + 15) ∨ ((g + 38) ≤ (g + 36) ∧ (g + 36) < (g + 38) + 60)) := by omega
theorem nt_X4_loss_37 (g : Nat) : ¬ ((g + 37) = g ∨ ((g + 3) ≤ (g + 37) ∧ (g + 37) < (g + 3) + 15) ∨ ((g + 38) ≤ (g + 37) ∧ (g + 37) < (g + 38) + 60)) := by omega
theorem nt_X4_loss_98 (g : Nat) : ¬ ((g + 98) = g ∨ ((g + 3) ≤ (g + 98) ∧ (g + 98) < (g + 3) + 15) ∨ ((g + 38) ≤ (g + 98) ∧ (g + 98) < (g + 38) + 60)) := by omega
theorem nt_X4_loss_99 (g : Nat) : ¬ ((g + 99) = g ∨ ((g + 3) ≤ (g + 99) ∧ (g + 99) < (g + 3) + 15) ∨ ((g + 38) ≤ (g + 99) ∧ (g + 99) < (g + 38) + 60)) := by omega
theorem nt_X4_loss_100 (g : Nat) : ¬ ((g + 100) = g ∨ ((g + 3) ≤ (g + 100) ∧ (g + 100) < (g + 3) + 15) ∨ ((g + 38) ≤ (g + 100) ∧ (g + 100) < (g + 38) + 60)) := by omega
theorem nt_X4_loss_101 (g : Nat) : ¬ ((g + 101) = g ∨ ((g + 3) ≤ (g + 101) ∧ (g + 101) < (g + 3) + 15) ∨ ((g + 38) ≤ (g + 101) ∧ (g + 101) < (g + 38) + 60)) := by omega
theorem nt_X4_loss_102 (g : Nat) : ¬ ((g + 102) = g ∨ ((g + 3) ≤ (g + 102) ∧ (g + 102) < (g + 3) + 15) ∨ ((g + 38) ≤ (g + 102) ∧ (g + 102) < (g + 38) + 60)) := by omega
theorem nt_X4_loss_103 (g : Nat) : ¬ ((g + 103) = g ∨ ((g + 3) ≤ (g + 103) ∧ (g + 103) < (g + 3) + 15) ∨ ((g + 38) ≤ (g + 103) ∧ (g + 103) < (g + 38) + 60)) := by omega
theorem nt_X4_believe_1 (g : Nat) : ¬ ((g + 1) = g ∨ ((g + 3) ≤ (g + 1) ∧ (g + 1) < (g + 3) + 15) ∨ ((g + 38) ≤ (g + 1) ∧ (g + 1) < (g + 38) + 60)) := by omega
theorem nt_X4_believe_2 (g : Nat) : ¬ ((g + 2) = g ∨ ((g + 3) ≤ (g + 2) ∧ (g + 2) < (g + 3) + 15) ∨ ((g + 38) ≤ (g + 2) ∧ (g + 2) < (g + 38) + 60)) := by omega
theorem nt_X4_believe_r18 (g q : Nat) (u1 : (g + 18) ≤ q) (u2 : q < (g + 18) + 15) : ¬ (q = g ∨ ((g + 3) ≤ q ∧ q < (g + 3) + 15) ∨ ((g + 38) ≤ q ∧ q < (g + 38) + 60)) := by omega
theorem nt_X4_believe_33 (g : Nat) : ¬ ((g + 33) = g ∨ ((g + 3) ≤ (g + 33) ∧ (g + 33) < (g + 3) + 15) ∨ ((g + 38) ≤ (g + 33) ∧ (g + 33) < (g + 38) + 60)) := by omega
theorem nt_X4_believe_34 (g : Nat) : ¬ ((g + 34) = g ∨ ((g + 3) ≤ (g + 34) ∧ (g + 34) < (g + 3) + 15) ∨ ((g + 38) ≤ (g + 34) ∧ (g + 34) < (g + 38) + 60)) := by omega
theorem nt_X4_believe_35 (g : Nat) : ¬ ((g + 35) = g ∨ ((g + 3) ≤ (g + 35) ∧ (g + 35) < (g + 3) + 15) ∨ ((g + 38) ≤ (g + 35) ∧ (g + 35) < (g + 38) + 60)) := by omega
theorem nt_X4_believe_36 (g : Nat) : ¬ ((g + 36) = g ∨ ((g + 3) ≤ (g + 36) ∧ (g + 36) < (g + 3) + 15) ∨ ((g + 38) ≤ (g + 36) ∧ (g + 36) < (g + 38) + 60)) := by omega
theorem nt_X4_believe_37 (g : Nat) : ¬ ((g + 37) = g ∨ ((g + 3) ≤ (g + 37) ∧ (g + 37) < (g + 3) + 15) ∨ ((g + 38) ≤ (g + 37) ∧ (g + 37) < (g + 38) + 60)) := by omega
theorem nt_X4_believe_98 (g : Nat) : ¬ ((g + 98) = g ∨ ((g + 3) ≤ (g + 98) ∧ (g + 98) < (g + 3) + 15) ∨ ((g + 38) ≤ (g + 98) ∧ (g + 98) < (g + 38) + 60)) := by omega
theorem nt_X4_believe_99 (g : Nat) : ¬ ((g + 99) = g ∨ ((g + 3) ≤ (g + 99) ∧ (g + 99) < (g + 3) + 15) ∨ ((g + 38) ≤ (g + 99) ∧ (g + 99) < (g + 38) + 60)) := by omega
theorem nt_X4_believe_100 (g : Nat) : ¬ ((g + 100) = g ∨ ((g + 3) ≤ (g + 100) ∧ (g + 100) < (g + 3) + 15) ∨ ((g + 38) ≤ (g + 100) ∧ (g + 100) < (g + 38) + 60)) := by omega
theorem nt_X4_believe_101 (g : Nat) : ¬ ((g + 101) = g ∨ ((g + 3) ≤ (g + 101) ∧ (g + 101) < (g + 3) + 15) ∨ ((g + 38) ≤ (g + 101) ∧ (g + 101) < (g + 38) + 60)) := by omega
theorem nt_X4_believe_102 (g : Nat) : ¬ ((g + 102) = g ∨ ((g + 3) ≤ (g + 102) ∧ (g + 102) < (g + 3) + 15) ∨ ((g + 38) ≤ (g + 102) ∧ (g + 102) < (g + 38) + 60)) := by omega
theorem nt_X4_believe_103 (g : Nat) : ¬ ((g + 103) = g ∨ ((g + 3) ≤ (g + 103) ∧ (g + 103) < (g + 3) + 15) ∨ ((g + 38) ≤ (g + 103) ∧ (g + 103) < (g + 38) + 60)) := by omega
theorem nt_X4_undo_1 (g : Nat) : ¬ ((g + 1) = g ∨ ((g + 3) ≤ (g + 1) ∧ (g + 1) < (g + 3) + 15)) := by omega
theorem nt_X4_undo_2 (g : Nat) : ¬ ((g + 2) = g ∨ ((g + 3) ≤ (g + 2) ∧ (g + 2) < (g + 3) + 15)) := by omega
theorem nt_X4_undo_r18 (g q : Nat) (u1 : (g + 18) ≤ q) (u2 : q < (g + 18) + 15) : ¬ (q = g ∨ ((g + 3) ≤ q ∧ q < (g + 3) + 15)) := by omega
theorem nt_X4_undo_33 (g : Nat) : ¬ ((g + 33) = g ∨ ((g + 3) ≤ (g + 33) ∧ (g + 33) < (g + 3) + 15)) := by omega
theorem nt_X4_undo_r38 (g q : Nat) (u1 : (g + 38) ≤ q) (u2 : q < (g + 38) + 60) : ¬ (q = g ∨ ((g + 3) ≤ q ∧ q < (g + 3) + 15)) := by omega
theorem nt_X4_undo_34 (g : Nat) : ¬ ((g + 34) = g ∨ ((g + 3) ≤ (g + 34) ∧ (g + 34) < (g + 3) + 15)) := by omega
theorem nt_X4_undo_35 (g : Nat) : ¬ ((g + 35) = g ∨ ((g + 3) ≤ (g + 35) ∧ (g + 35) < (g + 3) + 15)) := by omega
theorem nt_X4_undo_36 (g : Nat) : ¬ ((g + 36) = g ∨ ((g + 3) ≤ (g + 36) ∧ (g + 36) < (g + 3) + 15)) := by omega
theorem nt_X4_undo_37 (g : Nat) : ¬ ((g + 37) = g ∨ ((g + 3) ≤ (g + 37) ∧ (g + 37) < (g + 3) + 15)) := by omega
theorem nt_X4_undo_98 (g : Nat) : ¬ ((g + 98) = g ∨ ((g + 3) ≤ (g + 98) ∧ (g + 98) < (g + 3) + 15)) := by omega
theorem nt_X4_undo_99 (g : Nat) : ¬ ((g + 99) = g ∨ ((g + 3) ≤ (g + 99) ∧ (g + 99) < (g + 3) + 15)) := by omega
theorem nt_X4_undo_100 (g : Nat) : ¬ ((g + 100) = g ∨ ((g + 3) ≤ (g + 100) ∧ (g + 100) < (g + 3) + 15)) := by omega
theorem nt_X4_undo_101 (g : Nat) : ¬ ((g + 101) = g ∨ ((g + 3) ≤ (g + 101) ∧ (g + 101) < (g + 3) + 15)) := by omega
theorem nt_X4_undo_102 (g : Nat) : ¬ ((g + 102) = g ∨ ((g + 3) ≤ (g + 102) ∧ (g + 102) < (g + 3) + 15)) := by omega
theorem nt_X4_undo_103 (g : Nat) : ¬ ((g + 103) = g ∨ ((g + 3) ≤ (g + 103) ∧ (g + 103) < (g + 3) + 15)) := by omega
theorem nt_X4_ahead_0 (g : Nat) : ¬ (g = (g + 34) ∨ g = (g + 35) ∨ g = (g + 36) ∨ g = (g + 37)) := by omega
theorem nt_X4_ahead_1 (g : Nat) : ¬ ((g + 1) = (g + 34) ∨ (g + 1) = (g + 35) ∨ (g + 1) = (g + 36) ∨ (g + 1) = (g + 37)) := by omega
theorem nt_X4_ahead_2 (g : Nat) : ¬ ((g + 2) = (g + 34) ∨ (g + 2) = (g + 35) ∨ (g + 2) = (g + 36) ∨ (g + 2) = (g + 37)) := by omega
theorem nt_X4_ahead_r3 (g q : Nat) (u1 : (g + 3) ≤ q) (u2 : q < (g + 3) + 15) : ¬ (q = (g + 34) ∨ q = (g + 35) ∨ q = (g + 36) ∨ q = (g + 37)) := by omega
theorem nt_X4_ahead_r18 (g q : Nat) (u1 : (g + 18) ≤ q) (u2 : q < (g + 18) + 15) : ¬ (q = (g + 34) ∨ q = (g + 35) ∨ q = (g + 36) ∨ q = (g + 37)) := by omega
theorem nt_X4_ahead_33 (g : Nat) : ¬ ((g + 33) = (g + 34) ∨ (g + 33) = (g + 35) ∨ (g + 33) = (g + 36) ∨ (g + 33) = (g + 37)) := by omega
theorem nt_X4_ahead_r38 (g q : Nat) (u1 : (g + 38) ≤ q) (u2 : q < (g + 38) + 60) : ¬ (q = (g + 34) ∨ q = (g + 35) ∨ q = (g + 36) ∨ q = (g + 37)) := by omega
theorem nt_X4_ahead_98 (g : Nat) : ¬ ((g + 98) = (g + 34) ∨ (g + 98) = (g + 35) ∨ (g + 98) = (g + 36) ∨ (g + 98) = (g + 37)) := by omega
theorem nt_X4_ahead_99 (g : Nat) : ¬ ((g + 99) = (g + 34) ∨ (g + 99) = (g + 35) ∨ (g + 99) = (g + 36) ∨ (g + 99) = (g + 37)) := by omega
theorem nt_X4_ahead_100 (g : Nat) : ¬ ((g + 100) = (g + 34) ∨ (g + 100) = (g + 35) ∨ (g + 100) = (g + 36) ∨ (g + 100) = (g + 37)) := by omega
theorem nt_X4_ahead_101 (g : Nat) : ¬ ((g + 101) = (g + 34) ∨ (g + 101) = (g + 35) ∨ (g + 101) = (g + 36) ∨ (g + 101) = (g + 37)) := by omega
theorem nt_X4_ahead_102 (g : Nat) : ¬ ((g + 102) = (g + 34) ∨ (g + 102) = (g + 35) ∨ (g + 102) = (g + 36) ∨ (g + 102) = (g + 37)) := by omega
theorem nt_X4_ahead_103 (g : Nat) : ¬ ((g + 103) = (g + 34) ∨ (g + 103) = (g + 35) ∨ (g + 103) = (g + 36) ∨ (g + 103) = (g + 37)) := by omega
theorem nt_X4_soon_0 (g : Nat) : ¬ (g = (g + 34) ∨ g = (g + 35) ∨ g = (g + 36) ∨ g = (g + 37)) := by omega
theorem nt_X4_soon_1 (g : Nat) : ¬ ((g + 1) = (g + 34) ∨ (g + 1) = (g + 35) ∨ (g + 1) = (g + 36) ∨ (g + 1) = (g + 37)) := by omega
theorem nt_X4_soon_2 (g : Nat) : ¬ ((g + 2) = (g + 34) ∨ (g + 2) = (g + 35) ∨ (g + 2) = (g + 36) ∨ (g + 2) = (g + 37)) := by omega
theorem nt_X4_soon_r3 (g q : Nat) (u1 : (g + 3) ≤ q) (u2 : q < (g + 3) + 15) : ¬ (q = (g + 34) ∨ q = (g + 35) ∨ q = (g + 36) ∨ q = (g + 37)) := by omega
theorem nt_X4_soon_r18 (g q : Nat) (u1 : (g + 18) ≤ q) (u2 : q < (g + 18) + 15) : ¬ (q = (g + 34) ∨ q = (g + 35) ∨ q = (g + 36) ∨ q = (g + 37)) := by omega
theorem nt_X4_soon_33 (g : Nat) : ¬ ((g + 33) = (g + 34) ∨ (g + 33) = (g + 35) ∨ (g + 33) = (g + 36) ∨ (g + 33) = (g + 37)) := by omega
theorem nt_X4_soon_r38 (g q : Nat) (u1 : (g + 38) ≤ q) (u2 : q < (g + 38) + 60) : ¬ (q = (g + 34) ∨ q = (g + 35) ∨ q = (g + 36) ∨ q = (g + 37)) := by omega
theorem nt_X4_soon_98 (g : Nat) : ¬ ((g + 98) = (g + 34) ∨ (g + 98) = (g + 35) ∨ (g + 98) = (g + 36) ∨ (g + 98) = (g + 37)) := by omega
theorem nt_X4_soon_99 (g : Nat) : ¬ ((g + 99) = (g + 34) ∨ (g + 99) = (g + 35) ∨ (g + 99) = (g + 36) ∨ (g + 99) = (g + 37)) := by omega
theorem nt_X4_soon_100 (g : Nat) : ¬ ((g + 100) = (g + 34) ∨ (g + 100) = (g + 35) ∨ (g + 100) = (g + 36) ∨ (g + 100) = (g + 37)) := by omega
theorem nt_X4_soon_101 (g : Nat) : ¬ ((g + 101) = (g + 34) ∨ (g + 101) = (g + 35) ∨ (g + 101) = (g + 36) ∨ (g + 101) = (g + 37)) := by omega
theorem nt_X4_soon_102 (g : Nat) : ¬ ((g + 102) = (g + 34) ∨ (g + 102) = (g + 35) ∨ (g + 102) = (g + 36) ∨ (g + 102) = (g + 37)) := by omega
theorem nt_X4_soon_103 (g : Nat) : ¬ ((g + 103) = (g + 34) ∨ (g + 103) = (g + 35) ∨ (g + 103) = (g + 36) ∨ (g + 103) = (g + 37)) := by omega
theorem nt_X4_best_0 (g : Nat) : ¬ (g = (g + 34) ∨ g = (g + 35) ∨ g = (g + 36) ∨ g = (g + 37)) := by omega
theorem nt_X4_best_1 (g : Nat) : ¬ ((g + 1) = (g + 34) ∨ (g + 1) = (g + 35) ∨ (g + 1) = (g + 36) ∨ (g + 1) = (g + 37)) := by omega
theorem nt_X4_best_2 (g : Nat) : ¬ ((g + 2) = (g + 34) ∨ (g + 2) = (g + 35) ∨ (g + 2) = (g + 36) ∨ (g + 2) = (g + 37)) := by omega
theorem nt_X4_best_r3 (g q : Nat) (u1 : (g + 3) ≤ q) (u2 : q < (g + 3) + 15) : ¬ (q = (g + 34) ∨ q = (g + 35) ∨ q = (g + 36) ∨ q = (g + 37)) := by omega
theorem nt_X4_best_r18 (g q : Nat) (u1 : (g + 18) ≤ q) (u2 : q < (g + 18) + 15) : ¬ (q = (g + 34) ∨ q = (g + 35) ∨ q = (g + 36) ∨ q = (g + 37)) := by omega
theorem nt_X4_best_33 (g : Nat) : ¬ ((g + 33) = (g + 34) ∨ (g + 33) = (g + 35) ∨ (g + 33) = (g + 36) ∨ (g + 33) = (g + 37)) := by omega
theorem nt_X4_best_r38 (g q : Nat) (u1 : (g + 38) ≤ q) (u2 : q < (g + 38) + 60) : ¬ (q = (g + 34) ∨ q = (g + 35) ∨ q = (g + 36) ∨ q = (g + 37)) := by omega
theorem nt_X4_best_98 (g : Nat) : ¬ ((g + 98) = (g + 34) ∨ (g + 98) = (g + 35) ∨ (g + 98) = (g + 36) ∨ (g + 98) = (g + 37)) := by omega
theorem nt_X4_best_99 (g : Nat) : ¬ ((g + 99) = (g + 34) ∨ (g + 99) = (g + 35) ∨ (g + 99) = (g + 36) ∨ (g + 99) = (g + 37)) := by omega
theorem nt_X4_best_100 (g : Nat) : ¬ ((g + 100) = (g + 34) ∨ (g + 100) = (g + 35) ∨ (g + 100) = (g + 36) ∨ (g + 100) = (g + 37)) := by omega
theorem nt_X4_best_101 (g : Nat) : ¬ ((g + 101) = (g + 34) ∨ (g + 101) = (g + 35) ∨ (g + 101) = (g + 36) ∨ (g + 101) = (g + 37)) := by omega
theorem nt_X4_best_102 (g : Nat) : ¬ ((g + 102) = (g + 34) ∨ (g + 102) = (g + 35) ∨ (g + 102) = (g + 36) ∨ (g + 102) = (g + 37)) := by omega
theorem nt_X4_best_103 (g : Nat) : ¬ ((g + 103) = (g + 34) ∨ (g + 103) = (g + 35) ∨ (g + 103) = (g + 36) ∨ (g + 103) = (g + 37)) := by omega
def f_law_write (xs : (Nat → Int32)) (s : (Nat → Int32)) (x : (Nat → Int32)) (lf : (Nat → Int32)) (r : (Nat → Int32)) (t : (Nat → Int32)) (W : (Nat → Nat → Int32)) (LF : (Nat → Nat → Int32)) (KF : (Nat → Nat → Int32)) (dr : (Nat → Int32)) (dt : (Nat → Int32)) (DW : (Nat → Nat → Int32)) (DL : (Nat → Nat → Int32)) (DK : (Nat → Nat → Int32)) (ER : (Nat → Nat → Int32)) (ET : (Nat → Nat → Int32)) (EW : (Nat → Nat → Nat → Int32)) (EL : (Nat → Nat → Nat → Int32)) (EK : (Nat → Nat → Nat → Int32)) (tw : (Nat → Int32)) (tl : (Nat → Int32)) (tk : (Nat → Int32)) (tu : (Nat → Int32)) (m : (Nat → Int32)) (tn : (Nat → Int32)) (tr_ : (Nat → Int32)) (ts : (Nat → Int32)) (tp : (Nat → Int32)) (tx : (Nat → Int32)) (Ls : Nat) (v3 : Int32) : (Nat → Int32) × (Nat → Int32) × (Nat → Int32) × (Nat → Int32) := (if (f_X4_write s x lf (xs ((v3 + (1 : Int32)).toNatClampNeg))).1 = (f_X5_write m tx (xs ((v3 + (1 : Int32)).toNatClampNeg))).1 then ((f_X4_write s x lf (xs ((v3 + (1 : Int32)).toNatClampNeg))).2.1, (f_X4_write s x lf (xs ((v3 + (1 : Int32)).toNatClampNeg))).2.2, (f_X5_write m tx (xs ((v3 + (1 : Int32)).toNatClampNeg))).2.1, (f_X5_write m tx (xs ((v3 + (1 : Int32)).toNatClampNeg))).2.2) else ((fun _ => 0), (fun _ => 0), (fun _ => 0), (fun _ => 0)))
def p_law_write (xs : (Nat → Int32)) (s : (Nat → Int32)) (x : (Nat → Int32)) (lf : (Nat → Int32)) (r : (Nat → Int32)) (t : (Nat → Int32)) (W : (Nat → Nat → Int32)) (LF : (Nat → Nat → Int32)) (KF : (Nat → Nat → Int32)) (dr : (Nat → Int32)) (dt : (Nat → Int32)) (DW : (Nat → Nat → Int32)) (DL : (Nat → Nat → Int32)) (DK : (Nat → Nat → Int32)) (ER : (Nat → Nat → Int32)) (ET : (Nat → Nat → Int32)) (EW : (Nat → Nat → Nat → Int32)) (EL : (Nat → Nat → Nat → Int32)) (EK : (Nat → Nat → Nat → Int32)) (tw : (Nat → Int32)) (tl : (Nat → Int32)) (tk : (Nat → Int32)) (tu : (Nat → Int32)) (m : (Nat → Int32)) (tn : (Nat → Int32)) (tr_ : (Nat → Int32)) (ts : (Nat → Int32)) (tp : (Nat → Int32)) (tx : (Nat → Int32)) (Ls : Nat) (v3 : Int32) : Prop := (vp_in (v3 + (1 : Int32)) Ls ∧ (p_X4_write s x lf (xs ((v3 + (1 : Int32)).toNatClampNeg)) ∧ (vp_in (v3 + (1 : Int32)) Ls ∧ (p_X5_write m tx (xs ((v3 + (1 : Int32)).toNatClampNeg)) ∧ (((f_X4_write s x lf (xs ((v3 + (1 : Int32)).toNatClampNeg))).1 = (f_X5_write m tx (xs ((v3 + (1 : Int32)).toNatClampNeg))).1 → True) ∧ (¬ ((f_X4_write s x lf (xs ((v3 + (1 : Int32)).toNatClampNeg))).1 = (f_X5_write m tx (xs ((v3 + (1 : Int32)).toNatClampNeg))).1) → False))))))
set_option maxRecDepth 100000 in
set_option maxHeartbeats 4000000 in
theorem K_law_write (G : xG) (h : xH) (nm : String) (g : Nat) (xs : (Nat → Int32)) (s : (Nat → Int32)) (x : (Nat → Int32)) (lf : (Nat → Int32)) (r : (Nat → Int32)) (t : (Nat → Int32)) (W : (Nat → Nat → Int32)) (LF : (Nat → Nat → Int32)) (KF : (Nat → Nat → Int32)) (dr : (Nat → Int32)) (dt : (Nat → Int32)) (DW : (Nat → Nat → Int32)) (DL : (Nat → Nat → Int32)) (DK : (Nat → Nat → Int32)) (ER : (Nat → Nat → Int32)) (ET : (Nat → Nat → Int32)) (EW : (Nat → Nat → Nat → Int32)) (EL : (Nat → Nat → Nat → Int32)) (EK : (Nat → Nat → Nat → Int32)) (tw : (Nat → Int32)) (tl : (Nat → Int32)) (tk : (Nat → Int32)) (tu : (Nat → Int32)) (m : (Nat → Int32)) (tn : (Nat → Int32)) (tr_ : (Nat → Int32)) (ts : (Nat → Int32)) (tp : (Nat → Int32)) (tx : (Nat → Int32)) (Ls : Nat) (v3 : Int32) (k_g : hAt h g = some (gpC (g + 1) (g + 3) (g + 18) (g + 33) (g + 34) (g + 37) s)) (k_g1 : hAt h (g + 1) = some (txC (g + 2) x)) (k_g2 : hAt h (g + 2) = some (arC 240 lf)) (k_g3 : nk h (g + 3) r t W LF KF) (k_g18 : nk h (g + 18) dr dt DW DL DK) (k_g33 : hAt h (g + 33) = some (arR 2 4 (fun j => some ((g + 38) + 15 * j)))) (k_g38 : ek h (g + 38) ER ET EW EL EK) (k_g34 : hAt h (g + 34) = some (waC (g + 35) (g + 36) tw)) (k_g35 : hAt h (g + 35) = some (arI 6 tl)) (k_g36 : hAt h (g + 36) = some (arI 6 tk)) (k_g37 : hAt h (g + 37) = some (ruC tu)) (k_g98 : hAt h (g + 98) = some (moC (g + 99) (g + 100) (g + 101) (g + 102) (g + 103) m)) (k_g99 : hAt h (g + 99) = some (arI 103 tn)) (k_g100 : hAt h (g + 100) = some (arI 103 tr_)) (k_g101 : hAt h (g + 101) = some (arI 103 ts)) (k_g102 : hAt h (g + 102) = some (arI 412 tp)) (k_g103 : hAt h (g + 103) = some (arI 240 tx)) (ex : xg_x G = xs) (eL : xg_L G = Ls) (hp : p_law_write xs s x lf r t W LF KF dr dt DW DL DK ER ET EW EL EK tw tl tk tu m tn tr_ ts tp tx Ls v3) (kk : ∀ h2 : xH, hAt h2 g = some (gpC (g + 1) (g + 3) (g + 18) (g + 33) (g + 34) (g + 37) s) → hAt h2 (g + 1) = some (txC (g + 2) (f_law_write xs s x lf r t W LF KF dr dt DW DL DK ER ET EW EL EK tw tl tk tu m tn tr_ ts tp tx Ls v3).1) → hAt h2 (g + 2) = some (arC 240 (f_law_write xs s x lf r t W LF KF dr dt DW DL DK ER ET EW EL EK tw tl tk tu m tn tr_ ts tp tx Ls v3).2.1) → nk h2 (g + 3) r t W LF KF → nk h2 (g + 18) dr dt DW DL DK → hAt h2 (g + 33) = some (arR 2 4 (fun j => some ((g + 38) + 15 * j))) → ek h2 (g + 38) ER ET EW EL EK → hAt h2 (g + 34) = some (waC (g + 35) (g + 36) tw) → hAt h2 (g + 35) = some (arI 6 tl) → hAt h2 (g + 36) = some (arI 6 tk) → hAt h2 (g + 37) = some (ruC tu) → hAt h2 (g + 98) = some (moC (g + 99) (g + 100) (g + 101) (g + 102) (g + 103) (f_law_write xs s x lf r t W LF KF dr dt DW DL DK ER ET EW EL EK tw tl tk tu m tn tr_ ts tp tx Ls v3).2.2.1) → hAt h2 (g + 99) = some (arI 103 tn) → hAt h2 (g + 100) = some (arI 103 tr_) → hAt h2 (g + 101) = some (arI 103 ts) → hAt h2 (g + 102) = some (arI 412 tp) → hAt h2 (g + 103) = some (arI 240 (f_law_write xs s x lf r t W LF KF dr dt DW DL DK ER ET EW EL EK tw tl tk tu m tn tr_ ts tp tx Ls v3).2.2.2) → Wp G RL code 4 nm ret room_1 (lwZ G) 104 1984 735 [(3, .int v3), (2, .ref (g + 98)), (1, .ref g), (0, .ref (xg_b G))] [] h2) : Wp G RL code 4 nm ret room_1 (lwZ G) 104 1984 132 [(3, .int v3), (2, .ref (g + 98)), (1, .ref g), (0, .ref (xg_b G))] [] h := by
  obtain ⟨R, er⟩ : ∃ R, f_law_write xs s x lf r t W LF KF dr dt DW DL DK ER ET EW EL EK tw tl tk tu m tn tr_ ts tp tx Ls v3 = R := ⟨_, rfl⟩
  rw [er] at kk
  unfold f_law_write at er
  unfold p_law_write at hp
  refine x_aload_n (pc := 132) dL_law_132 rfl ?_
  refine x_aload_n (pc := 133) dL_law_133 rfl ?_
  refine x_iload_n (pc := 134) dL_law_134 rfl ?_
  refine x_iconst (pc := 135) (v := (1 : Int32)) dL_law_135 (by decide) ?_
  refine x_iadd (pc := 136) dL_law_136 ?_
  obtain ⟨q137, hp⟩ := hp
  refine x_sldE (pc := 137) dL_law_137 ex eL q137 (j := ((v3 + (1 : Int32)).toNatClampNeg)) rfl ?_
  obtain ⟨q138, hp⟩ := hp
  refine x_cVQ (pc := 138) (As := [.int (xs ((v3 + (1 : Int32)).toNatClampNeg))]) (rest := []) dL_law_138 xl_L_13 xv_X4_write k_g rfl rfl rfl rfl rfl rfl (C_X4_write G _ g s x lf (xs ((v3 + (1 : Int32)).toNatClampNeg)) k_g k_g1 k_g2 q138) (fun v h1 hq => ?_)
  obtain ⟨ev, z0_h1, z1_h1, g_h1⟩ := hq
  subst ev
  refine Wp.eqs (L' := [(3, .int v3), (2, .ref (g + 98)), (1, .ref g), (0, .ref (xg_b G))]) (st' := [.int (f_X4_write s x lf (xs ((v3 + (1 : Int32)).toNatClampNeg))).1]) rfl rfl ?_
  obtain ⟨F1, eF1⟩ : ∃ F, f_X4_write s x lf (xs ((v3 + (1 : Int32)).toNatClampNeg)) = F := ⟨_, rfl⟩
  try rw [eF1] at er
  try rw [eF1] at hp
  try rw [eF1]
  try rw [eF1] at z0_h1
  try rw [eF1] at z1_h1
  have k_g_h1 : hAt h1 g = some (gpC (g + 1) (g + 3) (g + 18) (g + 33) (g + 34) (g + 37) s) := (g_h1.2 g (nt_X4_write_0 g)).trans k_g
  have k_g1_h1 : hAt h1 (g + 1) = some (txC (g + 2) F1.2.1) := z0_h1
  have k_g2_h1 : hAt h1 (g + 2) = some (arC 240 F1.2.2) := z1_h1
  have k_g3_h1 : nk h1 (g + 3) r t W LF KF := nk_fr (fun q u1 u2 => g_h1.2 q (nt_X4_write_r3 g q u1 u2)) k_g3
  have k_g18_h1 : nk h1 (g + 18) dr dt DW DL DK := nk_fr (fun q u1 u2 => g_h1.2 q (nt_X4_write_r18 g q u1 u2)) k_g18
  have k_g33_h1 : hAt h1 (g + 33) = some (arR 2 4 (fun j => some ((g + 38) + 15 * j))) := (g_h1.2 (g + 33) (nt_X4_write_33 g)).trans k_g33
  have k_g38_h1 : ek h1 (g + 38) ER ET EW EL EK := ek_fr (fun q u1 u2 => g_h1.2 q (nt_X4_write_r38 g q u1 u2)) k_g38
  have k_g34_h1 : hAt h1 (g + 34) = some (waC (g + 35) (g + 36) tw) := (g_h1.2 (g + 34) (nt_X4_write_34 g)).trans k_g34
  have k_g35_h1 : hAt h1 (g + 35) = some (arI 6 tl) := (g_h1.2 (g + 35) (nt_X4_write_35 g)).trans k_g35
  have k_g36_h1 : hAt h1 (g + 36) = some (arI 6 tk) := (g_h1.2 (g + 36) (nt_X4_write_36 g)).trans k_g36
  have k_g37_h1 : hAt h1 (g + 37) = some (ruC tu) := (g_h1.2 (g + 37) (nt_X4_write_37 g)).trans k_g37
  have k_g98_h1 : hAt h1 (g + 98) = some (moC (g + 99) (g + 100) (g + 101) (g + 102) (g + 103) m) := (g_h1.2 (g + 98) (nt_X4_write_98 g)).trans k_g98
  have k_g99_h1 : hAt h1 (g + 99) = some (arI 103 tn) := (g_h1.2 (g + 99) (nt_X4_write_99 g)).trans k_g99
  have k_g100_h1 : hAt h1 (g + 100) = some (arI 103 tr_) := (g_h1.2 (g + 100) (nt_X4_write_100 g)).trans k_g100
  have k_g101_h1 : hAt h1 (g + 101) = some (arI 103 ts) := (g_h1.2 (g + 101) (nt_X4_write_101 g)).trans k_g101
  have k_g102_h1 : hAt h1 (g + 102) = some (arI 412 tp) := (g_h1.2 (g + 102) (nt_X4_write_102 g)).trans k_g102
  have k_g103_h1 : hAt h1 (g + 103) = some (arI 240 tx) := (g_h1.2 (g + 103) (nt_X4_write_103 g)).trans k_g103
  refine x_aload_n (pc := 141) dL_law_141 rfl ?_
  refine x_aload_n (pc := 142) dL_law_142 rfl ?_
  refine x_iload_n (pc := 143) dL_law_143 rfl ?_
  refine x_iconst (pc := 144) (v := (1 : Int32)) dL_law_144 (by decide) ?_
  refine x_iadd (pc := 145) dL_law_145 ?_
  obtain ⟨q146, hp⟩ := hp
  refine x_sldE (pc := 146) dL_law_146 ex eL q146 (j := ((v3 + (1 : Int32)).toNatClampNeg)) rfl ?_
  obtain ⟨q147, hp⟩ := hp
  refine x_cV1i (pc := 147) dL_law_147 xl_L_17 xv_X5_write k_g98_h1 rfl (C_X5_write G _ (g + 98) (g + 99) (g + 100) (g + 101) (g + 102) (g + 103) m tx (xs ((v3 + (1 : Int32)).toNatClampNeg)) k_g98_h1 k_g103_h1 q147) rfl rfl rfl ?_
  obtain ⟨F2, eF2⟩ : ∃ F, f_X5_write m tx (xs ((v3 + (1 : Int32)).toNatClampNeg)) = F := ⟨_, rfl⟩
  rw [eF2]
  try rw [eF2] at er
  try rw [eF2] at hp
  obtain ⟨h2, eh2⟩ : ∃ z, z = hSet h1 (g + 98) (moC (g + 99) (g + 100) (g + 101) (g + 102) (g + 103) F2.2.1) := ⟨_, rfl⟩
  rw [← eh2]
  have k_g_h2 : hAt h2 g = some (gpC (g + 1) (g + 3) (g + 18) (g + 33) (g + 34) (g + 37) s) := by rw [eh2]; exact hAt_n (cNeL rfl) k_g_h1
  have k_g1_h2 : hAt h2 (g + 1) = some (txC (g + 2) F1.2.1) := by rw [eh2]; exact hAt_n (cNe rfl) k_g1_h1
  have k_g2_h2 : hAt h2 (g + 2) = some (arC 240 F1.2.2) := by rw [eh2]; exact hAt_n (cNe rfl) k_g2_h1
  have k_g3_h2 : nk h2 (g + 3) r t W LF KF := by rw [eh2]; exact nk_fr1 (cOut rfl) k_g3_h1
  have k_g18_h2 : nk h2 (g + 18) dr dt DW DL DK := by rw [eh2]; exact nk_fr1 (cOut rfl) k_g18_h1
  have k_g33_h2 : hAt h2 (g + 33) = some (arR 2 4 (fun j => some ((g + 38) + 15 * j))) := by rw [eh2]; exact hAt_n (cNe rfl) k_g33_h1
  have k_g38_h2 : ek h2 (g + 38) ER ET EW EL EK := by rw [eh2]; exact ek_fr1 (cOutE rfl) k_g38_h1
  have k_g34_h2 : hAt h2 (g + 34) = some (waC (g + 35) (g + 36) tw) := by rw [eh2]; exact hAt_n (cNe rfl) k_g34_h1
  have k_g35_h2 : hAt h2 (g + 35) = some (arI 6 tl) := by rw [eh2]; exact hAt_n (cNe rfl) k_g35_h1
  have k_g36_h2 : hAt h2 (g + 36) = some (arI 6 tk) := by rw [eh2]; exact hAt_n (cNe rfl) k_g36_h1
  have k_g37_h2 : hAt h2 (g + 37) = some (ruC tu) := by rw [eh2]; exact hAt_n (cNe rfl) k_g37_h1
  have k_g98_h2 : hAt h2 (g + 98) = some (moC (g + 99) (g + 100) (g + 101) (g + 102) (g + 103) F2.2.1) := by rw [eh2]; exact hAt_same
  have k_g99_h2 : hAt h2 (g + 99) = some (arI 103 tn) := by rw [eh2]; exact hAt_n (cNe rfl) k_g99_h1
  have k_g100_h2 : hAt h2 (g + 100) = some (arI 103 tr_) := by rw [eh2]; exact hAt_n (cNe rfl) k_g100_h1
  have k_g101_h2 : hAt h2 (g + 101) = some (arI 103 ts) := by rw [eh2]; exact hAt_n (cNe rfl) k_g101_h1
  have k_g102_h2 : hAt h2 (g + 102) = some (arI 412 tp) := by rw [eh2]; exact hAt_n (cNe rfl) k_g102_h1
  have k_g103_h2 : hAt h2 (g + 103) = some (arI 240 tx) := by rw [eh2]; exact hAt_n (cNe rfl) k_g103_h1
  obtain ⟨h3, eh3⟩ : ∃ z, z = hSet h2 (g + 103) (arI 240 F2.2.2) := ⟨_, rfl⟩
  rw [← eh3]
  have k_g_h3 : hAt h3 g = some (gpC (g + 1) (g + 3) (g + 18) (g + 33) (g + 34) (g + 37) s) := by rw [eh3]; exact hAt_n (cNeL rfl) k_g_h2
  have k_g1_h3 : hAt h3 (g + 1) = some (txC (g + 2) F1.2.1) := by rw [eh3]; exact hAt_n (cNe rfl) k_g1_h2
  have k_g2_h3 : hAt h3 (g + 2) = some (arC 240 F1.2.2) := by rw [eh3]; exact hAt_n (cNe rfl) k_g2_h2
  have k_g3_h3 : nk h3 (g + 3) r t W LF KF := by rw [eh3]; exact nk_fr1 (cOut rfl) k_g3_h2
  have k_g18_h3 : nk h3 (g + 18) dr dt DW DL DK := by rw [eh3]; exact nk_fr1 (cOut rfl) k_g18_h2
  have k_g33_h3 : hAt h3 (g + 33) = some (arR 2 4 (fun j => some ((g + 38) + 15 * j))) := by rw [eh3]; exact hAt_n (cNe rfl) k_g33_h2
  have k_g38_h3 : ek h3 (g + 38) ER ET EW EL EK := by rw [eh3]; exact ek_fr1 (cOutE rfl) k_g38_h2
  have k_g34_h3 : hAt h3 (g + 34) = some (waC (g + 35) (g + 36) tw) := by rw [eh3]; exact hAt_n (cNe rfl) k_g34_h2
  have k_g35_h3 : hAt h3 (g + 35) = some (arI 6 tl) := by rw [eh3]; exact hAt_n (cNe rfl) k_g35_h2
  have k_g36_h3 : hAt h3 (g + 36) = some (arI 6 tk) := by rw [eh3]; exact hAt_n (cNe rfl) k_g36_h2
  have k_g37_h3 : hAt h3 (g + 37) = some (ruC tu) := by rw [eh3]; exact hAt_n (cNe rfl) k_g37_h2
  have k_g98_h3 : hAt h3 (g + 98) = some (moC (g + 99) (g + 100) (g + 101) (g + 102) (g + 103) F2.2.1) := by rw [eh3]; exact hAt_n (cNe rfl) k_g98_h2
  have k_g99_h3 : hAt h3 (g + 99) = some (arI 103 tn) := by rw [eh3]; exact hAt_n (cNe rfl) k_g99_h2
  have k_g100_h3 : hAt h3 (g + 100) = some (arI 103 tr_) := by rw [eh3]; exact hAt_n (cNe rfl) k_g100_h2
  have k_g101_h3 : hAt h3 (g + 101) = some (arI 103 ts) := by rw [eh3]; exact hAt_n (cNe rfl) k_g101_h2
  have k_g102_h3 : hAt h3 (g + 102) = some (arI 412 tp) := by rw [eh3]; exact hAt_n (cNe rfl) k_g102_h2
  have k_g103_h3 : hAt h3 (g + 103) = some (arI 240 F2.2.2) := by rw [eh3]; exact hAt_same
  refine x_icmp_eq (pc := 150) (tgt := 735) dL_law_150 (by decide) (fun (c1 : F1.1 = F2.1) => ?_) (fun (c1 : ¬ (F1.1 = F2.1)) => ?_)
  · replace hp := hp.1 c1
    rw [if_pos c1] at er
    subst er
    exact kk h3 k_g_h3 k_g1_h3 k_g2_h3 k_g3_h3 k_g18_h3 k_g33_h3 k_g38_h3 k_g34_h3 k_g35_h3 k_g36_h3 k_g37_h3 k_g98_h3 k_g99_h3 k_g100_h3 k_g101_h3 k_g102_h3 k_g103_h3
  · replace hp := hp.2 c1
    rw [if_neg c1] at er
    refine x_iconst (pc := 153) (v := (0 : Int32)) dL_law_153 (by decide) ?_
    exact hp.elim

def f_law_wipe (xs : (Nat → Int32)) (s : (Nat → Int32)) (x : (Nat → Int32)) (lf : (Nat → Int32)) (r : (Nat → Int32)) (t : (Nat → Int32)) (W : (Nat → Nat → Int32)) (LF : (Nat → Nat → Int32)) (KF : (Nat → Nat → Int32)) (dr : (Nat → Int32)) (dt : (Nat → Int32)) (DW : (Nat → Nat → Int32)) (DL : (Nat → Nat → Int32)) (DK : (Nat → Nat → Int32)) (ER : (Nat → Nat → Int32)) (ET : (Nat → Nat → Int32)) (EW : (Nat → Nat → Nat → Int32)) (EL : (Nat → Nat → Nat → Int32)) (EK : (Nat → Nat → Nat → Int32)) (tw : (Nat → Int32)) (tl : (Nat → Int32)) (tk : (Nat → Int32)) (tu : (Nat → Int32)) (m : (Nat → Int32)) (tn : (Nat → Int32)) (tr_ : (Nat → Int32)) (ts : (Nat → Int32)) (tp : (Nat → Int32)) (tx : (Nat → Int32)) (Ls : Nat) (v3 : Int32) : (Nat → Int32) × (Nat → Int32) := (if (f_X4_wipe s x).1 = (f_X5_wipe m).1 then ((f_X4_wipe s x).2, (f_X5_wipe m).2) else ((fun _ => 0), (fun _ => 0)))
def p_law_wipe (xs : (Nat → Int32)) (s : (Nat → Int32)) (x : (Nat → Int32)) (lf : (Nat → Int32)) (r : (Nat → Int32)) (t : (Nat → Int32)) (W : (Nat → Nat → Int32)) (LF : (Nat → Nat → Int32)) (KF : (Nat → Nat → Int32)) (dr : (Nat → Int32)) (dt : (Nat → Int32)) (DW : (Nat → Nat → Int32)) (DL : (Nat → Nat → Int32)) (DK : (Nat → Nat → Int32)) (ER : (Nat → Nat → Int32)) (ET : (Nat → Nat → Int32)) (EW : (Nat → Nat → Nat → Int32)) (EL : (Nat → Nat → Nat → Int32)) (EK : (Nat → Nat → Nat → Int32)) (tw : (Nat → Int32)) (tl : (Nat → Int32)) (tk : (Nat → Int32)) (tu : (Nat → Int32)) (m : (Nat → Int32)) (tn : (Nat → Int32)) (tr_ : (Nat → Int32)) (ts : (Nat → Int32)) (tp : (Nat → Int32)) (tx : (Nat → Int32)) (Ls : Nat) (v3 : Int32) : Prop := (((f_X4_wipe s x).1 = (f_X5_wipe m).1 → True) ∧ (¬ ((f_X4_wipe s x).1 = (f_X5_wipe m).1) → False))
set_option maxRecDepth 100000 in
set_option maxHeartbeats 4000000 in
theorem K_law_wipe (G : xG) (h : xH) (nm : String) (g : Nat) (xs : (Nat → Int32)) (s : (Nat → Int32)) (x : (Nat → Int32)) (lf : (Nat → Int32)) (r : (Nat → Int32)) (t : (Nat → Int32)) (W : (Nat → Nat → Int32)) (LF : (Nat → Nat → Int32)) (KF : (Nat → Nat → Int32)) (dr : (Nat → Int32)) (dt : (Nat → Int32)) (DW : (Nat → Nat → Int32)) (DL : (Nat → Nat → Int32)) (DK : (Nat → Nat → Int32)) (ER : (Nat → Nat → Int32)) (ET : (Nat → Nat → Int32)) (EW : (Nat → Nat → Nat → Int32)) (EL : (Nat → Nat → Nat → Int32)) (EK : (Nat → Nat → Nat → Int32)) (tw : (Nat → Int32)) (tl : (Nat → Int32)) (tk : (Nat → Int32)) (tu : (Nat → Int32)) (m : (Nat → Int32)) (tn : (Nat → Int32)) (tr_ : (Nat → Int32)) (ts : (Nat → Int32)) (tp : (Nat → Int32)) (tx : (Nat → Int32)) (Ls : Nat) (v3 : Int32) (k_g : hAt h g = some (gpC (g + 1) (g + 3) (g + 18) (g + 33) (g + 34) (g + 37) s)) (k_g1 : hAt h (g + 1) = some (txC (g + 2) x)) (k_g2 : hAt h (g + 2) = some (arC 240 lf)) (k_g3 : nk h (g + 3) r t W LF KF) (k_g18 : nk h (g + 18) dr dt DW DL DK) (k_g33 : hAt h (g + 33) = some (arR 2 4 (fun j => some ((g + 38) + 15 * j)))) (k_g38 : ek h (g + 38) ER ET EW EL EK) (k_g34 : hAt h (g + 34) = some (waC (g + 35) (g + 36) tw)) (k_g35 : hAt h (g + 35) = some (arI 6 tl)) (k_g36 : hAt h (g + 36) = some (arI 6 tk)) (k_g37 : hAt h (g + 37) = some (ruC tu)) (k_g98 : hAt h (g + 98) = some (moC (g + 99) (g + 100) (g + 101) (g + 102) (g + 103) m)) (k_g99 : hAt h (g + 99) = some (arI 103 tn)) (k_g100 : hAt h (g + 100) = some (arI 103 tr_)) (k_g101 : hAt h (g + 101) = some (arI 103 ts)) (k_g102 : hAt h (g + 102) = some (arI 412 tp)) (k_g103 : hAt h (g + 103) = some (arI 240 tx)) (ex : xg_x G = xs) (eL : xg_L G = Ls) (hp : p_law_wipe xs s x lf r t W LF KF dr dt DW DL DK ER ET EW EL EK tw tl tk tu m tn tr_ ts tp tx Ls v3) (kk : ∀ h2 : xH, hAt h2 g = some (gpC (g + 1) (g + 3) (g + 18) (g + 33) (g + 34) (g + 37) s) → hAt h2 (g + 1) = some (txC (g + 2) (f_law_wipe xs s x lf r t W LF KF dr dt DW DL DK ER ET EW EL EK tw tl tk tu m tn tr_ ts tp tx Ls v3).1) → hAt h2 (g + 2) = some (arC 240 lf) → nk h2 (g + 3) r t W LF KF → nk h2 (g + 18) dr dt DW DL DK → hAt h2 (g + 33) = some (arR 2 4 (fun j => some ((g + 38) + 15 * j))) → ek h2 (g + 38) ER ET EW EL EK → hAt h2 (g + 34) = some (waC (g + 35) (g + 36) tw) → hAt h2 (g + 35) = some (arI 6 tl) → hAt h2 (g + 36) = some (arI 6 tk) → hAt h2 (g + 37) = some (ruC tu) → hAt h2 (g + 98) = some (moC (g + 99) (g + 100) (g + 101) (g + 102) (g + 103) (f_law_wipe xs s x lf r t W LF KF dr dt DW DL DK ER ET EW EL EK tw tl tk tu m tn tr_ ts tp tx Ls v3).2) → hAt h2 (g + 99) = some (arI 103 tn) → hAt h2 (g + 100) = some (arI 103 tr_) → hAt h2 (g + 101) = some (arI 103 ts) → hAt h2 (g + 102) = some (arI 412 tp) → hAt h2 (g + 103) = some (arI 240 tx) → Wp G RL code 4 nm ret room_1 (lwZ G) 104 1984 735 [(3, .int v3), (2, .ref (g + 98)), (1, .ref g), (0, .ref (xg_b G))] [] h2) : Wp G RL code 4 nm ret room_1 (lwZ G) 104 1984 155 [(3, .int v3), (2, .ref (g + 98)), (1, .ref g), (0, .ref (xg_b G))] [] h := by
  obtain ⟨R, er⟩ : ∃ R, f_law_wipe xs s x lf r t W LF KF dr dt DW DL DK ER ET EW EL EK tw tl tk tu m tn tr_ ts tp tx Ls v3 = R := ⟨_, rfl⟩
  rw [er] at kk
  unfold f_law_wipe at er
  unfold p_law_wipe at hp
  refine x_aload_n (pc := 155) dL_law_155 rfl ?_
  refine x_cVQ (pc := 156) (As := []) (rest := []) dL_law_156 xl_L_18 xv_X4_wipe k_g rfl rfl rfl rfl rfl rfl (C_X4_wipe G _ g s x k_g k_g1) (fun v h1 hq => ?_)
  obtain ⟨ev, z0_h1, g_h1⟩ := hq
  subst ev
  refine Wp.eqs (L' := [(3, .int v3), (2, .ref (g + 98)), (1, .ref g), (0, .ref (xg_b G))]) (st' := [.int (f_X4_wipe s x).1]) rfl rfl ?_
  obtain ⟨F1, eF1⟩ : ∃ F, f_X4_wipe s x = F := ⟨_, rfl⟩
  try rw [eF1] at er
  try rw [eF1] at hp
  try rw [eF1]
  try rw [eF1] at z0_h1
  have k_g_h1 : hAt h1 g = some (gpC (g + 1) (g + 3) (g + 18) (g + 33) (g + 34) (g + 37) s) := (g_h1.2 g (nt_X4_wipe_0 g)).trans k_g
  have k_g1_h1 : hAt h1 (g + 1) = some (txC (g + 2) F1.2) := z0_h1
  have k_g2_h1 : hAt h1 (g + 2) = some (arC 240 lf) := (g_h1.2 (g + 2) (nt_X4_wipe_2 g)).trans k_g2
  have k_g3_h1 : nk h1 (g + 3) r t W LF KF := nk_fr (fun q u1 u2 => g_h1.2 q (nt_X4_wipe_r3 g q u1 u2)) k_g3
  have k_g18_h1 : nk h1 (g + 18) dr dt DW DL DK := nk_fr (fun q u1 u2 => g_h1.2 q (nt_X4_wipe_r18 g q u1 u2)) k_g18
  have k_g33_h1 : hAt h1 (g + 33) = some (arR 2 4 (fun j => some ((g + 38) + 15 * j))) := (g_h1.2 (g + 33) (nt_X4_wipe_33 g)).trans k_g33
  have k_g38_h1 : ek h1 (g + 38) ER ET EW EL EK := ek_fr (fun q u1 u2 => g_h1.2 q (nt_X4_wipe_r38 g q u1 u2)) k_g38
  have k_g34_h1 : hAt h1 (g + 34) = some (waC (g + 35) (g + 36) tw) := (g_h1.2 (g + 34) (nt_X4_wipe_34 g)).trans k_g34
  have k_g35_h1 : hAt h1 (g + 35) = some (arI 6 tl) := (g_h1.2 (g + 35) (nt_X4_wipe_35 g)).trans k_g35
  have k_g36_h1 : hAt h1 (g + 36) = some (arI 6 tk) := (g_h1.2 (g + 36) (nt_X4_wipe_36 g)).trans k_g36
  have k_g37_h1 : hAt h1 (g + 37) = some (ruC tu) := (g_h1.2 (g + 37) (nt_X4_wipe_37 g)).trans k_g37
  have k_g98_h1 : hAt h1 (g + 98) = some (moC (g + 99) (g + 100) (g + 101) (g + 102) (g + 103) m) := (g_h1.2 (g + 98) (nt_X4_wipe_98 g)).trans k_g98
  have k_g99_h1 : hAt h1 (g + 99) = some (arI 103 tn) := (g_h1.2 (g + 99) (nt_X4_wipe_99 g)).trans k_g99
  have k_g100_h1 : hAt h1 (g + 100) = some (arI 103 tr_) := (g_h1.2 (g + 100) (nt_X4_wipe_100 g)).trans k_g100
  have k_g101_h1 : hAt h1 (g + 101) = some (arI 103 ts) := (g_h1.2 (g + 101) (nt_X4_wipe_101 g)).trans k_g101
  have k_g102_h1 : hAt h1 (g + 102) = some (arI 412 tp) := (g_h1.2 (g + 102) (nt_X4_wipe_102 g)).trans k_g102
  have k_g103_h1 : hAt h1 (g + 103) = some (arI 240 tx) := (g_h1.2 (g + 103) (nt_X4_wipe_103 g)).trans k_g103
  refine x_aload_n (pc := 159) dL_law_159 rfl ?_
  refine x_cV0i (pc := 160) dL_law_160 xl_L_22 xv_X5_wipe k_g98_h1 rfl (C_X5_wipe G _ (g + 98) (g + 99) (g + 100) (g + 101) (g + 102) (g + 103) m k_g98_h1) rfl rfl rfl ?_
  obtain ⟨F2, eF2⟩ : ∃ F, f_X5_wipe m = F := ⟨_, rfl⟩
  rw [eF2]
  try rw [eF2] at er
  try rw [eF2] at hp
  obtain ⟨h2, eh2⟩ : ∃ z, z = hSet h1 (g + 98) (moC (g + 99) (g + 100) (g + 101) (g + 102) (g + 103) F2.2) := ⟨_, rfl⟩
  rw [← eh2]
  have k_g_h2 : hAt h2 g = some (gpC (g + 1) (g + 3) (g + 18) (g + 33) (g + 34) (g + 37) s) := by rw [eh2]; exact hAt_n (cNeL rfl) k_g_h1
  have k_g1_h2 : hAt h2 (g + 1) = some (txC (g + 2) F1.2) := by rw [eh2]; exact hAt_n (cNe rfl) k_g1_h1
  have k_g2_h2 : hAt h2 (g + 2) = some (arC 240 lf) := by rw [eh2]; exact hAt_n (cNe rfl) k_g2_h1
  have k_g3_h2 : nk h2 (g + 3) r t W LF KF := by rw [eh2]; exact nk_fr1 (cOut rfl) k_g3_h1
  have k_g18_h2 : nk h2 (g + 18) dr dt DW DL DK := by rw [eh2]; exact nk_fr1 (cOut rfl) k_g18_h1
  have k_g33_h2 : hAt h2 (g + 33) = some (arR 2 4 (fun j => some ((g + 38) + 15 * j))) := by rw [eh2]; exact hAt_n (cNe rfl) k_g33_h1
  have k_g38_h2 : ek h2 (g + 38) ER ET EW EL EK := by rw [eh2]; exact ek_fr1 (cOutE rfl) k_g38_h1
  have k_g34_h2 : hAt h2 (g + 34) = some (waC (g + 35) (g + 36) tw) := by rw [eh2]; exact hAt_n (cNe rfl) k_g34_h1
  have k_g35_h2 : hAt h2 (g + 35) = some (arI 6 tl) := by rw [eh2]; exact hAt_n (cNe rfl) k_g35_h1
  have k_g36_h2 : hAt h2 (g + 36) = some (arI 6 tk) := by rw [eh2]; exact hAt_n (cNe rfl) k_g36_h1
  have k_g37_h2 : hAt h2 (g + 37) = some (ruC tu) := by rw [eh2]; exact hAt_n (cNe rfl) k_g37_h1
  have k_g98_h2 : hAt h2 (g + 98) = some (moC (g + 99) (g + 100) (g + 101) (g + 102) (g + 103) F2.2) := by rw [eh2]; exact hAt_same
  have k_g99_h2 : hAt h2 (g + 99) = some (arI 103 tn) := by rw [eh2]; exact hAt_n (cNe rfl) k_g99_h1
  have k_g100_h2 : hAt h2 (g + 100) = some (arI 103 tr_) := by rw [eh2]; exact hAt_n (cNe rfl) k_g100_h1
  have k_g101_h2 : hAt h2 (g + 101) = some (arI 103 ts) := by rw [eh2]; exact hAt_n (cNe rfl) k_g101_h1
  have k_g102_h2 : hAt h2 (g + 102) = some (arI 412 tp) := by rw [eh2]; exact hAt_n (cNe rfl) k_g102_h1
  have k_g103_h2 : hAt h2 (g + 103) = some (arI 240 tx) := by rw [eh2]; exact hAt_n (cNe rfl) k_g103_h1
  refine x_icmp_eq (pc := 163) (tgt := 735) dL_law_163 (by decide) (fun (c1 : F1.1 = F2.1) => ?_) (fun (c1 : ¬ (F1.1 = F2.1)) => ?_)
  · replace hp := hp.1 c1
    rw [if_pos c1] at er
    subst er
    exact kk h2 k_g_h2 k_g1_h2 k_g2_h2 k_g3_h2 k_g18_h2 k_g33_h2 k_g38_h2 k_g34_h2 k_g35_h2 k_g36_h2 k_g37_h2 k_g98_h2 k_g99_h2 k_g100_h2 k_g101_h2 k_g102_h2 k_g103_h2
  · replace hp := hp.2 c1
    rw [if_neg c1] at er
    refine x_iconst (pc := 166) (v := (0 : Int32)) dL_law_166 (by decide) ?_
    exact hp.elim

def f_law_fault (xs : (Nat → Int32)) (s : (Nat → Int32)) (x : (Nat → Int32)) (lf : (Nat → Int32)) (r : (Nat → Int32)) (t : (Nat → Int32)) (W : (Nat → Nat → Int32)) (LF : (Nat → Nat → Int32)) (KF : (Nat → Nat → Int32)) (dr : (Nat → Int32)) (dt : (Nat → Int32)) (DW : (Nat → Nat → Int32)) (DL : (Nat → Nat → Int32)) (DK : (Nat → Nat → Int32)) (ER : (Nat → Nat → Int32)) (ET : (Nat → Nat → Int32)) (EW : (Nat → Nat → Nat → Int32)) (EL : (Nat → Nat → Nat → Int32)) (EK : (Nat → Nat → Nat → Int32)) (tw : (Nat → Int32)) (tl : (Nat → Int32)) (tk : (Nat → Int32)) (tu : (Nat → Int32)) (m : (Nat → Int32)) (tn : (Nat → Int32)) (tr_ : (Nat → Int32)) (ts : (Nat → Int32)) (tp : (Nat → Int32)) (tx : (Nat → Int32)) (Ls : Nat) (v3 : Int32) : (Nat → Int32) × (Nat → Int32) × (Nat → Int32) × (Nat → Nat → Int32) × (Nat → Nat → Int32) × (Nat → Nat → Int32) × (Nat → Int32) × (Nat → Int32) := (if (f_X4_fault s x lf dr dt DW DL DK).1 = (f_X5_fault m tr_ tx).1 then ((f_X4_fault s x lf dr dt DW DL DK).2.1, (f_X4_fault s x lf dr dt DW DL DK).2.2.1, (f_X4_fault s x lf dr dt DW DL DK).2.2.2.1, (f_X4_fault s x lf dr dt DW DL DK).2.2.2.2.1, (f_X4_fault s x lf dr dt DW DL DK).2.2.2.2.2.1, (f_X4_fault s x lf dr dt DW DL DK).2.2.2.2.2.2, (f_X5_fault m tr_ tx).2.1, (f_X5_fault m tr_ tx).2.2) else ((fun _ => 0), (fun _ => 0), (fun _ => 0), (fun _ _ => 0), (fun _ _ => 0), (fun _ _ => 0), (fun _ => 0), (fun _ => 0)))
def p_law_fault (xs : (Nat → Int32)) (s : (Nat → Int32)) (x : (Nat → Int32)) (lf : (Nat → Int32)) (r : (Nat → Int32)) (t : (Nat → Int32)) (W : (Nat → Nat → Int32)) (LF : (Nat → Nat → Int32)) (KF : (Nat → Nat → Int32)) (dr : (Nat → Int32)) (dt : (Nat → Int32)) (DW : (Nat → Nat → Int32)) (DL : (Nat → Nat → Int32)) (DK : (Nat → Nat → Int32)) (ER : (Nat → Nat → Int32)) (ET : (Nat → Nat → Int32)) (EW : (Nat → Nat → Nat → Int32)) (EL : (Nat → Nat → Nat → Int32)) (EK : (Nat → Nat → Nat → Int32)) (tw : (Nat → Int32)) (tl : (Nat → Int32)) (tk : (Nat → Int32)) (tu : (Nat → Int32)) (m : (Nat → Int32)) (tn : (Nat → Int32)) (tr_ : (Nat → Int32)) (ts : (Nat → Int32)) (tp : (Nat → Int32)) (tx : (Nat → Int32)) (Ls : Nat) (v3 : Int32) : Prop := (p_X4_fault s x lf dr dt DW DL DK ∧ (p_X5_fault m tr_ tx ∧ (((f_X4_fault s x lf dr dt DW DL DK).1 = (f_X5_fault m tr_ tx).1 → True) ∧ (¬ ((f_X4_fault s x lf dr dt DW DL DK).1 = (f_X5_fault m tr_ tx).1) → False))))
set_option maxRecDepth 100000 in
set_option maxHeartbeats 4000000 in
theorem K_law_fault (G : xG) (h : xH) (nm : String) (g : Nat) (xs : (Nat → Int32)) (s : (Nat → Int32)) (x : (Nat → Int32)) (lf : (Nat → Int32)) (r : (Nat → Int32)) (t : (Nat → Int32)) (W : (Nat → Nat → Int32)) (LF : (Nat → Nat → Int32)) (KF : (Nat → Nat → Int32)) (dr : (Nat → Int32)) (dt : (Nat → Int32)) (DW : (Nat → Nat → Int32)) (DL : (Nat → Nat → Int32)) (DK : (Nat → Nat → Int32)) (ER : (Nat → Nat → Int32)) (ET : (Nat → Nat → Int32)) (EW : (Nat → Nat → Nat → Int32)) (EL : (Nat → Nat → Nat → Int32)) (EK : (Nat → Nat → Nat → Int32)) (tw : (Nat → Int32)) (tl : (Nat → Int32)) (tk : (Nat → Int32)) (tu : (Nat → Int32)) (m : (Nat → Int32)) (tn : (Nat → Int32)) (tr_ : (Nat → Int32)) (ts : (Nat → Int32)) (tp : (Nat → Int32)) (tx : (Nat → Int32)) (Ls : Nat) (v3 : Int32) (k_g : hAt h g = some (gpC (g + 1) (g + 3) (g + 18) (g + 33) (g + 34) (g + 37) s)) (k_g1 : hAt h (g + 1) = some (txC (g + 2) x)) (k_g2 : hAt h (g + 2) = some (arC 240 lf)) (k_g3 : nk h (g + 3) r t W LF KF) (k_g18 : nk h (g + 18) dr dt DW DL DK) (k_g33 : hAt h (g + 33) = some (arR 2 4 (fun j => some ((g + 38) + 15 * j)))) (k_g38 : ek h (g + 38) ER ET EW EL EK) (k_g34 : hAt h (g + 34) = some (waC (g + 35) (g + 36) tw)) (k_g35 : hAt h (g + 35) = some (arI 6 tl)) (k_g36 : hAt h (g + 36) = some (arI 6 tk)) (k_g37 : hAt h (g + 37) = some (ruC tu)) (k_g98 : hAt h (g + 98) = some (moC (g + 99) (g + 100) (g + 101) (g + 102) (g + 103) m)) (k_g99 : hAt h (g + 99) = some (arI 103 tn)) (k_g100 : hAt h (g + 100) = some (arI 103 tr_)) (k_g101 : hAt h (g + 101) = some (arI 103 ts)) (k_g102 : hAt h (g + 102) = some (arI 412 tp)) (k_g103 : hAt h (g + 103) = some (arI 240 tx)) (ex : xg_x G = xs) (eL : xg_L G = Ls) (hp : p_law_fault xs s x lf r t W LF KF dr dt DW DL DK ER ET EW EL EK tw tl tk tu m tn tr_ ts tp tx Ls v3) (kk : ∀ h2 : xH, hAt h2 g = some (gpC (g + 1) (g + 3) (g + 18) (g + 33) (g + 34) (g + 37) s) → hAt h2 (g + 1) = some (txC (g + 2) (f_law_fault xs s x lf r t W LF KF dr dt DW DL DK ER ET EW EL EK tw tl tk tu m tn tr_ ts tp tx Ls v3).1) → hAt h2 (g + 2) = some (arC 240 lf) → nk h2 (g + 3) r t W LF KF → nk h2 (g + 18) (f_law_fault xs s x lf r t W LF KF dr dt DW DL DK ER ET EW EL EK tw tl tk tu m tn tr_ ts tp tx Ls v3).2.1 (f_law_fault xs s x lf r t W LF KF dr dt DW DL DK ER ET EW EL EK tw tl tk tu m tn tr_ ts tp tx Ls v3).2.2.1 (f_law_fault xs s x lf r t W LF KF dr dt DW DL DK ER ET EW EL EK tw tl tk tu m tn tr_ ts tp tx Ls v3).2.2.2.1 (f_law_fault xs s x lf r t W LF KF dr dt DW DL DK ER ET EW EL EK tw tl tk tu m tn tr_ ts tp tx Ls v3).2.2.2.2.1 (f_law_fault xs s x lf r t W LF KF dr dt DW DL DK ER ET EW EL EK tw tl tk tu m tn tr_ ts tp tx Ls v3).2.2.2.2.2.1 → hAt h2 (g + 33) = some (arR 2 4 (fun j => some ((g + 38) + 15 * j))) → ek h2 (g + 38) ER ET EW EL EK → hAt h2 (g + 34) = some (waC (g + 35) (g + 36) tw) → hAt h2 (g + 35) = some (arI 6 tl) → hAt h2 (g + 36) = some (arI 6 tk) → hAt h2 (g + 37) = some (ruC tu) → hAt h2 (g + 98) = some (moC (g + 99) (g + 100) (g + 101) (g + 102) (g + 103) (f_law_fault xs s x lf r t W LF KF dr dt DW DL DK ER ET EW EL EK tw tl tk tu m tn tr_ ts tp tx Ls v3).2.2.2.2.2.2.1) → hAt h2 (g + 99) = some (arI 103 tn) → hAt h2 (g + 100) = some (arI 103 (f_law_fault xs s x lf r t W LF KF dr dt DW DL DK ER ET EW EL EK tw tl tk tu m tn tr_ ts tp tx Ls v3).2.2.2.2.2.2.2) → hAt h2 (g + 101) = some (arI 103 ts) → hAt h2 (g + 102) = some (arI 412 tp) → hAt h2 (g + 103) = some (arI 240 tx) → Wp G RL code 4 nm ret room_1 (lwZ G) 104 1984 735 [(3, .int v3), (2, .ref (g + 98)), (1, .ref g), (0, .ref (xg_b G))] [] h2) : Wp G RL code 4 nm ret room_1 (lwZ G) 104 1984 168 [(3, .int v3), (2, .ref (g + 98)), (1, .ref g), (0, .ref (xg_b G))] [] h := by
  obtain ⟨R, er⟩ : ∃ R, f_law_fault xs s x lf r t W LF KF dr dt DW DL DK ER ET EW EL EK tw tl tk tu m tn tr_ ts tp tx Ls v3 = R := ⟨_, rfl⟩
  rw [er] at kk
  unfold f_law_fault at er
  unfold p_law_fault at hp
  refine x_aload_n (pc := 168) dL_law_168 rfl ?_
  obtain ⟨q169, hp⟩ := hp
  refine x_cVQ (pc := 169) (As := []) (rest := []) dL_law_169 xl_L_23 xv_X4_fault k_g rfl rfl rfl rfl rfl rfl (C_X4_fault G _ g s x lf dr dt DW DL DK k_g k_g1 k_g2 k_g18 q169) (fun v h1 hq => ?_)
  obtain ⟨ev, z0_h1, z1_h1, g_h1⟩ := hq
  subst ev
  refine Wp.eqs (L' := [(3, .int v3), (2, .ref (g + 98)), (1, .ref g), (0, .ref (xg_b G))]) (st' := [.int (f_X4_fault s x lf dr dt DW DL DK).1]) rfl rfl ?_
  obtain ⟨F1, eF1⟩ : ∃ F, f_X4_fault s x lf dr dt DW DL DK = F := ⟨_, rfl⟩
  try rw [eF1] at er
  try rw [eF1] at hp
  try rw [eF1]
  try rw [eF1] at z0_h1
  try rw [eF1] at z1_h1
  have k_g_h1 : hAt h1 g = some (gpC (g + 1) (g + 3) (g + 18) (g + 33) (g + 34) (g + 37) s) := (g_h1.2 g (nt_X4_fault_0 g)).trans k_g
  have k_g1_h1 : hAt h1 (g + 1) = some (txC (g + 2) F1.2.1) := z0_h1
  have k_g2_h1 : hAt h1 (g + 2) = some (arC 240 lf) := (g_h1.2 (g + 2) (nt_X4_fault_2 g)).trans k_g2
  have k_g3_h1 : nk h1 (g + 3) r t W LF KF := nk_fr (fun q u1 u2 => g_h1.2 q (nt_X4_fault_r3 g q u1 u2)) k_g3
  have k_g18_h1 : nk h1 (g + 18) F1.2.2.1 F1.2.2.2.1 F1.2.2.2.2.1 F1.2.2.2.2.2.1 F1.2.2.2.2.2.2 := z1_h1
  have k_g33_h1 : hAt h1 (g + 33) = some (arR 2 4 (fun j => some ((g + 38) + 15 * j))) := (g_h1.2 (g + 33) (nt_X4_fault_33 g)).trans k_g33
  have k_g38_h1 : ek h1 (g + 38) ER ET EW EL EK := ek_fr (fun q u1 u2 => g_h1.2 q (nt_X4_fault_r38 g q u1 u2)) k_g38
  have k_g34_h1 : hAt h1 (g + 34) = some (waC (g + 35) (g + 36) tw) := (g_h1.2 (g + 34) (nt_X4_fault_34 g)).trans k_g34
  have k_g35_h1 : hAt h1 (g + 35) = some (arI 6 tl) := (g_h1.2 (g + 35) (nt_X4_fault_35 g)).trans k_g35
  have k_g36_h1 : hAt h1 (g + 36) = some (arI 6 tk) := (g_h1.2 (g + 36) (nt_X4_fault_36 g)).trans k_g36
  have k_g37_h1 : hAt h1 (g + 37) = some (ruC tu) := (g_h1.2 (g + 37) (nt_X4_fault_37 g)).trans k_g37
  have k_g98_h1 : hAt h1 (g + 98) = some (moC (g + 99) (g + 100) (g + 101) (g + 102) (g + 103) m) := (g_h1.2 (g + 98) (nt_X4_fault_98 g)).trans k_g98
  have k_g99_h1 : hAt h1 (g + 99) = some (arI 103 tn) := (g_h1.2 (g + 99) (nt_X4_fault_99 g)).trans k_g99
  have k_g100_h1 : hAt h1 (g + 100) = some (arI 103 tr_) := (g_h1.2 (g + 100) (nt_X4_fault_100 g)).trans k_g100
  have k_g101_h1 : hAt h1 (g + 101) = some (arI 103 ts) := (g_h1.2 (g + 101) (nt_X4_fault_101 g)).trans k_g101
  have k_g102_h1 : hAt h1 (g + 102) = some (arI 412 tp) := (g_h1.2 (g + 102) (nt_X4_fault_102 g)).trans k_g102
  have k_g103_h1 : hAt h1 (g + 103) = some (arI 240 tx) := (g_h1.2 (g + 103) (nt_X4_fault_103 g)).trans k_g103
  refine x_aload_n (pc := 172) dL_law_172 rfl ?_
  obtain ⟨q173, hp⟩ := hp
  refine x_cV0i (pc := 173) dL_law_173 xl_L_26 xv_X5_fault k_g98_h1 rfl (C_X5_fault G _ (g + 98) (g + 99) (g + 100) (g + 101) (g + 102) (g + 103) m tr_ tx k_g98_h1 k_g100_h1 k_g103_h1 (cNe rfl) q173) rfl rfl rfl ?_
  obtain ⟨F2, eF2⟩ : ∃ F, f_X5_fault m tr_ tx = F := ⟨_, rfl⟩
  rw [eF2]
  try rw [eF2] at er
  try rw [eF2] at hp
  obtain ⟨h2, eh2⟩ : ∃ z, z = hSet h1 (g + 98) (moC (g + 99) (g + 100) (g + 101) (g + 102) (g + 103) F2.2.1) := ⟨_, rfl⟩
  rw [← eh2]
  have k_g_h2 : hAt h2 g = some (gpC (g + 1) (g + 3) (g + 18) (g + 33) (g + 34) (g + 37) s) := by rw [eh2]; exact hAt_n (cNeL rfl) k_g_h1
  have k_g1_h2 : hAt h2 (g + 1) = some (txC (g + 2) F1.2.1) := by rw [eh2]; exact hAt_n (cNe rfl) k_g1_h1
  have k_g2_h2 : hAt h2 (g + 2) = some (arC 240 lf) := by rw [eh2]; exact hAt_n (cNe rfl) k_g2_h1
  have k_g3_h2 : nk h2 (g + 3) r t W LF KF := by rw [eh2]; exact nk_fr1 (cOut rfl) k_g3_h1
  have k_g18_h2 : nk h2 (g + 18) F1.2.2.1 F1.2.2.2.1 F1.2.2.2.2.1 F1.2.2.2.2.2.1 F1.2.2.2.2.2.2 := by rw [eh2]; exact nk_fr1 (cOut rfl) k_g18_h1
  have k_g33_h2 : hAt h2 (g + 33) = some (arR 2 4 (fun j => some ((g + 38) + 15 * j))) := by rw [eh2]; exact hAt_n (cNe rfl) k_g33_h1
  have k_g38_h2 : ek h2 (g + 38) ER ET EW EL EK := by rw [eh2]; exact ek_fr1 (cOutE rfl) k_g38_h1
  have k_g34_h2 : hAt h2 (g + 34) = some (waC (g + 35) (g + 36) tw) := by rw [eh2]; exact hAt_n (cNe rfl) k_g34_h1
  have k_g35_h2 : hAt h2 (g + 35) = some (arI 6 tl) := by rw [eh2]; exact hAt_n (cNe rfl) k_g35_h1
  have k_g36_h2 : hAt h2 (g + 36) = some (arI 6 tk) := by rw [eh2]; exact hAt_n (cNe rfl) k_g36_h1
  have k_g37_h2 : hAt h2 (g + 37) = some (ruC tu) := by rw [eh2]; exact hAt_n (cNe rfl) k_g37_h1
  have k_g98_h2 : hAt h2 (g + 98) = some (moC (g + 99) (g + 100) (g + 101) (g + 102) (g + 103) F2.2.1) := by rw [eh2]; exact hAt_same
  have k_g99_h2 : hAt h2 (g + 99) = some (arI 103 tn) := by rw [eh2]; exact hAt_n (cNe rfl) k_g99_h1
  have k_g100_h2 : hAt h2 (g + 100) = some (arI 103 tr_) := by rw [eh2]; exact hAt_n (cNe rfl) k_g100_h1
  have k_g101_h2 : hAt h2 (g + 101) = some (arI 103 ts) := by rw [eh2]; exact hAt_n (cNe rfl) k_g101_h1
  have k_g102_h2 : hAt h2 (g + 102) = some (arI 412 tp) := by rw [eh2]; exact hAt_n (cNe rfl) k_g102_h1
  have k_g103_h2 : hAt h2 (g + 103) = some (arI 240 tx) := by rw [eh2]; exact hAt_n (cNe rfl) k_g103_h1
  obtain ⟨h3, eh3⟩ : ∃ z, z = hSet h2 (g + 100) (arI 103 F2.2.2) := ⟨_, rfl⟩
  rw [← eh3]
  have k_g_h3 : hAt h3 g = some (gpC (g + 1) (g + 3) (g + 18) (g + 33) (g + 34) (g + 37) s) := by rw [eh3]; exact hAt_n (cNeL rfl) k_g_h2
  have k_g1_h3 : hAt h3 (g + 1) = some (txC (g + 2) F1.2.1) := by rw [eh3]; exact hAt_n (cNe rfl) k_g1_h2
  have k_g2_h3 : hAt h3 (g + 2) = some (arC 240 lf) := by rw [eh3]; exact hAt_n (cNe rfl) k_g2_h2
  have k_g3_h3 : nk h3 (g + 3) r t W LF KF := by rw [eh3]; exact nk_fr1 (cOut rfl) k_g3_h2
  have k_g18_h3 : nk h3 (g + 18) F1.2.2.1 F1.2.2.2.1 F1.2.2.2.2.1 F1.2.2.2.2.2.1 F1.2.2.2.2.2.2 := by rw [eh3]; exact nk_fr1 (cOut rfl) k_g18_h2
  have k_g33_h3 : hAt h3 (g + 33) = some (arR 2 4 (fun j => some ((g + 38) + 15 * j))) := by rw [eh3]; exact hAt_n (cNe rfl) k_g33_h2
  have k_g38_h3 : ek h3 (g + 38) ER ET EW EL EK := by rw [eh3]; exact ek_fr1 (cOutE rfl) k_g38_h2
  have k_g34_h3 : hAt h3 (g + 34) = some (waC (g + 35) (g + 36) tw) := by rw [eh3]; exact hAt_n (cNe rfl) k_g34_h2
  have k_g35_h3 : hAt h3 (g + 35) = some (arI 6 tl) := by rw [eh3]; exact hAt_n (cNe rfl) k_g35_h2
  have k_g36_h3 : hAt h3 (g + 36) = some (arI 6 tk) := by rw [eh3]; exact hAt_n (cNe rfl) k_g36_h2
  have k_g37_h3 : hAt h3 (g + 37) = some (ruC tu) := by rw [eh3]; exact hAt_n (cNe rfl) k_g37_h2
  have k_g98_h3 : hAt h3 (g + 98) = some (moC (g + 99) (g + 100) (g + 101) (g + 102) (g + 103) F2.2.1) := by rw [eh3]; exact hAt_n (cNe rfl) k_g98_h2
  have k_g99_h3 : hAt h3 (g + 99) = some (arI 103 tn) := by rw [eh3]; exact hAt_n (cNe rfl) k_g99_h2
  have k_g100_h3 : hAt h3 (g + 100) = some (arI 103 F2.2.2) := by rw [eh3]; exact hAt_same
  have k_g101_h3 : hAt h3 (g + 101) = some (arI 103 ts) := by rw [eh3]; exact hAt_n (cNe rfl) k_g101_h2
  have k_g102_h3 : hAt h3 (g + 102) = some (arI 412 tp) := by rw [eh3]; exact hAt_n (cNe rfl) k_g102_h2
  have k_g103_h3 : hAt h3 (g + 103) = some (arI 240 tx) := by rw [eh3]; exact hAt_n (cNe rfl) k_g103_h2
  refine x_icmp_eq (pc := 176) (tgt := 735) dL_law_176 (by decide) (fun (c1 : F1.1 = F2.1) => ?_) (fun (c1 : ¬ (F1.1 = F2.1)) => ?_)
  · replace hp := hp.1 c1
    rw [if_pos c1] at er
    subst er
    exact kk h3 k_g_h3 k_g1_h3 k_g2_h3 k_g3_h3 k_g18_h3 k_g33_h3 k_g38_h3 k_g34_h3 k_g35_h3 k_g36_h3 k_g37_h3 k_g98_h3 k_g99_h3 k_g100_h3 k_g101_h3 k_g102_h3 k_g103_h3
  · replace hp := hp.2 c1
    rw [if_neg c1] at er
    refine x_iconst (pc := 179) (v := (0 : Int32)) dL_law_179 (by decide) ?_
    exact hp.elim

def f_law_lay (xs : (Nat → Int32)) (s : (Nat → Int32)) (x : (Nat → Int32)) (lf : (Nat → Int32)) (r : (Nat → Int32)) (t : (Nat → Int32)) (W : (Nat → Nat → Int32)) (LF : (Nat → Nat → Int32)) (KF : (Nat → Nat → Int32)) (dr : (Nat → Int32)) (dt : (Nat → Int32)) (DW : (Nat → Nat → Int32)) (DL : (Nat → Nat → Int32)) (DK : (Nat → Nat → Int32)) (ER : (Nat → Nat → Int32)) (ET : (Nat → Nat → Int32)) (EW : (Nat → Nat → Nat → Int32)) (EL : (Nat → Nat → Nat → Int32)) (EK : (Nat → Nat → Nat → Int32)) (tw : (Nat → Int32)) (tl : (Nat → Int32)) (tk : (Nat → Int32)) (tu : (Nat → Int32)) (m : (Nat → Int32)) (tn : (Nat → Int32)) (tr_ : (Nat → Int32)) (ts : (Nat → Int32)) (tp : (Nat → Int32)) (tx : (Nat → Int32)) (Ls : Nat) (v3 : Int32) : (Nat → Int32) × (Nat → Int32) × (Nat → Int32) × (Nat → Int32) × (Nat → Nat → Int32) × (Nat → Nat → Int32) × (Nat → Nat → Int32) × (Nat → Int32) × (Nat → Int32) × (Nat → Nat → Int32) × (Nat → Nat → Int32) × (Nat → Nat → Int32) × (Nat → Int32) × (Nat → Int32) × (Nat → Int32) := (if (f_X4_lay s x lf r t W LF KF dr dt DW DL DK).1 = (f_X5_lay m tn tr_ tx).1 then ((f_X4_lay s x lf r t W LF KF dr dt DW DL DK).2.1, (f_X4_lay s x lf r t W LF KF dr dt DW DL DK).2.2.1, (f_X4_lay s x lf r t W LF KF dr dt DW DL DK).2.2.2.1, (f_X4_lay s x lf r t W LF KF dr dt DW DL DK).2.2.2.2.1, (f_X4_lay s x lf r t W LF KF dr dt DW DL DK).2.2.2.2.2.1, (f_X4_lay s x lf r t W LF KF dr dt DW DL DK).2.2.2.2.2.2.1, (f_X4_lay s x lf r t W LF KF dr dt DW DL DK).2.2.2.2.2.2.2.1, (f_X4_lay s x lf r t W LF KF dr dt DW DL DK).2.2.2.2.2.2.2.2.1, (f_X4_lay s x lf r t W LF KF dr dt DW DL DK).2.2.2.2.2.2.2.2.2.1, (f_X4_lay s x lf r t W LF KF dr dt DW DL DK).2.2.2.2.2.2.2.2.2.2.1, (f_X4_lay s x lf r t W LF KF dr dt DW DL DK).2.2.2.2.2.2.2.2.2.2.2.1, (f_X4_lay s x lf r t W LF KF dr dt DW DL DK).2.2.2.2.2.2.2.2.2.2.2.2, (f_X5_lay m tn tr_ tx).2.1, (f_X5_lay m tn tr_ tx).2.2.1, (f_X5_lay m tn tr_ tx).2.2.2) else ((fun _ => 0), (fun _ => 0), (fun _ => 0), (fun _ => 0), (fun _ _ => 0), (fun _ _ => 0), (fun _ _ => 0), (fun _ => 0), (fun _ => 0), (fun _ _ => 0), (fun _ _ => 0), (fun _ _ => 0), (fun _ => 0), (fun _ => 0), (fun _ => 0)))
def p_law_lay (xs : (Nat → Int32)) (s : (Nat → Int32)) (x : (Nat → Int32)) (lf : (Nat → Int32)) (r : (Nat → Int32)) (t : (Nat → Int32)) (W : (Nat → Nat → Int32)) (LF : (Nat → Nat → Int32)) (KF : (Nat → Nat → Int32)) (dr : (Nat → Int32)) (dt : (Nat → Int32)) (DW : (Nat → Nat → Int32)) (DL : (Nat → Nat → Int32)) (DK : (Nat → Nat → Int32)) (ER : (Nat → Nat → Int32)) (ET : (Nat → Nat → Int32)) (EW : (Nat → Nat → Nat → Int32)) (EL : (Nat → Nat → Nat → Int32)) (EK : (Nat → Nat → Nat → Int32)) (tw : (Nat → Int32)) (tl : (Nat → Int32)) (tk : (Nat → Int32)) (tu : (Nat → Int32)) (m : (Nat → Int32)) (tn : (Nat → Int32)) (tr_ : (Nat → Int32)) (ts : (Nat → Int32)) (tp : (Nat → Int32)) (tx : (Nat → Int32)) (Ls : Nat) (v3 : Int32) : Prop := (p_X4_lay s x lf r t W LF KF dr dt DW DL DK ∧ (p_X5_lay m tn tr_ tx ∧ (((f_X4_lay s x lf r t W LF KF dr dt DW DL DK).1 = (f_X5_lay m tn tr_ tx).1 → True) ∧ (¬ ((f_X4_lay s x lf r t W LF KF dr dt DW DL DK).1 = (f_X5_lay m tn tr_ tx).1) → False))))
set_option maxRecDepth 100000 in
set_option maxHeartbeats 4000000 in
theorem K_law_lay (G : xG) (h : xH) (nm : String) (g : Nat) (xs : (Nat → Int32)) (s : (Nat → Int32)) (x : (Nat → Int32)) (lf : (Nat → Int32)) (r : (Nat → Int32)) (t : (Nat → Int32)) (W : (Nat → Nat → Int32)) (LF : (Nat → Nat → Int32)) (KF : (Nat → Nat → Int32)) (dr : (Nat → Int32)) (dt : (Nat → Int32)) (DW : (Nat → Nat → Int32)) (DL : (Nat → Nat → Int32)) (DK : (Nat → Nat → Int32)) (ER : (Nat → Nat → Int32)) (ET : (Nat → Nat → Int32)) (EW : (Nat → Nat → Nat → Int32)) (EL : (Nat → Nat → Nat → Int32)) (EK : (Nat → Nat → Nat → Int32)) (tw : (Nat → Int32)) (tl : (Nat → Int32)) (tk : (Nat → Int32)) (tu : (Nat → Int32)) (m : (Nat → Int32)) (tn : (Nat → Int32)) (tr_ : (Nat → Int32)) (ts : (Nat → Int32)) (tp : (Nat → Int32)) (tx : (Nat → Int32)) (Ls : Nat) (v3 : Int32) (k_g : hAt h g = some (gpC (g + 1) (g + 3) (g + 18) (g + 33) (g + 34) (g + 37) s)) (k_g1 : hAt h (g + 1) = some (txC (g + 2) x)) (k_g2 : hAt h (g + 2) = some (arC 240 lf)) (k_g3 : nk h (g + 3) r t W LF KF) (k_g18 : nk h (g + 18) dr dt DW DL DK) (k_g33 : hAt h (g + 33) = some (arR 2 4 (fun j => some ((g + 38) + 15 * j)))) (k_g38 : ek h (g + 38) ER ET EW EL EK) (k_g34 : hAt h (g + 34) = some (waC (g + 35) (g + 36) tw)) (k_g35 : hAt h (g + 35) = some (arI 6 tl)) (k_g36 : hAt h (g + 36) = some (arI 6 tk)) (k_g37 : hAt h (g + 37) = some (ruC tu)) (k_g98 : hAt h (g + 98) = some (moC (g + 99) (g + 100) (g + 101) (g + 102) (g + 103) m)) (k_g99 : hAt h (g + 99) = some (arI 103 tn)) (k_g100 : hAt h (g + 100) = some (arI 103 tr_)) (k_g101 : hAt h (g + 101) = some (arI 103 ts)) (k_g102 : hAt h (g + 102) = some (arI 412 tp)) (k_g103 : hAt h (g + 103) = some (arI 240 tx)) (ex : xg_x G = xs) (eL : xg_L G = Ls) (hp : p_law_lay xs s x lf r t W LF KF dr dt DW DL DK ER ET EW EL EK tw tl tk tu m tn tr_ ts tp tx Ls v3) (kk : ∀ h2 : xH, hAt h2 g = some (gpC (g + 1) (g + 3) (g + 18) (g + 33) (g + 34) (g + 37) (f_law_lay xs s x lf r t W LF KF dr dt DW DL DK ER ET EW EL EK tw tl tk tu m tn tr_ ts tp tx Ls v3).1) → hAt h2 (g + 1) = some (txC (g + 2) (f_law_lay xs s x lf r t W LF KF dr dt DW DL DK ER ET EW EL EK tw tl tk tu m tn tr_ ts tp tx Ls v3).2.1) → hAt h2 (g + 2) = some (arC 240 lf) → nk h2 (g + 3) (f_law_lay xs s x lf r t W LF KF dr dt DW DL DK ER ET EW EL EK tw tl tk tu m tn tr_ ts tp tx Ls v3).2.2.1 (f_law_lay xs s x lf r t W LF KF dr dt DW DL DK ER ET EW EL EK tw tl tk tu m tn tr_ ts tp tx Ls v3).2.2.2.1 (f_law_lay xs s x lf r t W LF KF dr dt DW DL DK ER ET EW EL EK tw tl tk tu m tn tr_ ts tp tx Ls v3).2.2.2.2.1 (f_law_lay xs s x lf r t W LF KF dr dt DW DL DK ER ET EW EL EK tw tl tk tu m tn tr_ ts tp tx Ls v3).2.2.2.2.2.1 (f_law_lay xs s x lf r t W LF KF dr dt DW DL DK ER ET EW EL EK tw tl tk tu m tn tr_ ts tp tx Ls v3).2.2.2.2.2.2.1 → nk h2 (g + 18) (f_law_lay xs s x lf r t W LF KF dr dt DW DL DK ER ET EW EL EK tw tl tk tu m tn tr_ ts tp tx Ls v3).2.2.2.2.2.2.2.1 (f_law_lay xs s x lf r t W LF KF dr dt DW DL DK ER ET EW EL EK tw tl tk tu m tn tr_ ts tp tx Ls v3).2.2.2.2.2.2.2.2.1 (f_law_lay xs s x lf r t W LF KF dr dt DW DL DK ER ET EW EL EK tw tl tk tu m tn tr_ ts tp tx Ls v3).2.2.2.2.2.2.2.2.2.1 (f_law_lay xs s x lf r t W LF KF dr dt DW DL DK ER ET EW EL EK tw tl tk tu m tn tr_ ts tp tx Ls v3).2.2.2.2.2.2.2.2.2.2.1 (f_law_lay xs s x lf r t W LF KF dr dt DW DL DK ER ET EW EL EK tw tl tk tu m tn tr_ ts tp tx Ls v3).2.2.2.2.2.2.2.2.2.2.2.1 → hAt h2 (g + 33) = some (arR 2 4 (fun j => some ((g + 38) + 15 * j))) → ek h2 (g + 38) ER ET EW EL EK → hAt h2 (g + 34) = some (waC (g + 35) (g + 36) tw) → hAt h2 (g + 35) = some (arI 6 tl) → hAt h2 (g + 36) = some (arI 6 tk) → hAt h2 (g + 37) = some (ruC tu) → hAt h2 (g + 98) = some (moC (g + 99) (g + 100) (g + 101) (g + 102) (g + 103) (f_law_lay xs s x lf r t W LF KF dr dt DW DL DK ER ET EW EL EK tw tl tk tu m tn tr_ ts tp tx Ls v3).2.2.2.2.2.2.2.2.2.2.2.2.1) → hAt h2 (g + 99) = some (arI 103 (f_law_lay xs s x lf r t W LF KF dr dt DW DL DK ER ET EW EL EK tw tl tk tu m tn tr_ ts tp tx Ls v3).2.2.2.2.2.2.2.2.2.2.2.2.2.1) → hAt h2 (g + 100) = some (arI 103 (f_law_lay xs s x lf r t W LF KF dr dt DW DL DK ER ET EW EL EK tw tl tk tu m tn tr_ ts tp tx Ls v3).2.2.2.2.2.2.2.2.2.2.2.2.2.2) → hAt h2 (g + 101) = some (arI 103 ts) → hAt h2 (g + 102) = some (arI 412 tp) → hAt h2 (g + 103) = some (arI 240 tx) → Wp G RL code 4 nm ret room_1 (lwZ G) 104 1984 735 [(3, .int v3), (2, .ref (g + 98)), (1, .ref g), (0, .ref (xg_b G))] [] h2) : Wp G RL code 4 nm ret room_1 (lwZ G) 104 1984 181 [(3, .int v3), (2, .ref (g + 98)), (1, .ref g), (0, .ref (xg_b G))] [] h := by
  obtain ⟨R, er⟩ : ∃ R, f_law_lay xs s x lf r t W LF KF dr dt DW DL DK ER ET EW EL EK tw tl tk tu m tn tr_ ts tp tx Ls v3 = R := ⟨_, rfl⟩
  rw [er] at kk
  unfold f_law_lay at er
  unfold p_law_lay at hp
  refine x_aload_n (pc := 181) dL_law_181 rfl ?_
  obtain ⟨q182, hp⟩ := hp
  refine x_cVQ (pc := 182) (As := []) (rest := []) dL_law_182 xl_L_27 xv_X4_lay k_g rfl rfl rfl rfl rfl rfl (C_X4_lay G _ g s x lf r t W LF KF dr dt DW DL DK k_g k_g1 k_g2 k_g3 k_g18 q182) (fun v h1 hq => ?_)
  obtain ⟨ev, z0_h1, z1_h1, z2_h1, z3_h1, g_h1⟩ := hq
  subst ev
  refine Wp.eqs (L' := [(3, .int v3), (2, .ref (g + 98)), (1, .ref g), (0, .ref (xg_b G))]) (st' := [.int (f_X4_lay s x lf r t W LF KF dr dt DW DL DK).1]) rfl rfl ?_
  obtain ⟨F1, eF1⟩ : ∃ F, f_X4_lay s x lf r t W LF KF dr dt DW DL DK = F := ⟨_, rfl⟩
  try rw [eF1] at er
  try rw [eF1] at hp
  try rw [eF1]
  try rw [eF1] at z0_h1
  try rw [eF1] at z1_h1
  try rw [eF1] at z2_h1
  try rw [eF1] at z3_h1
  have k_g_h1 : hAt h1 g = some (gpC (g + 1) (g + 3) (g + 18) (g + 33) (g + 34) (g + 37) F1.2.1) := z0_h1
  have k_g1_h1 : hAt h1 (g + 1) = some (txC (g + 2) F1.2.2.1) := z1_h1
  have k_g2_h1 : hAt h1 (g + 2) = some (arC 240 lf) := (g_h1.2 (g + 2) (nt_X4_lay_2 g)).trans k_g2
  have k_g3_h1 : nk h1 (g + 3) F1.2.2.2.1 F1.2.2.2.2.1 F1.2.2.2.2.2.1 F1.2.2.2.2.2.2.1 F1.2.2.2.2.2.2.2.1 := z2_h1
  have k_g18_h1 : nk h1 (g + 18) F1.2.2.2.2.2.2.2.2.1 F1.2.2.2.2.2.2.2.2.2.1 F1.2.2.2.2.2.2.2.2.2.2.1 F1.2.2.2.2.2.2.2.2.2.2.2.1 F1.2.2.2.2.2.2.2.2.2.2.2.2 := z3_h1
  have k_g33_h1 : hAt h1 (g + 33) = some (arR 2 4 (fun j => some ((g + 38) + 15 * j))) := (g_h1.2 (g + 33) (nt_X4_lay_33 g)).trans k_g33
  have k_g38_h1 : ek h1 (g + 38) ER ET EW EL EK := ek_fr (fun q u1 u2 => g_h1.2 q (nt_X4_lay_r38 g q u1 u2)) k_g38
  have k_g34_h1 : hAt h1 (g + 34) = some (waC (g + 35) (g + 36) tw) := (g_h1.2 (g + 34) (nt_X4_lay_34 g)).trans k_g34
  have k_g35_h1 : hAt h1 (g + 35) = some (arI 6 tl) := (g_h1.2 (g + 35) (nt_X4_lay_35 g)).trans k_g35
  have k_g36_h1 : hAt h1 (g + 36) = some (arI 6 tk) := (g_h1.2 (g + 36) (nt_X4_lay_36 g)).trans k_g36
  have k_g37_h1 : hAt h1 (g + 37) = some (ruC tu) := (g_h1.2 (g + 37) (nt_X4_lay_37 g)).trans k_g37
  have k_g98_h1 : hAt h1 (g + 98) = some (moC (g + 99) (g + 100) (g + 101) (g + 102) (g + 103) m) := (g_h1.2 (g + 98) (nt_X4_lay_98 g)).trans k_g98
  have k_g99_h1 : hAt h1 (g + 99) = some (arI 103 tn) := (g_h1.2 (g + 99) (nt_X4_lay_99 g)).trans k_g99
  have k_g100_h1 : hAt h1 (g + 100) = some (arI 103 tr_) := (g_h1.2 (g + 100) (nt_X4_lay_100 g)).trans k_g100
  have k_g101_h1 : hAt h1 (g + 101) = some (arI 103 ts) := (g_h1.2 (g + 101) (nt_X4_lay_101 g)).trans k_g101
  have k_g102_h1 : hAt h1 (g + 102) = some (arI 412 tp) := (g_h1.2 (g + 102) (nt_X4_lay_102 g)).trans k_g102
  have k_g103_h1 : hAt h1 (g + 103) = some (arI 240 tx) := (g_h1.2 (g + 103) (nt_X4_lay_103 g)).trans k_g103
  refine x_aload_n (pc := 185) dL_law_185 rfl ?_
  obtain ⟨q186, hp⟩ := hp
  refine x_cV0i (pc := 186) dL_law_186 xl_L_30 xv_X5_lay k_g98_h1 rfl (C_X5_lay G _ (g + 98) (g + 99) (g + 100) (g + 101) (g + 102) (g + 103) m tn tr_ tx k_g98_h1 k_g99_h1 k_g100_h1 k_g103_h1 (cNe rfl) (cNe rfl) (cNe rfl) q186) rfl rfl rfl ?_
  obtain ⟨F2, eF2⟩ : ∃ F, f_X5_lay m tn tr_ tx = F := ⟨_, rfl⟩
  rw [eF2]
  try rw [eF2] at er
  try rw [eF2] at hp
  obtain ⟨h2, eh2⟩ : ∃ z, z = hSet h1 (g + 98) (moC (g + 99) (g + 100) (g + 101) (g + 102) (g + 103) F2.2.1) := ⟨_, rfl⟩
  rw [← eh2]
  have k_g_h2 : hAt h2 g = some (gpC (g + 1) (g + 3) (g + 18) (g + 33) (g + 34) (g + 37) F1.2.1) := by rw [eh2]; exact hAt_n (cNeL rfl) k_g_h1
  have k_g1_h2 : hAt h2 (g + 1) = some (txC (g + 2) F1.2.2.1) := by rw [eh2]; exact hAt_n (cNe rfl) k_g1_h1
  have k_g2_h2 : hAt h2 (g + 2) = some (arC 240 lf) := by rw [eh2]; exact hAt_n (cNe rfl) k_g2_h1
  have k_g3_h2 : nk h2 (g + 3) F1.2.2.2.1 F1.2.2.2.2.1 F1.2.2.2.2.2.1 F1.2.2.2.2.2.2.1 F1.2.2.2.2.2.2.2.1 := by rw [eh2]; exact nk_fr1 (cOut rfl) k_g3_h1
  have k_g18_h2 : nk h2 (g + 18) F1.2.2.2.2.2.2.2.2.1 F1.2.2.2.2.2.2.2.2.2.1 F1.2.2.2.2.2.2.2.2.2.2.1 F1.2.2.2.2.2.2.2.2.2.2.2.1 F1.2.2.2.2.2.2.2.2.2.2.2.2 := by rw [eh2]; exact nk_fr1 (cOut rfl) k_g18_h1
  have k_g33_h2 : hAt h2 (g + 33) = some (arR 2 4 (fun j => some ((g + 38) + 15 * j))) := by rw [eh2]; exact hAt_n (cNe rfl) k_g33_h1
  have k_g38_h2 : ek h2 (g + 38) ER ET EW EL EK := by rw [eh2]; exact ek_fr1 (cOutE rfl) k_g38_h1
  have k_g34_h2 : hAt h2 (g + 34) = some (waC (g + 35) (g + 36) tw) := by rw [eh2]; exact hAt_n (cNe rfl) k_g34_h1
  have k_g35_h2 : hAt h2 (g + 35) = some (arI 6 tl) := by rw [eh2]; exact hAt_n (cNe rfl) k_g35_h1
  have k_g36_h2 : hAt h2 (g + 36) = some (arI 6 tk) := by rw [eh2]; exact hAt_n (cNe rfl) k_g36_h1
  have k_g37_h2 : hAt h2 (g + 37) = some (ruC tu) := by rw [eh2]; exact hAt_n (cNe rfl) k_g37_h1
  have k_g98_h2 : hAt h2 (g + 98) = some (moC (g + 99) (g + 100) (g + 101) (g + 102) (g + 103) F2.2.1) := by rw [eh2]; exact hAt_same
  have k_g99_h2 : hAt h2 (g + 99) = some (arI 103 tn) := by rw [eh2]; exact hAt_n (cNe rfl) k_g99_h1
  have k_g100_h2 : hAt h2 (g + 100) = some (arI 103 tr_) := by rw [eh2]; exact hAt_n (cNe rfl) k_g100_h1
  have k_g101_h2 : hAt h2 (g + 101) = some (arI 103 ts) := by rw [eh2]; exact hAt_n (cNe rfl) k_g101_h1
  have k_g102_h2 : hAt h2 (g + 102) = some (arI 412 tp) := by rw [eh2]; exact hAt_n (cNe rfl) k_g102_h1
  have k_g103_h2 : hAt h2 (g + 103) = some (arI 240 tx) := by rw [eh2]; exact hAt_n (cNe rfl) k_g103_h1
  obtain ⟨h3, eh3⟩ : ∃ z, z = hSet h2 (g + 99) (arI 103 F2.2.2.1) := ⟨_, rfl⟩
  rw [← eh3]
  have k_g_h3 : hAt h3 g = some (gpC (g + 1) (g + 3) (g + 18) (g + 33) (g + 34) (g + 37) F1.2.1) := by rw [eh3]; exact hAt_n (cNeL rfl) k_g_h2
  have k_g1_h3 : hAt h3 (g + 1) = some (txC (g + 2) F1.2.2.1) := by rw [eh3]; exact hAt_n (cNe rfl) k_g1_h2
  have k_g2_h3 : hAt h3 (g + 2) = some (arC 240 lf) := by rw [eh3]; exact hAt_n (cNe rfl) k_g2_h2
  have k_g3_h3 : nk h3 (g + 3) F1.2.2.2.1 F1.2.2.2.2.1 F1.2.2.2.2.2.1 F1.2.2.2.2.2.2.1 F1.2.2.2.2.2.2.2.1 := by rw [eh3]; exact nk_fr1 (cOut rfl) k_g3_h2
  have k_g18_h3 : nk h3 (g + 18) F1.2.2.2.2.2.2.2.2.1 F1.2.2.2.2.2.2.2.2.2.1 F1.2.2.2.2.2.2.2.2.2.2.1 F1.2.2.2.2.2.2.2.2.2.2.2.1 F1.2.2.2.2.2.2.2.2.2.2.2.2 := by rw [eh3]; exact nk_fr1 (cOut rfl) k_g18_h2
  have k_g33_h3 : hAt h3 (g + 33) = some (arR 2 4 (fun j => some ((g + 38) + 15 * j))) := by rw [eh3]; exact hAt_n (cNe rfl) k_g33_h2
  have k_g38_h3 : ek h3 (g + 38) ER ET EW EL EK := by rw [eh3]; exact ek_fr1 (cOutE rfl) k_g38_h2
  have k_g34_h3 : hAt h3 (g + 34) = some (waC (g + 35) (g + 36) tw) := by rw [eh3]; exact hAt_n (cNe rfl) k_g34_h2
  have k_g35_h3 : hAt h3 (g + 35) = some (arI 6 tl) := by rw [eh3]; exact hAt_n (cNe rfl) k_g35_h2
  have k_g36_h3 : hAt h3 (g + 36) = some (arI 6 tk) := by rw [eh3]; exact hAt_n (cNe rfl) k_g36_h2
  have k_g37_h3 : hAt h3 (g + 37) = some (ruC tu) := by rw [eh3]; exact hAt_n (cNe rfl) k_g37_h2
  have k_g98_h3 : hAt h3 (g + 98) = some (moC (g + 99) (g + 100) (g + 101) (g + 102) (g + 103) F2.2.1) := by rw [eh3]; exact hAt_n (cNe rfl) k_g98_h2
  have k_g99_h3 : hAt h3 (g + 99) = some (arI 103 F2.2.2.1) := by rw [eh3]; exact hAt_same
  have k_g100_h3 : hAt h3 (g + 100) = some (arI 103 tr_) := by rw [eh3]; exact hAt_n (cNe rfl) k_g100_h2
  have k_g101_h3 : hAt h3 (g + 101) = some (arI 103 ts) := by rw [eh3]; exact hAt_n (cNe rfl) k_g101_h2
  have k_g102_h3 : hAt h3 (g + 102) = some (arI 412 tp) := by rw [eh3]; exact hAt_n (cNe rfl) k_g102_h2
  have k_g103_h3 : hAt h3 (g + 103) = some (arI 240 tx) := by rw [eh3]; exact hAt_n (cNe rfl) k_g103_h2
  obtain ⟨h4, eh4⟩ : ∃ z, z = hSet h3 (g + 100) (arI 103 F2.2.2.2) := ⟨_, rfl⟩
  rw [← eh4]
  have k_g_h4 : hAt h4 g = some (gpC (g + 1) (g + 3) (g + 18) (g + 33) (g + 34) (g + 37) F1.2.1) := by rw [eh4]; exact hAt_n (cNeL rfl) k_g_h3
  have k_g1_h4 : hAt h4 (g + 1) = some (txC (g + 2) F1.2.2.1) := by rw [eh4]; exact hAt_n (cNe rfl) k_g1_h3
  have k_g2_h4 : hAt h4 (g + 2) = some (arC 240 lf) := by rw [eh4]; exact hAt_n (cNe rfl) k_g2_h3
  have k_g3_h4 : nk h4 (g + 3) F1.2.2.2.1 F1.2.2.2.2.1 F1.2.2.2.2.2.1 F1.2.2.2.2.2.2.1 F1.2.2.2.2.2.2.2.1 := by rw [eh4]; exact nk_fr1 (cOut rfl) k_g3_h3
  have k_g18_h4 : nk h4 (g + 18) F1.2.2.2.2.2.2.2.2.1 F1.2.2.2.2.2.2.2.2.2.1 F1.2.2.2.2.2.2.2.2.2.2.1 F1.2.2.2.2.2.2.2.2.2.2.2.1 F1.2.2.2.2.2.2.2.2.2.2.2.2 := by rw [eh4]; exact nk_fr1 (cOut rfl) k_g18_h3
  have k_g33_h4 : hAt h4 (g + 33) = some (arR 2 4 (fun j => some ((g + 38) + 15 * j))) := by rw [eh4]; exact hAt_n (cNe rfl) k_g33_h3
  have k_g38_h4 : ek h4 (g + 38) ER ET EW EL EK := by rw [eh4]; exact ek_fr1 (cOutE rfl) k_g38_h3
  have k_g34_h4 : hAt h4 (g + 34) = some (waC (g + 35) (g + 36) tw) := by rw [eh4]; exact hAt_n (cNe rfl) k_g34_h3
  have k_g35_h4 : hAt h4 (g + 35) = some (arI 6 tl) := by rw [eh4]; exact hAt_n (cNe rfl) k_g35_h3
  have k_g36_h4 : hAt h4 (g + 36) = some (arI 6 tk) := by rw [eh4]; exact hAt_n (cNe rfl) k_g36_h3
  have k_g37_h4 : hAt h4 (g + 37) = some (ruC tu) := by rw [eh4]; exact hAt_n (cNe rfl) k_g37_h3
  have k_g98_h4 : hAt h4 (g + 98) = some (moC (g + 99) (g + 100) (g + 101) (g + 102) (g + 103) F2.2.1) := by rw [eh4]; exact hAt_n (cNe rfl) k_g98_h3
  have k_g99_h4 : hAt h4 (g + 99) = some (arI 103 F2.2.2.1) := by rw [eh4]; exact hAt_n (cNe rfl) k_g99_h3
  have k_g100_h4 : hAt h4 (g + 100) = some (arI 103 F2.2.2.2) := by rw [eh4]; exact hAt_same
  have k_g101_h4 : hAt h4 (g + 101) = some (arI 103 ts) := by rw [eh4]; exact hAt_n (cNe rfl) k_g101_h3
  have k_g102_h4 : hAt h4 (g + 102) = some (arI 412 tp) := by rw [eh4]; exact hAt_n (cNe rfl) k_g102_h3
  have k_g103_h4 : hAt h4 (g + 103) = some (arI 240 tx) := by rw [eh4]; exact hAt_n (cNe rfl) k_g103_h3
  refine x_icmp_eq (pc := 189) (tgt := 735) dL_law_189 (by decide) (fun (c1 : F1.1 = F2.1) => ?_) (fun (c1 : ¬ (F1.1 = F2.1)) => ?_)
  · replace hp := hp.1 c1
    rw [if_pos c1] at er
    subst er
    exact kk h4 k_g_h4 k_g1_h4 k_g2_h4 k_g3_h4 k_g18_h4 k_g33_h4 k_g38_h4 k_g34_h4 k_g35_h4 k_g36_h4 k_g37_h4 k_g98_h4 k_g99_h4 k_g100_h4 k_g101_h4 k_g102_h4 k_g103_h4
  · replace hp := hp.2 c1
    rw [if_neg c1] at er
    refine x_iconst (pc := 192) (v := (0 : Int32)) dL_law_192 (by decide) ?_
    exact hp.elim

def f_law_tick (xs : (Nat → Int32)) (s : (Nat → Int32)) (x : (Nat → Int32)) (lf : (Nat → Int32)) (r : (Nat → Int32)) (t : (Nat → Int32)) (W : (Nat → Nat → Int32)) (LF : (Nat → Nat → Int32)) (KF : (Nat → Nat → Int32)) (dr : (Nat → Int32)) (dt : (Nat → Int32)) (DW : (Nat → Nat → Int32)) (DL : (Nat → Nat → Int32)) (DK : (Nat → Nat → Int32)) (ER : (Nat → Nat → Int32)) (ET : (Nat → Nat → Int32)) (EW : (Nat → Nat → Nat → Int32)) (EL : (Nat → Nat → Nat → Int32)) (EK : (Nat → Nat → Nat → Int32)) (tw : (Nat → Int32)) (tl : (Nat → Int32)) (tk : (Nat → Int32)) (tu : (Nat → Int32)) (m : (Nat → Int32)) (tn : (Nat → Int32)) (tr_ : (Nat → Int32)) (ts : (Nat → Int32)) (tp : (Nat → Int32)) (tx : (Nat → Int32)) (Ls : Nat) (v3 : Int32) : (Nat → Int32) × (Nat → Int32) × (Nat → Nat → Int32) × (Nat → Nat → Int32) × (Nat → Nat → Int32) × (Nat → Nat → Nat → Int32) × (Nat → Nat → Nat → Int32) × (Nat → Nat → Nat → Int32) × (Nat → Int32) × (Nat → Int32) × (Nat → Int32) := (if (f_X4_tick s r t W LF KF ER ET EW EL EK (xs ((v3 + (1 : Int32)).toNatClampNeg))).1 = (f_X5_tick m tn tp (xs ((v3 + (1 : Int32)).toNatClampNeg))).1 then ((f_X4_tick s r t W LF KF ER ET EW EL EK (xs ((v3 + (1 : Int32)).toNatClampNeg))).2.1, (f_X4_tick s r t W LF KF ER ET EW EL EK (xs ((v3 + (1 : Int32)).toNatClampNeg))).2.2.1, (f_X4_tick s r t W LF KF ER ET EW EL EK (xs ((v3 + (1 : Int32)).toNatClampNeg))).2.2.2.1, (f_X4_tick s r t W LF KF ER ET EW EL EK (xs ((v3 + (1 : Int32)).toNatClampNeg))).2.2.2.2.1, (f_X4_tick s r t W LF KF ER ET EW EL EK (xs ((v3 + (1 : Int32)).toNatClampNeg))).2.2.2.2.2.1, (f_X4_tick s r t W LF KF ER ET EW EL EK (xs ((v3 + (1 : Int32)).toNatClampNeg))).2.2.2.2.2.2.1, (f_X4_tick s r t W LF KF ER ET EW EL EK (xs ((v3 + (1 : Int32)).toNatClampNeg))).2.2.2.2.2.2.2.1, (f_X4_tick s r t W LF KF ER ET EW EL EK (xs ((v3 + (1 : Int32)).toNatClampNeg))).2.2.2.2.2.2.2.2, (f_X5_tick m tn tp (xs ((v3 + (1 : Int32)).toNatClampNeg))).2.1, (f_X5_tick m tn tp (xs ((v3 + (1 : Int32)).toNatClampNeg))).2.2.1, (f_X5_tick m tn tp (xs ((v3 + (1 : Int32)).toNatClampNeg))).2.2.2) else ((fun _ => 0), (fun _ => 0), (fun _ _ => 0), (fun _ _ => 0), (fun _ _ => 0), (fun _ _ _ => 0), (fun _ _ _ => 0), (fun _ _ _ => 0), (fun _ => 0), (fun _ => 0), (fun _ => 0)))
def p_law_tick (xs : (Nat → Int32)) (s : (Nat → Int32)) (x : (Nat → Int32)) (lf : (Nat → Int32)) (r : (Nat → Int32)) (t : (Nat → Int32)) (W : (Nat → Nat → Int32)) (LF : (Nat → Nat → Int32)) (KF : (Nat → Nat → Int32)) (dr : (Nat → Int32)) (dt : (Nat → Int32)) (DW : (Nat → Nat → Int32)) (DL : (Nat → Nat → Int32)) (DK : (Nat → Nat → Int32)) (ER : (Nat → Nat → Int32)) (ET : (Nat → Nat → Int32)) (EW : (Nat → Nat → Nat → Int32)) (EL : (Nat → Nat → Nat → Int32)) (EK : (Nat → Nat → Nat → Int32)) (tw : (Nat → Int32)) (tl : (Nat → Int32)) (tk : (Nat → Int32)) (tu : (Nat → Int32)) (m : (Nat → Int32)) (tn : (Nat → Int32)) (tr_ : (Nat → Int32)) (ts : (Nat → Int32)) (tp : (Nat → Int32)) (tx : (Nat → Int32)) (Ls : Nat) (v3 : Int32) : Prop := (vp_in (v3 + (1 : Int32)) Ls ∧ (p_X4_tick s r t W LF KF ER ET EW EL EK (xs ((v3 + (1 : Int32)).toNatClampNeg)) ∧ (vp_in (v3 + (1 : Int32)) Ls ∧ (p_X5_tick m tn tp (xs ((v3 + (1 : Int32)).toNatClampNeg)) ∧ (((f_X4_tick s r t W LF KF ER ET EW EL EK (xs ((v3 + (1 : Int32)).toNatClampNeg))).1 = (f_X5_tick m tn tp (xs ((v3 + (1 : Int32)).toNatClampNeg))).1 → True) ∧ (¬ ((f_X4_tick s r t W LF KF ER ET EW EL EK (xs ((v3 + (1 : Int32)).toNatClampNeg))).1 = (f_X5_tick m tn tp (xs ((v3 + (1 : Int32)).toNatClampNeg))).1) → False))))))
set_option maxRecDepth 100000 in
set_option maxHeartbeats 4000000 in
theorem K_law_tick (G : xG) (h : xH) (nm : String) (g : Nat) (xs : (Nat → Int32)) (s : (Nat → Int32)) (x : (Nat → Int32)) (lf : (Nat → Int32)) (r : (Nat → Int32)) (t : (Nat → Int32)) (W : (Nat → Nat → Int32)) (LF : (Nat → Nat → Int32)) (KF : (Nat → Nat → Int32)) (dr : (Nat → Int32)) (dt : (Nat → Int32)) (DW : (Nat → Nat → Int32)) (DL : (Nat → Nat → Int32)) (DK : (Nat → Nat → Int32)) (ER : (Nat → Nat → Int32)) (ET : (Nat → Nat → Int32)) (EW : (Nat → Nat → Nat → Int32)) (EL : (Nat → Nat → Nat → Int32)) (EK : (Nat → Nat → Nat → Int32)) (tw : (Nat → Int32)) (tl : (Nat → Int32)) (tk : (Nat → Int32)) (tu : (Nat → Int32)) (m : (Nat → Int32)) (tn : (Nat → Int32)) (tr_ : (Nat → Int32)) (ts : (Nat → Int32)) (tp : (Nat → Int32)) (tx : (Nat → Int32)) (Ls : Nat) (v3 : Int32) (k_g : hAt h g = some (gpC (g + 1) (g + 3) (g + 18) (g + 33) (g + 34) (g + 37) s)) (k_g1 : hAt h (g + 1) = some (txC (g + 2) x)) (k_g2 : hAt h (g + 2) = some (arC 240 lf)) (k_g3 : nk h (g + 3) r t W LF KF) (k_g18 : nk h (g + 18) dr dt DW DL DK) (k_g33 : hAt h (g + 33) = some (arR 2 4 (fun j => some ((g + 38) + 15 * j)))) (k_g38 : ek h (g + 38) ER ET EW EL EK) (k_g34 : hAt h (g + 34) = some (waC (g + 35) (g + 36) tw)) (k_g35 : hAt h (g + 35) = some (arI 6 tl)) (k_g36 : hAt h (g + 36) = some (arI 6 tk)) (k_g37 : hAt h (g + 37) = some (ruC tu)) (k_g98 : hAt h (g + 98) = some (moC (g + 99) (g + 100) (g + 101) (g + 102) (g + 103) m)) (k_g99 : hAt h (g + 99) = some (arI 103 tn)) (k_g100 : hAt h (g + 100) = some (arI 103 tr_)) (k_g101 : hAt h (g + 101) = some (arI 103 ts)) (k_g102 : hAt h (g + 102) = some (arI 412 tp)) (k_g103 : hAt h (g + 103) = some (arI 240 tx)) (ex : xg_x G = xs) (eL : xg_L G = Ls) (hp : p_law_tick xs s x lf r t W LF KF dr dt DW DL DK ER ET EW EL EK tw tl tk tu m tn tr_ ts tp tx Ls v3) (kk : ∀ h2 : xH, hAt h2 g = some (gpC (g + 1) (g + 3) (g + 18) (g + 33) (g + 34) (g + 37) (f_law_tick xs s x lf r t W LF KF dr dt DW DL DK ER ET EW EL EK tw tl tk tu m tn tr_ ts tp tx Ls v3).1) → hAt h2 (g + 1) = some (txC (g + 2) x) → hAt h2 (g + 2) = some (arC 240 lf) → nk h2 (g + 3) r (f_law_tick xs s x lf r t W LF KF dr dt DW DL DK ER ET EW EL EK tw tl tk tu m tn tr_ ts tp tx Ls v3).2.1 (f_law_tick xs s x lf r t W LF KF dr dt DW DL DK ER ET EW EL EK tw tl tk tu m tn tr_ ts tp tx Ls v3).2.2.1 LF KF → nk h2 (g + 18) dr dt DW DL DK → hAt h2 (g + 33) = some (arR 2 4 (fun j => some ((g + 38) + 15 * j))) → ek h2 (g + 38) (f_law_tick xs s x lf r t W LF KF dr dt DW DL DK ER ET EW EL EK tw tl tk tu m tn tr_ ts tp tx Ls v3).2.2.2.1 (f_law_tick xs s x lf r t W LF KF dr dt DW DL DK ER ET EW EL EK tw tl tk tu m tn tr_ ts tp tx Ls v3).2.2.2.2.1 (f_law_tick xs s x lf r t W LF KF dr dt DW DL DK ER ET EW EL EK tw tl tk tu m tn tr_ ts tp tx Ls v3).2.2.2.2.2.1 (f_law_tick xs s x lf r t W LF KF dr dt DW DL DK ER ET EW EL EK tw tl tk tu m tn tr_ ts tp tx Ls v3).2.2.2.2.2.2.1 (f_law_tick xs s x lf r t W LF KF dr dt DW DL DK ER ET EW EL EK tw tl tk tu m tn tr_ ts tp tx Ls v3).2.2.2.2.2.2.2.1 → hAt h2 (g + 34) = some (waC (g + 35) (g + 36) tw) → hAt h2 (g + 35) = some (arI 6 tl) → hAt h2 (g + 36) = some (arI 6 tk) → hAt h2 (g + 37) = some (ruC tu) → hAt h2 (g + 98) = some (moC (g + 99) (g + 100) (g + 101) (g + 102) (g + 103) (f_law_tick xs s x lf r t W LF KF dr dt DW DL DK ER ET EW EL EK tw tl tk tu m tn tr_ ts tp tx Ls v3).2.2.2.2.2.2.2.2.1) → hAt h2 (g + 99) = some (arI 103 (f_law_tick xs s x lf r t W LF KF dr dt DW DL DK ER ET EW EL EK tw tl tk tu m tn tr_ ts tp tx Ls v3).2.2.2.2.2.2.2.2.2.1) → hAt h2 (g + 100) = some (arI 103 tr_) → hAt h2 (g + 101) = some (arI 103 ts) → hAt h2 (g + 102) = some (arI 412 (f_law_tick xs s x lf r t W LF KF dr dt DW DL DK ER ET EW EL EK tw tl tk tu m tn tr_ ts tp tx Ls v3).2.2.2.2.2.2.2.2.2.2) → hAt h2 (g + 103) = some (arI 240 tx) → Wp G RL code 4 nm ret room_1 (lwZ G) 104 1984 735 [(3, .int v3), (2, .ref (g + 98)), (1, .ref g), (0, .ref (xg_b G))] [] h2) : Wp G RL code 4 nm ret room_1 (lwZ G) 104 1984 194 [(3, .int v3), (2, .ref (g + 98)), (1, .ref g), (0, .ref (xg_b G))] [] h := by
  obtain ⟨R, er⟩ : ∃ R, f_law_tick xs s x lf r t W LF KF dr dt DW DL DK ER ET EW EL EK tw tl tk tu m tn tr_ ts tp tx Ls v3 = R := ⟨_, rfl⟩
  rw [er] at kk
  unfold f_law_tick at er
  unfold p_law_tick at hp
  refine x_aload_n (pc := 194) dL_law_194 rfl ?_
  refine x_aload_n (pc := 195) dL_law_195 rfl ?_
  refine x_iload_n (pc := 196) dL_law_196 rfl ?_
  refine x_iconst (pc := 197) (v := (1 : Int32)) dL_law_197 (by decide) ?_
  refine x_iadd (pc := 198) dL_law_198 ?_
  obtain ⟨q199, hp⟩ := hp
  refine x_sldE (pc := 199) dL_law_199 ex eL q199 (j := ((v3 + (1 : Int32)).toNatClampNeg)) rfl ?_
  obtain ⟨q200, hp⟩ := hp
  refine x_cVQ (pc := 200) (As := [.int (xs ((v3 + (1 : Int32)).toNatClampNeg))]) (rest := []) dL_law_200 xl_L_31 xv_X4_tick k_g rfl rfl rfl rfl rfl rfl (C_X4_tick G _ g s r t W LF KF ER ET EW EL EK (xs ((v3 + (1 : Int32)).toNatClampNeg)) k_g k_g3 k_g33 k_g38 q200) (fun v h1 hq => ?_)
  obtain ⟨ev, z0_h1, z1_h1, z2_h1, g_h1⟩ := hq
  subst ev
  refine Wp.eqs (L' := [(3, .int v3), (2, .ref (g + 98)), (1, .ref g), (0, .ref (xg_b G))]) (st' := [.int (f_X4_tick s r t W LF KF ER ET EW EL EK (xs ((v3 + (1 : Int32)).toNatClampNeg))).1]) rfl rfl ?_
  obtain ⟨F1, eF1⟩ : ∃ F, f_X4_tick s r t W LF KF ER ET EW EL EK (xs ((v3 + (1 : Int32)).toNatClampNeg)) = F := ⟨_, rfl⟩
  try rw [eF1] at er
  try rw [eF1] at hp
  try rw [eF1]
  try rw [eF1] at z0_h1
  try rw [eF1] at z1_h1
  try rw [eF1] at z2_h1
  have k_g_h1 : hAt h1 g = some (gpC (g + 1) (g + 3) (g + 18) (g + 33) (g + 34) (g + 37) F1.2.1) := z0_h1
  have k_g1_h1 : hAt h1 (g + 1) = some (txC (g + 2) x) := (g_h1.2 (g + 1) (nt_X4_tick_1 g)).trans k_g1
  have k_g2_h1 : hAt h1 (g + 2) = some (arC 240 lf) := (g_h1.2 (g + 2) (nt_X4_tick_2 g)).trans k_g2
  have k_g3_h1 : nk h1 (g + 3) r F1.2.2.1 F1.2.2.2.1 LF KF := z1_h1
  have k_g18_h1 : nk h1 (g + 18) dr dt DW DL DK := nk_fr (fun q u1 u2 => g_h1.2 q (nt_X4_tick_r18 g q u1 u2)) k_g18
  have k_g33_h1 : hAt h1 (g + 33) = some (arR 2 4 (fun j => some ((g + 38) + 15 * j))) := (g_h1.2 (g + 33) (nt_X4_tick_33 g)).trans k_g33
  have k_g38_h1 : ek h1 (g + 38) F1.2.2.2.2.1 F1.2.2.2.2.2.1 F1.2.2.2.2.2.2.1 F1.2.2.2.2.2.2.2.1 F1.2.2.2.2.2.2.2.2 := z2_h1
  have k_g34_h1 : hAt h1 (g + 34) = some (waC (g + 35) (g + 36) tw) := (g_h1.2 (g + 34) (nt_X4_tick_34 g)).trans k_g34
  have k_g35_h1 : hAt h1 (g + 35) = some (arI 6 tl) := (g_h1.2 (g + 35) (nt_X4_tick_35 g)).trans k_g35
  have k_g36_h1 : hAt h1 (g + 36) = some (arI 6 tk) := (g_h1.2 (g + 36) (nt_X4_tick_36 g)).trans k_g36
  have k_g37_h1 : hAt h1 (g + 37) = some (ruC tu) := (g_h1.2 (g + 37) (nt_X4_tick_37 g)).trans k_g37
  have k_g98_h1 : hAt h1 (g + 98) = some (moC (g + 99) (g + 100) (g + 101) (g + 102) (g + 103) m) := (g_h1.2 (g + 98) (nt_X4_tick_98 g)).trans k_g98
  have k_g99_h1 : hAt h1 (g + 99) = some (arI 103 tn) := (g_h1.2 (g + 99) (nt_X4_tick_99 g)).trans k_g99
  have k_g100_h1 : hAt h1 (g + 100) = some (arI 103 tr_) := (g_h1.2 (g + 100) (nt_X4_tick_100 g)).trans k_g100
  have k_g101_h1 : hAt h1 (g + 101) = some (arI 103 ts) := (g_h1.2 (g + 101) (nt_X4_tick_101 g)).trans k_g101
  have k_g102_h1 : hAt h1 (g + 102) = some (arI 412 tp) := (g_h1.2 (g + 102) (nt_X4_tick_102 g)).trans k_g102
  have k_g103_h1 : hAt h1 (g + 103) = some (arI 240 tx) := (g_h1.2 (g + 103) (nt_X4_tick_103 g)).trans k_g103
  refine x_aload_n (pc := 203) dL_law_203 rfl ?_
  refine x_aload_n (pc := 204) dL_law_204 rfl ?_
  refine x_iload_n (pc := 205) dL_law_205 rfl ?_
  refine x_iconst (pc := 206) (v := (1 : Int32)) dL_law_206 (by decide) ?_
  refine x_iadd (pc := 207) dL_law_207 ?_
  obtain ⟨q208, hp⟩ := hp
  refine x_sldE (pc := 208) dL_law_208 ex eL q208 (j := ((v3 + (1 : Int32)).toNatClampNeg)) rfl ?_
  obtain ⟨q209, hp⟩ := hp
  refine x_cV1i (pc := 209) dL_law_209 xl_L_34 xv_X5_tick k_g98_h1 rfl (C_X5_tick G _ (g + 98) (g + 99) (g + 100) (g + 101) (g + 102) (g + 103) m tn tp (xs ((v3 + (1 : Int32)).toNatClampNeg)) k_g98_h1 k_g99_h1 k_g102_h1 (cNe rfl) q209) rfl rfl rfl ?_
  obtain ⟨F2, eF2⟩ : ∃ F, f_X5_tick m tn tp (xs ((v3 + (1 : Int32)).toNatClampNeg)) = F := ⟨_, rfl⟩
  rw [eF2]
  try rw [eF2] at er
  try rw [eF2] at hp
  obtain ⟨h2, eh2⟩ : ∃ z, z = hSet h1 (g + 98) (moC (g + 99) (g + 100) (g + 101) (g + 102) (g + 103) F2.2.1) := ⟨_, rfl⟩
  rw [← eh2]
  have k_g_h2 : hAt h2 g = some (gpC (g + 1) (g + 3) (g + 18) (g + 33) (g + 34) (g + 37) F1.2.1) := by rw [eh2]; exact hAt_n (cNeL rfl) k_g_h1
  have k_g1_h2 : hAt h2 (g + 1) = some (txC (g + 2) x) := by rw [eh2]; exact hAt_n (cNe rfl) k_g1_h1
  have k_g2_h2 : hAt h2 (g + 2) = some (arC 240 lf) := by rw [eh2]; exact hAt_n (cNe rfl) k_g2_h1
  have k_g3_h2 : nk h2 (g + 3) r F1.2.2.1 F1.2.2.2.1 LF KF := by rw [eh2]; exact nk_fr1 (cOut rfl) k_g3_h1
  have k_g18_h2 : nk h2 (g + 18) dr dt DW DL DK := by rw [eh2]; exact nk_fr1 (cOut rfl) k_g18_h1
  have k_g33_h2 : hAt h2 (g + 33) = some (arR 2 4 (fun j => some ((g + 38) + 15 * j))) := by rw [eh2]; exact hAt_n (cNe rfl) k_g33_h1
  have k_g38_h2 : ek h2 (g + 38) F1.2.2.2.2.1 F1.2.2.2.2.2.1 F1.2.2.2.2.2.2.1 F1.2.2.2.2.2.2.2.1 F1.2.2.2.2.2.2.2.2 := by rw [eh2]; exact ek_fr1 (cOutE rfl) k_g38_h1
  have k_g34_h2 : hAt h2 (g + 34) = some (waC (g + 35) (g + 36) tw) := by rw [eh2]; exact hAt_n (cNe rfl) k_g34_h1
  have k_g35_h2 : hAt h2 (g + 35) = some (arI 6 tl) := by rw [eh2]; exact hAt_n (cNe rfl) k_g35_h1
  have k_g36_h2 : hAt h2 (g + 36) = some (arI 6 tk) := by rw [eh2]; exact hAt_n (cNe rfl) k_g36_h1
  have k_g37_h2 : hAt h2 (g + 37) = some (ruC tu) := by rw [eh2]; exact hAt_n (cNe rfl) k_g37_h1
  have k_g98_h2 : hAt h2 (g + 98) = some (moC (g + 99) (g + 100) (g + 101) (g + 102) (g + 103) F2.2.1) := by rw [eh2]; exact hAt_same
  have k_g99_h2 : hAt h2 (g + 99) = some (arI 103 tn) := by rw [eh2]; exact hAt_n (cNe rfl) k_g99_h1
  have k_g100_h2 : hAt h2 (g + 100) = some (arI 103 tr_) := by rw [eh2]; exact hAt_n (cNe rfl) k_g100_h1
  have k_g101_h2 : hAt h2 (g + 101) = some (arI 103 ts) := by rw [eh2]; exact hAt_n (cNe rfl) k_g101_h1
  have k_g102_h2 : hAt h2 (g + 102) = some (arI 412 tp) := by rw [eh2]; exact hAt_n (cNe rfl) k_g102_h1
  have k_g103_h2 : hAt h2 (g + 103) = some (arI 240 tx) := by rw [eh2]; exact hAt_n (cNe rfl) k_g103_h1
  obtain ⟨h3, eh3⟩ : ∃ z, z = hSet h2 (g + 99) (arI 103 F2.2.2.1) := ⟨_, rfl⟩
  rw [← eh3]
  have k_g_h3 : hAt h3 g = some (gpC (g + 1) (g + 3) (g + 18) (g + 33) (g + 34) (g + 37) F1.2.1) := by rw [eh3]; exact hAt_n (cNeL rfl) k_g_h2
  have k_g1_h3 : hAt h3 (g + 1) = some (txC (g + 2) x) := by rw [eh3]; exact hAt_n (cNe rfl) k_g1_h2
  have k_g2_h3 : hAt h3 (g + 2) = some (arC 240 lf) := by rw [eh3]; exact hAt_n (cNe rfl) k_g2_h2
  have k_g3_h3 : nk h3 (g + 3) r F1.2.2.1 F1.2.2.2.1 LF KF := by rw [eh3]; exact nk_fr1 (cOut rfl) k_g3_h2
  have k_g18_h3 : nk h3 (g + 18) dr dt DW DL DK := by rw [eh3]; exact nk_fr1 (cOut rfl) k_g18_h2
  have k_g33_h3 : hAt h3 (g + 33) = some (arR 2 4 (fun j => some ((g + 38) + 15 * j))) := by rw [eh3]; exact hAt_n (cNe rfl) k_g33_h2
  have k_g38_h3 : ek h3 (g + 38) F1.2.2.2.2.1 F1.2.2.2.2.2.1 F1.2.2.2.2.2.2.1 F1.2.2.2.2.2.2.2.1 F1.2.2.2.2.2.2.2.2 := by rw [eh3]; exact ek_fr1 (cOutE rfl) k_g38_h2
  have k_g34_h3 : hAt h3 (g + 34) = some (waC (g + 35) (g + 36) tw) := by rw [eh3]; exact hAt_n (cNe rfl) k_g34_h2
  have k_g35_h3 : hAt h3 (g + 35) = some (arI 6 tl) := by rw [eh3]; exact hAt_n (cNe rfl) k_g35_h2
  have k_g36_h3 : hAt h3 (g + 36) = some (arI 6 tk) := by rw [eh3]; exact hAt_n (cNe rfl) k_g36_h2
  have k_g37_h3 : hAt h3 (g + 37) = some (ruC tu) := by rw [eh3]; exact hAt_n (cNe rfl) k_g37_h2
  have k_g98_h3 : hAt h3 (g + 98) = some (moC (g + 99) (g + 100) (g + 101) (g + 102) (g + 103) F2.2.1) := by rw [eh3]; exact hAt_n (cNe rfl) k_g98_h2
  have k_g99_h3 : hAt h3 (g + 99) = some (arI 103 F2.2.2.1) := by rw [eh3]; exact hAt_same
  have k_g100_h3 : hAt h3 (g + 100) = some (arI 103 tr_) := by rw [eh3]; exact hAt_n (cNe rfl) k_g100_h2
  have k_g101_h3 : hAt h3 (g + 101) = some (arI 103 ts) := by rw [eh3]; exact hAt_n (cNe rfl) k_g101_h2
  have k_g102_h3 : hAt h3 (g + 102) = some (arI 412 tp) := by rw [eh3]; exact hAt_n (cNe rfl) k_g102_h2
  have k_g103_h3 : hAt h3 (g + 103) = some (arI 240 tx) := by rw [eh3]; exact hAt_n (cNe rfl) k_g103_h2
  obtain ⟨h4, eh4⟩ : ∃ z, z = hSet h3 (g + 102) (arI 412 F2.2.2.2) := ⟨_, rfl⟩
  rw [← eh4]
  have k_g_h4 : hAt h4 g = some (gpC (g + 1) (g + 3) (g + 18) (g + 33) (g + 34) (g + 37) F1.2.1) := by rw [eh4]; exact hAt_n (cNeL rfl) k_g_h3
  have k_g1_h4 : hAt h4 (g + 1) = some (txC (g + 2) x) := by rw [eh4]; exact hAt_n (cNe rfl) k_g1_h3
  have k_g2_h4 : hAt h4 (g + 2) = some (arC 240 lf) := by rw [eh4]; exact hAt_n (cNe rfl) k_g2_h3
  have k_g3_h4 : nk h4 (g + 3) r F1.2.2.1 F1.2.2.2.1 LF KF := by rw [eh4]; exact nk_fr1 (cOut rfl) k_g3_h3
  have k_g18_h4 : nk h4 (g + 18) dr dt DW DL DK := by rw [eh4]; exact nk_fr1 (cOut rfl) k_g18_h3
  have k_g33_h4 : hAt h4 (g + 33) = some (arR 2 4 (fun j => some ((g + 38) + 15 * j))) := by rw [eh4]; exact hAt_n (cNe rfl) k_g33_h3
  have k_g38_h4 : ek h4 (g + 38) F1.2.2.2.2.1 F1.2.2.2.2.2.1 F1.2.2.2.2.2.2.1 F1.2.2.2.2.2.2.2.1 F1.2.2.2.2.2.2.2.2 := by rw [eh4]; exact ek_fr1 (cOutE rfl) k_g38_h3
  have k_g34_h4 : hAt h4 (g + 34) = some (waC (g + 35) (g + 36) tw) := by rw [eh4]; exact hAt_n (cNe rfl) k_g34_h3
  have k_g35_h4 : hAt h4 (g + 35) = some (arI 6 tl) := by rw [eh4]; exact hAt_n (cNe rfl) k_g35_h3
  have k_g36_h4 : hAt h4 (g + 36) = some (arI 6 tk) := by rw [eh4]; exact hAt_n (cNe rfl) k_g36_h3
  have k_g37_h4 : hAt h4 (g + 37) = some (ruC tu) := by rw [eh4]; exact hAt_n (cNe rfl) k_g37_h3
  have k_g98_h4 : hAt h4 (g + 98) = some (moC (g + 99) (g + 100) (g + 101) (g + 102) (g + 103) F2.2.1) := by rw [eh4]; exact hAt_n (cNe rfl) k_g98_h3
  have k_g99_h4 : hAt h4 (g + 99) = some (arI 103 F2.2.2.1) := by rw [eh4]; exact hAt_n (cNe rfl) k_g99_h3
  have k_g100_h4 : hAt h4 (g + 100) = some (arI 103 tr_) := by rw [eh4]; exact hAt_n (cNe rfl) k_g100_h3
  have k_g101_h4 : hAt h4 (g + 101) = some (arI 103 ts) := by rw [eh4]; exact hAt_n (cNe rfl) k_g101_h3
  have k_g102_h4 : hAt h4 (g + 102) = some (arI 412 F2.2.2.2) := by rw [eh4]; exact hAt_same
  have k_g103_h4 : hAt h4 (g + 103) = some (arI 240 tx) := by rw [eh4]; exact hAt_n (cNe rfl) k_g103_h3
  refine x_icmp_eq (pc := 212) (tgt := 735) dL_law_212 (by decide) (fun (c1 : F1.1 = F2.1) => ?_) (fun (c1 : ¬ (F1.1 = F2.1)) => ?_)
  · replace hp := hp.1 c1
    rw [if_pos c1] at er
    subst er
    exact kk h4 k_g_h4 k_g1_h4 k_g2_h4 k_g3_h4 k_g18_h4 k_g33_h4 k_g38_h4 k_g34_h4 k_g35_h4 k_g36_h4 k_g37_h4 k_g98_h4 k_g99_h4 k_g100_h4 k_g101_h4 k_g102_h4 k_g103_h4
  · replace hp := hp.2 c1
    rw [if_neg c1] at er
    refine x_iconst (pc := 215) (v := (0 : Int32)) dL_law_215 (by decide) ?_
    exact hp.elim

def f_law_send (xs : (Nat → Int32)) (s : (Nat → Int32)) (x : (Nat → Int32)) (lf : (Nat → Int32)) (r : (Nat → Int32)) (t : (Nat → Int32)) (W : (Nat → Nat → Int32)) (LF : (Nat → Nat → Int32)) (KF : (Nat → Nat → Int32)) (dr : (Nat → Int32)) (dt : (Nat → Int32)) (DW : (Nat → Nat → Int32)) (DL : (Nat → Nat → Int32)) (DK : (Nat → Nat → Int32)) (ER : (Nat → Nat → Int32)) (ET : (Nat → Nat → Int32)) (EW : (Nat → Nat → Nat → Int32)) (EL : (Nat → Nat → Nat → Int32)) (EK : (Nat → Nat → Nat → Int32)) (tw : (Nat → Int32)) (tl : (Nat → Int32)) (tk : (Nat → Int32)) (tu : (Nat → Int32)) (m : (Nat → Int32)) (tn : (Nat → Int32)) (tr_ : (Nat → Int32)) (ts : (Nat → Int32)) (tp : (Nat → Int32)) (tx : (Nat → Int32)) (Ls : Nat) (v3 : Int32) : (Nat → Int32) × (Nat → Nat → Int32) × (Nat → Nat → Int32) × (Nat → Nat → Int32) × (Nat → Nat → Nat → Int32) × (Nat → Nat → Nat → Int32) × (Nat → Nat → Nat → Int32) × (Nat → Int32) × (Nat → Int32) × (Nat → Int32) := (if (f_X4_send s r t W LF KF ER ET EW EL EK (xs ((v3 + (1 : Int32)).toNatClampNeg)) (xs ((v3 + (2 : Int32)).toNatClampNeg))).1 = (f_X5_send m tn tp (xs ((v3 + (1 : Int32)).toNatClampNeg)) (xs ((v3 + (2 : Int32)).toNatClampNeg))).1 then ((f_X4_send s r t W LF KF ER ET EW EL EK (xs ((v3 + (1 : Int32)).toNatClampNeg)) (xs ((v3 + (2 : Int32)).toNatClampNeg))).2.1, (f_X4_send s r t W LF KF ER ET EW EL EK (xs ((v3 + (1 : Int32)).toNatClampNeg)) (xs ((v3 + (2 : Int32)).toNatClampNeg))).2.2.1, (f_X4_send s r t W LF KF ER ET EW EL EK (xs ((v3 + (1 : Int32)).toNatClampNeg)) (xs ((v3 + (2 : Int32)).toNatClampNeg))).2.2.2.1, (f_X4_send s r t W LF KF ER ET EW EL EK (xs ((v3 + (1 : Int32)).toNatClampNeg)) (xs ((v3 + (2 : Int32)).toNatClampNeg))).2.2.2.2.1, (f_X4_send s r t W LF KF ER ET EW EL EK (xs ((v3 + (1 : Int32)).toNatClampNeg)) (xs ((v3 + (2 : Int32)).toNatClampNeg))).2.2.2.2.2.1, (f_X4_send s r t W LF KF ER ET EW EL EK (xs ((v3 + (1 : Int32)).toNatClampNeg)) (xs ((v3 + (2 : Int32)).toNatClampNeg))).2.2.2.2.2.2.1, (f_X4_send s r t W LF KF ER ET EW EL EK (xs ((v3 + (1 : Int32)).toNatClampNeg)) (xs ((v3 + (2 : Int32)).toNatClampNeg))).2.2.2.2.2.2.2, (f_X5_send m tn tp (xs ((v3 + (1 : Int32)).toNatClampNeg)) (xs ((v3 + (2 : Int32)).toNatClampNeg))).2.1, (f_X5_send m tn tp (xs ((v3 + (1 : Int32)).toNatClampNeg)) (xs ((v3 + (2 : Int32)).toNatClampNeg))).2.2.1, (f_X5_send m tn tp (xs ((v3 + (1 : Int32)).toNatClampNeg)) (xs ((v3 + (2 : Int32)).toNatClampNeg))).2.2.2) else ((fun _ => 0), (fun _ _ => 0), (fun _ _ => 0), (fun _ _ => 0), (fun _ _ _ => 0), (fun _ _ _ => 0), (fun _ _ _ => 0), (fun _ => 0), (fun _ => 0), (fun _ => 0)))
def p_law_send (xs : (Nat → Int32)) (s : (Nat → Int32)) (x : (Nat → Int32)) (lf : (Nat → Int32)) (r : (Nat → Int32)) (t : (Nat → Int32)) (W : (Nat → Nat → Int32)) (LF : (Nat → Nat → Int32)) (KF : (Nat → Nat → Int32)) (dr : (Nat → Int32)) (dt : (Nat → Int32)) (DW : (Nat → Nat → Int32)) (DL : (Nat → Nat → Int32)) (DK : (Nat → Nat → Int32)) (ER : (Nat → Nat → Int32)) (ET : (Nat → Nat → Int32)) (EW : (Nat → Nat → Nat → Int32)) (EL : (Nat → Nat → Nat → Int32)) (EK : (Nat → Nat → Nat → Int32)) (tw : (Nat → Int32)) (tl : (Nat → Int32)) (tk : (Nat → Int32)) (tu : (Nat → Int32)) (m : (Nat → Int32)) (tn : (Nat → Int32)) (tr_ : (Nat → Int32)) (ts : (Nat → Int32)) (tp : (Nat → Int32)) (tx : (Nat → Int32)) (Ls : Nat) (v3 : Int32) : Prop := (vp_in (v3 + (1 : Int32)) Ls ∧ (vp_in (v3 + (2 : Int32)) Ls ∧ (p_X4_send s r t W LF KF ER ET EW EL EK (xs ((v3 + (1 : Int32)).toNatClampNeg)) (xs ((v3 + (2 : Int32)).toNatClampNeg)) ∧ (vp_in (v3 + (1 : Int32)) Ls ∧ (vp_in (v3 + (2 : Int32)) Ls ∧ (p_X5_send m tn tp (xs ((v3 + (1 : Int32)).toNatClampNeg)) (xs ((v3 + (2 : Int32)).toNatClampNeg)) ∧ (((f_X4_send s r t W LF KF ER ET EW EL EK (xs ((v3 + (1 : Int32)).toNatClampNeg)) (xs ((v3 + (2 : Int32)).toNatClampNeg))).1 = (f_X5_send m tn tp (xs ((v3 + (1 : Int32)).toNatClampNeg)) (xs ((v3 + (2 : Int32)).toNatClampNeg))).1 → True) ∧ (¬ ((f_X4_send s r t W LF KF ER ET EW EL EK (xs ((v3 + (1 : Int32)).toNatClampNeg)) (xs ((v3 + (2 : Int32)).toNatClampNeg))).1 = (f_X5_send m tn tp (xs ((v3 + (1 : Int32)).toNatClampNeg)) (xs ((v3 + (2 : Int32)).toNatClampNeg))).1) → False))))))))
set_option maxRecDepth 100000 in
set_option maxHeartbeats 4000000 in
theorem K_law_send (G : xG) (h : xH) (nm : String) (g : Nat) (xs : (Nat → Int32)) (s : (Nat → Int32)) (x : (Nat → Int32)) (lf : (Nat → Int32)) (r : (Nat → Int32)) (t : (Nat → Int32)) (W : (Nat → Nat → Int32)) (LF : (Nat → Nat → Int32)) (KF : (Nat → Nat → Int32)) (dr : (Nat → Int32)) (dt : (Nat → Int32)) (DW : (Nat → Nat → Int32)) (DL : (Nat → Nat → Int32)) (DK : (Nat → Nat → Int32)) (ER : (Nat → Nat → Int32)) (ET : (Nat → Nat → Int32)) (EW : (Nat → Nat → Nat → Int32)) (EL : (Nat → Nat → Nat → Int32)) (EK : (Nat → Nat → Nat → Int32)) (tw : (Nat → Int32)) (tl : (Nat → Int32)) (tk : (Nat → Int32)) (tu : (Nat → Int32)) (m : (Nat → Int32)) (tn : (Nat → Int32)) (tr_ : (Nat → Int32)) (ts : (Nat → Int32)) (tp : (Nat → Int32)) (tx : (Nat → Int32)) (Ls : Nat) (v3 : Int32) (k_g : hAt h g = some (gpC (g + 1) (g + 3) (g + 18) (g + 33) (g + 34) (g + 37) s)) (k_g1 : hAt h (g + 1) = some (txC (g + 2) x)) (k_g2 : hAt h (g + 2) = some (arC 240 lf)) (k_g3 : nk h (g + 3) r t W LF KF) (k_g18 : nk h (g + 18) dr dt DW DL DK) (k_g33 : hAt h (g + 33) = some (arR 2 4 (fun j => some ((g + 38) + 15 * j)))) (k_g38 : ek h (g + 38) ER ET EW EL EK) (k_g34 : hAt h (g + 34) = some (waC (g + 35) (g + 36) tw)) (k_g35 : hAt h (g + 35) = some (arI 6 tl)) (k_g36 : hAt h (g + 36) = some (arI 6 tk)) (k_g37 : hAt h (g + 37) = some (ruC tu)) (k_g98 : hAt h (g + 98) = some (moC (g + 99) (g + 100) (g + 101) (g + 102) (g + 103) m)) (k_g99 : hAt h (g + 99) = some (arI 103 tn)) (k_g100 : hAt h (g + 100) = some (arI 103 tr_)) (k_g101 : hAt h (g + 101) = some (arI 103 ts)) (k_g102 : hAt h (g + 102) = some (arI 412 tp)) (k_g103 : hAt h (g + 103) = some (arI 240 tx)) (ex : xg_x G = xs) (eL : xg_L G = Ls) (hp : p_law_send xs s x lf r t W LF KF dr dt DW DL DK ER ET EW EL EK tw tl tk tu m tn tr_ ts tp tx Ls v3) (kk : ∀ h2 : xH, hAt h2 g = some (gpC (g + 1) (g + 3) (g + 18) (g + 33) (g + 34) (g + 37) (f_law_send xs s x lf r t W LF KF dr dt DW DL DK ER ET EW EL EK tw tl tk tu m tn tr_ ts tp tx Ls v3).1) → hAt h2 (g + 1) = some (txC (g + 2) x) → hAt h2 (g + 2) = some (arC 240 lf) → nk h2 (g + 3) r t (f_law_send xs s x lf r t W LF KF dr dt DW DL DK ER ET EW EL EK tw tl tk tu m tn tr_ ts tp tx Ls v3).2.1 LF KF → nk h2 (g + 18) dr dt DW DL DK → hAt h2 (g + 33) = some (arR 2 4 (fun j => some ((g + 38) + 15 * j))) → ek h2 (g + 38) (f_law_send xs s x lf r t W LF KF dr dt DW DL DK ER ET EW EL EK tw tl tk tu m tn tr_ ts tp tx Ls v3).2.2.1 (f_law_send xs s x lf r t W LF KF dr dt DW DL DK ER ET EW EL EK tw tl tk tu m tn tr_ ts tp tx Ls v3).2.2.2.1 (f_law_send xs s x lf r t W LF KF dr dt DW DL DK ER ET EW EL EK tw tl tk tu m tn tr_ ts tp tx Ls v3).2.2.2.2.1 (f_law_send xs s x lf r t W LF KF dr dt DW DL DK ER ET EW EL EK tw tl tk tu m tn tr_ ts tp tx Ls v3).2.2.2.2.2.1 (f_law_send xs s x lf r t W LF KF dr dt DW DL DK ER ET EW EL EK tw tl tk tu m tn tr_ ts tp tx Ls v3).2.2.2.2.2.2.1 → hAt h2 (g + 34) = some (waC (g + 35) (g + 36) tw) → hAt h2 (g + 35) = some (arI 6 tl) → hAt h2 (g + 36) = some (arI 6 tk) → hAt h2 (g + 37) = some (ruC tu) → hAt h2 (g + 98) = some (moC (g + 99) (g + 100) (g + 101) (g + 102) (g + 103) (f_law_send xs s x lf r t W LF KF dr dt DW DL DK ER ET EW EL EK tw tl tk tu m tn tr_ ts tp tx Ls v3).2.2.2.2.2.2.2.1) → hAt h2 (g + 99) = some (arI 103 (f_law_send xs s x lf r t W LF KF dr dt DW DL DK ER ET EW EL EK tw tl tk tu m tn tr_ ts tp tx Ls v3).2.2.2.2.2.2.2.2.1) → hAt h2 (g + 100) = some (arI 103 tr_) → hAt h2 (g + 101) = some (arI 103 ts) → hAt h2 (g + 102) = some (arI 412 (f_law_send xs s x lf r t W LF KF dr dt DW DL DK ER ET EW EL EK tw tl tk tu m tn tr_ ts tp tx Ls v3).2.2.2.2.2.2.2.2.2) → hAt h2 (g + 103) = some (arI 240 tx) → Wp G RL code 4 nm ret room_1 (lwZ G) 104 1984 735 [(3, .int v3), (2, .ref (g + 98)), (1, .ref g), (0, .ref (xg_b G))] [] h2) : Wp G RL code 4 nm ret room_1 (lwZ G) 104 1984 217 [(3, .int v3), (2, .ref (g + 98)), (1, .ref g), (0, .ref (xg_b G))] [] h := by
  obtain ⟨R, er⟩ : ∃ R, f_law_send xs s x lf r t W LF KF dr dt DW DL DK ER ET EW EL EK tw tl tk tu m tn tr_ ts tp tx Ls v3 = R := ⟨_, rfl⟩
  rw [er] at kk
  unfold f_law_send at er
  unfold p_law_send at hp
  refine x_aload_n (pc := 217) dL_law_217 rfl ?_
  refine x_aload_n (pc := 218) dL_law_218 rfl ?_
  refine x_iload_n (pc := 219) dL_law_219 rfl ?_
  refine x_iconst (pc := 220) (v := (1 : Int32)) dL_law_220 (by decide) ?_
  refine x_iadd (pc := 221) dL_law_221 ?_
  obtain ⟨q222, hp⟩ := hp
  refine x_sldE (pc := 222) dL_law_222 ex eL q222 (j := ((v3 + (1 : Int32)).toNatClampNeg)) rfl ?_
  refine x_aload_n (pc := 223) dL_law_223 rfl ?_
  refine x_iload_n (pc := 224) dL_law_224 rfl ?_
  refine x_iconst (pc := 225) (v := (2 : Int32)) dL_law_225 (by decide) ?_
  refine x_iadd (pc := 226) dL_law_226 ?_
  obtain ⟨q227, hp⟩ := hp
  refine x_sldE (pc := 227) dL_law_227 ex eL q227 (j := ((v3 + (2 : Int32)).toNatClampNeg)) rfl ?_
  obtain ⟨q228, hp⟩ := hp
  refine x_cVQ (pc := 228) (As := [.int (xs ((v3 + (1 : Int32)).toNatClampNeg)), .int (xs ((v3 + (2 : Int32)).toNatClampNeg))]) (rest := []) dL_law_228 xl_L_35 xv_X4_send k_g rfl rfl rfl rfl rfl rfl (C_X4_send G _ g s r t W LF KF ER ET EW EL EK (xs ((v3 + (1 : Int32)).toNatClampNeg)) (xs ((v3 + (2 : Int32)).toNatClampNeg)) k_g k_g3 k_g33 k_g38 q228) (fun v h1 hq => ?_)
  obtain ⟨ev, z0_h1, z1_h1, z2_h1, g_h1⟩ := hq
  subst ev
  refine Wp.eqs (L' := [(3, .int v3), (2, .ref (g + 98)), (1, .ref g), (0, .ref (xg_b G))]) (st' := [.int (f_X4_send s r t W LF KF ER ET EW EL EK (xs ((v3 + (1 : Int32)).toNatClampNeg)) (xs ((v3 + (2 : Int32)).toNatClampNeg))).1]) rfl rfl ?_
  obtain ⟨F1, eF1⟩ : ∃ F, f_X4_send s r t W LF KF ER ET EW EL EK (xs ((v3 + (1 : Int32)).toNatClampNeg)) (xs ((v3 + (2 : Int32)).toNatClampNeg)) = F := ⟨_, rfl⟩
  try rw [eF1] at er
  try rw [eF1] at hp
  try rw [eF1]
  try rw [eF1] at z0_h1
  try rw [eF1] at z1_h1
  try rw [eF1] at z2_h1
  have k_g_h1 : hAt h1 g = some (gpC (g + 1) (g + 3) (g + 18) (g + 33) (g + 34) (g + 37) F1.2.1) := z0_h1
  have k_g1_h1 : hAt h1 (g + 1) = some (txC (g + 2) x) := (g_h1.2 (g + 1) (nt_X4_send_1 g)).trans k_g1
  have k_g2_h1 : hAt h1 (g + 2) = some (arC 240 lf) := (g_h1.2 (g + 2) (nt_X4_send_2 g)).trans k_g2
  have k_g3_h1 : nk h1 (g + 3) r t F1.2.2.1 LF KF := z1_h1
  have k_g18_h1 : nk h1 (g + 18) dr dt DW DL DK := nk_fr (fun q u1 u2 => g_h1.2 q (nt_X4_send_r18 g q u1 u2)) k_g18
  have k_g33_h1 : hAt h1 (g + 33) = some (arR 2 4 (fun j => some ((g + 38) + 15 * j))) := (g_h1.2 (g + 33) (nt_X4_send_33 g)).trans k_g33
  have k_g38_h1 : ek h1 (g + 38) F1.2.2.2.1 F1.2.2.2.2.1 F1.2.2.2.2.2.1 F1.2.2.2.2.2.2.1 F1.2.2.2.2.2.2.2 := z2_h1
  have k_g34_h1 : hAt h1 (g + 34) = some (waC (g + 35) (g + 36) tw) := (g_h1.2 (g + 34) (nt_X4_send_34 g)).trans k_g34
  have k_g35_h1 : hAt h1 (g + 35) = some (arI 6 tl) := (g_h1.2 (g + 35) (nt_X4_send_35 g)).trans k_g35
  have k_g36_h1 : hAt h1 (g + 36) = some (arI 6 tk) := (g_h1.2 (g + 36) (nt_X4_send_36 g)).trans k_g36
  have k_g37_h1 : hAt h1 (g + 37) = some (ruC tu) := (g_h1.2 (g + 37) (nt_X4_send_37 g)).trans k_g37
  have k_g98_h1 : hAt h1 (g + 98) = some (moC (g + 99) (g + 100) (g + 101) (g + 102) (g + 103) m) := (g_h1.2 (g + 98) (nt_X4_send_98 g)).trans k_g98
  have k_g99_h1 : hAt h1 (g + 99) = some (arI 103 tn) := (g_h1.2 (g + 99) (nt_X4_send_99 g)).trans k_g99
  have k_g100_h1 : hAt h1 (g + 100) = some (arI 103 tr_) := (g_h1.2 (g + 100) (nt_X4_send_100 g)).trans k_g100
  have k_g101_h1 : hAt h1 (g + 101) = some (arI 103 ts) := (g_h1.2 (g + 101) (nt_X4_send_101 g)).trans k_g101
  have k_g102_h1 : hAt h1 (g + 102) = some (arI 412 tp) := (g_h1.2 (g + 102) (nt_X4_send_102 g)).trans k_g102
  have k_g103_h1 : hAt h1 (g + 103) = some (arI 240 tx) := (g_h1.2 (g + 103) (nt_X4_send_103 g)).trans k_g103
  refine x_aload_n (pc := 231) dL_law_231 rfl ?_
  refine x_aload_n (pc := 232) dL_law_232 rfl ?_
  refine x_iload_n (pc := 233) dL_law_233 rfl ?_
  refine x_iconst (pc := 234) (v := (1 : Int32)) dL_law_234 (by decide) ?_
  refine x_iadd (pc := 235) dL_law_235 ?_
  obtain ⟨q236, hp⟩ := hp
  refine x_sldE (pc := 236) dL_law_236 ex eL q236 (j := ((v3 + (1 : Int32)).toNatClampNeg)) rfl ?_
  refine x_aload_n (pc := 237) dL_law_237 rfl ?_
  refine x_iload_n (pc := 238) dL_law_238 rfl ?_
  refine x_iconst (pc := 239) (v := (2 : Int32)) dL_law_239 (by decide) ?_
  refine x_iadd (pc := 240) dL_law_240 ?_
  obtain ⟨q241, hp⟩ := hp
  refine x_sldE (pc := 241) dL_law_241 ex eL q241 (j := ((v3 + (2 : Int32)).toNatClampNeg)) rfl ?_
  obtain ⟨q242, hp⟩ := hp
  refine x_cV2i (pc := 242) dL_law_242 xl_L_39 xv_X5_send k_g98_h1 rfl (C_X5_send G _ (g + 98) (g + 99) (g + 100) (g + 101) (g + 102) (g + 103) m tn tp (xs ((v3 + (1 : Int32)).toNatClampNeg)) (xs ((v3 + (2 : Int32)).toNatClampNeg)) k_g98_h1 k_g99_h1 k_g102_h1 (cNe rfl) q242) rfl rfl rfl ?_
  obtain ⟨F2, eF2⟩ : ∃ F, f_X5_send m tn tp (xs ((v3 + (1 : Int32)).toNatClampNeg)) (xs ((v3 + (2 : Int32)).toNatClampNeg)) = F := ⟨_, rfl⟩
  rw [eF2]
  try rw [eF2] at er
  try rw [eF2] at hp
  obtain ⟨h2, eh2⟩ : ∃ z, z = hSet h1 (g + 98) (moC (g + 99) (g + 100) (g + 101) (g + 102) (g + 103) F2.2.1) := ⟨_, rfl⟩
  rw [← eh2]
  have k_g_h2 : hAt h2 g = some (gpC (g + 1) (g + 3) (g + 18) (g + 33) (g + 34) (g + 37) F1.2.1) := by rw [eh2]; exact hAt_n (cNeL rfl) k_g_h1
  have k_g1_h2 : hAt h2 (g + 1) = some (txC (g + 2) x) := by rw [eh2]; exact hAt_n (cNe rfl) k_g1_h1
  have k_g2_h2 : hAt h2 (g + 2) = some (arC 240 lf) := by rw [eh2]; exact hAt_n (cNe rfl) k_g2_h1
  have k_g3_h2 : nk h2 (g + 3) r t F1.2.2.1 LF KF := by rw [eh2]; exact nk_fr1 (cOut rfl) k_g3_h1
  have k_g18_h2 : nk h2 (g + 18) dr dt DW DL DK := by rw [eh2]; exact nk_fr1 (cOut rfl) k_g18_h1
  have k_g33_h2 : hAt h2 (g + 33) = some (arR 2 4 (fun j => some ((g + 38) + 15 * j))) := by rw [eh2]; exact hAt_n (cNe rfl) k_g33_h1
  have k_g38_h2 : ek h2 (g + 38) F1.2.2.2.1 F1.2.2.2.2.1 F1.2.2.2.2.2.1 F1.2.2.2.2.2.2.1 F1.2.2.2.2.2.2.2 := by rw [eh2]; exact ek_fr1 (cOutE rfl) k_g38_h1
  have k_g34_h2 : hAt h2 (g + 34) = some (waC (g + 35) (g + 36) tw) := by rw [eh2]; exact hAt_n (cNe rfl) k_g34_h1
  have k_g35_h2 : hAt h2 (g + 35) = some (arI 6 tl) := by rw [eh2]; exact hAt_n (cNe rfl) k_g35_h1
  have k_g36_h2 : hAt h2 (g + 36) = some (arI 6 tk) := by rw [eh2]; exact hAt_n (cNe rfl) k_g36_h1
  have k_g37_h2 : hAt h2 (g + 37) = some (ruC tu) := by rw [eh2]; exact hAt_n (cNe rfl) k_g37_h1
  have k_g98_h2 : hAt h2 (g + 98) = some (moC (g + 99) (g + 100) (g + 101) (g + 102) (g + 103) F2.2.1) := by rw [eh2]; exact hAt_same
  have k_g99_h2 : hAt h2 (g + 99) = some (arI 103 tn) := by rw [eh2]; exact hAt_n (cNe rfl) k_g99_h1
  have k_g100_h2 : hAt h2 (g + 100) = some (arI 103 tr_) := by rw [eh2]; exact hAt_n (cNe rfl) k_g100_h1
  have k_g101_h2 : hAt h2 (g + 101) = some (arI 103 ts) := by rw [eh2]; exact hAt_n (cNe rfl) k_g101_h1
  have k_g102_h2 : hAt h2 (g + 102) = some (arI 412 tp) := by rw [eh2]; exact hAt_n (cNe rfl) k_g102_h1
  have k_g103_h2 : hAt h2 (g + 103) = some (arI 240 tx) := by rw [eh2]; exact hAt_n (cNe rfl) k_g103_h1
  obtain ⟨h3, eh3⟩ : ∃ z, z = hSet h2 (g + 99) (arI 103 F2.2.2.1) := ⟨_, rfl⟩
  rw [← eh3]
  have k_g_h3 : hAt h3 g = some (gpC (g + 1) (g + 3) (g + 18) (g + 33) (g + 34) (g + 37) F1.2.1) := by rw [eh3]; exact hAt_n (cNeL rfl) k_g_h2
  have k_g1_h3 : hAt h3 (g + 1) = some (txC (g + 2) x) := by rw [eh3]; exact hAt_n (cNe rfl) k_g1_h2
  have k_g2_h3 : hAt h3 (g + 2) = some (arC 240 lf) := by rw [eh3]; exact hAt_n (cNe rfl) k_g2_h2
  have k_g3_h3 : nk h3 (g + 3) r t F1.2.2.1 LF KF := by rw [eh3]; exact nk_fr1 (cOut rfl) k_g3_h2
  have k_g18_h3 : nk h3 (g + 18) dr dt DW DL DK := by rw [eh3]; exact nk_fr1 (cOut rfl) k_g18_h2
  have k_g33_h3 : hAt h3 (g + 33) = some (arR 2 4 (fun j => some ((g + 38) + 15 * j))) := by rw [eh3]; exact hAt_n (cNe rfl) k_g33_h2
  have k_g38_h3 : ek h3 (g + 38) F1.2.2.2.1 F1.2.2.2.2.1 F1.2.2.2.2.2.1 F1.2.2.2.2.2.2.1 F1.2.2.2.2.2.2.2 := by rw [eh3]; exact ek_fr1 (cOutE rfl) k_g38_h2
  have k_g34_h3 : hAt h3 (g + 34) = some (waC (g + 35) (g + 36) tw) := by rw [eh3]; exact hAt_n (cNe rfl) k_g34_h2
  have k_g35_h3 : hAt h3 (g + 35) = some (arI 6 tl) := by rw [eh3]; exact hAt_n (cNe rfl) k_g35_h2
  have k_g36_h3 : hAt h3 (g + 36) = some (arI 6 tk) := by rw [eh3]; exact hAt_n (cNe rfl) k_g36_h2
  have k_g37_h3 : hAt h3 (g + 37) = some (ruC tu) := by rw [eh3]; exact hAt_n (cNe rfl) k_g37_h2
  have k_g98_h3 : hAt h3 (g + 98) = some (moC (g + 99) (g + 100) (g + 101) (g + 102) (g + 103) F2.2.1) := by rw [eh3]; exact hAt_n (cNe rfl) k_g98_h2
  have k_g99_h3 : hAt h3 (g + 99) = some (arI 103 F2.2.2.1) := by rw [eh3]; exact hAt_same
  have k_g100_h3 : hAt h3 (g + 100) = some (arI 103 tr_) := by rw [eh3]; exact hAt_n (cNe rfl) k_g100_h2
  have k_g101_h3 : hAt h3 (g + 101) = some (arI 103 ts) := by rw [eh3]; exact hAt_n (cNe rfl) k_g101_h2
  have k_g102_h3 : hAt h3 (g + 102) = some (arI 412 tp) := by rw [eh3]; exact hAt_n (cNe rfl) k_g102_h2
  have k_g103_h3 : hAt h3 (g + 103) = some (arI 240 tx) := by rw [eh3]; exact hAt_n (cNe rfl) k_g103_h2
  obtain ⟨h4, eh4⟩ : ∃ z, z = hSet h3 (g + 102) (arI 412 F2.2.2.2) := ⟨_, rfl⟩
  rw [← eh4]
  have k_g_h4 : hAt h4 g = some (gpC (g + 1) (g + 3) (g + 18) (g + 33) (g + 34) (g + 37) F1.2.1) := by rw [eh4]; exact hAt_n (cNeL rfl) k_g_h3
  have k_g1_h4 : hAt h4 (g + 1) = some (txC (g + 2) x) := by rw [eh4]; exact hAt_n (cNe rfl) k_g1_h3
  have k_g2_h4 : hAt h4 (g + 2) = some (arC 240 lf) := by rw [eh4]; exact hAt_n (cNe rfl) k_g2_h3
  have k_g3_h4 : nk h4 (g + 3) r t F1.2.2.1 LF KF := by rw [eh4]; exact nk_fr1 (cOut rfl) k_g3_h3
  have k_g18_h4 : nk h4 (g + 18) dr dt DW DL DK := by rw [eh4]; exact nk_fr1 (cOut rfl) k_g18_h3
  have k_g33_h4 : hAt h4 (g + 33) = some (arR 2 4 (fun j => some ((g + 38) + 15 * j))) := by rw [eh4]; exact hAt_n (cNe rfl) k_g33_h3
  have k_g38_h4 : ek h4 (g + 38) F1.2.2.2.1 F1.2.2.2.2.1 F1.2.2.2.2.2.1 F1.2.2.2.2.2.2.1 F1.2.2.2.2.2.2.2 := by rw [eh4]; exact ek_fr1 (cOutE rfl) k_g38_h3
  have k_g34_h4 : hAt h4 (g + 34) = some (waC (g + 35) (g + 36) tw) := by rw [eh4]; exact hAt_n (cNe rfl) k_g34_h3
  have k_g35_h4 : hAt h4 (g + 35) = some (arI 6 tl) := by rw [eh4]; exact hAt_n (cNe rfl) k_g35_h3
  have k_g36_h4 : hAt h4 (g + 36) = some (arI 6 tk) := by rw [eh4]; exact hAt_n (cNe rfl) k_g36_h3
  have k_g37_h4 : hAt h4 (g + 37) = some (ruC tu) := by rw [eh4]; exact hAt_n (cNe rfl) k_g37_h3
  have k_g98_h4 : hAt h4 (g + 98) = some (moC (g + 99) (g + 100) (g + 101) (g + 102) (g + 103) F2.2.1) := by rw [eh4]; exact hAt_n (cNe rfl) k_g98_h3
  have k_g99_h4 : hAt h4 (g + 99) = some (arI 103 F2.2.2.1) := by rw [eh4]; exact hAt_n (cNe rfl) k_g99_h3
  have k_g100_h4 : hAt h4 (g + 100) = some (arI 103 tr_) := by rw [eh4]; exact hAt_n (cNe rfl) k_g100_h3
  have k_g101_h4 : hAt h4 (g + 101) = some (arI 103 ts) := by rw [eh4]; exact hAt_n (cNe rfl) k_g101_h3
  have k_g102_h4 : hAt h4 (g + 102) = some (arI 412 F2.2.2.2) := by rw [eh4]; exact hAt_same
  have k_g103_h4 : hAt h4 (g + 103) = some (arI 240 tx) := by rw [eh4]; exact hAt_n (cNe rfl) k_g103_h3
  refine x_icmp_eq (pc := 245) (tgt := 735) dL_law_245 (by decide) (fun (c1 : F1.1 = F2.1) => ?_) (fun (c1 : ¬ (F1.1 = F2.1)) => ?_)
  · replace hp := hp.1 c1
    rw [if_pos c1] at er
    subst er
    exact kk h4 k_g_h4 k_g1_h4 k_g2_h4 k_g3_h4 k_g18_h4 k_g33_h4 k_g38_h4 k_g34_h4 k_g35_h4 k_g36_h4 k_g37_h4 k_g98_h4 k_g99_h4 k_g100_h4 k_g101_h4 k_g102_h4 k_g103_h4
  · replace hp := hp.2 c1
    rw [if_neg c1] at er
    refine x_iconst (pc := 248) (v := (0 : Int32)) dL_law_248 (by decide) ?_
    exact hp.elim

def f_law_limit (xs : (Nat → Int32)) (s : (Nat → Int32)) (x : (Nat → Int32)) (lf : (Nat → Int32)) (r : (Nat → Int32)) (t : (Nat → Int32)) (W : (Nat → Nat → Int32)) (LF : (Nat → Nat → Int32)) (KF : (Nat → Nat → Int32)) (dr : (Nat → Int32)) (dt : (Nat → Int32)) (DW : (Nat → Nat → Int32)) (DL : (Nat → Nat → Int32)) (DK : (Nat → Nat → Int32)) (ER : (Nat → Nat → Int32)) (ET : (Nat → Nat → Int32)) (EW : (Nat → Nat → Nat → Int32)) (EL : (Nat → Nat → Nat → Int32)) (EK : (Nat → Nat → Nat → Int32)) (tw : (Nat → Int32)) (tl : (Nat → Int32)) (tk : (Nat → Int32)) (tu : (Nat → Int32)) (m : (Nat → Int32)) (tn : (Nat → Int32)) (tr_ : (Nat → Int32)) (ts : (Nat → Int32)) (tp : (Nat → Int32)) (tx : (Nat → Int32)) (Ls : Nat) (v3 : Int32) : (Nat → Int32) × (Nat → Nat → Int32) × (Nat → Nat → Int32) × (Nat → Nat → Int32) × (Nat → Nat → Nat → Int32) × (Nat → Nat → Nat → Int32) × (Nat → Nat → Nat → Int32) × (Nat → Int32) × (Nat → Int32) × (Nat → Int32) := (if (f_X4_limit s r t W LF KF ER ET EW EL EK (xs ((v3 + (1 : Int32)).toNatClampNeg)) (xs ((v3 + (2 : Int32)).toNatClampNeg)) (xs ((v3 + (3 : Int32)).toNatClampNeg))).1 = (f_X5_limit m tn tp (xs ((v3 + (1 : Int32)).toNatClampNeg)) (xs ((v3 + (2 : Int32)).toNatClampNeg)) (xs ((v3 + (3 : Int32)).toNatClampNeg))).1 then ((f_X4_limit s r t W LF KF ER ET EW EL EK (xs ((v3 + (1 : Int32)).toNatClampNeg)) (xs ((v3 + (2 : Int32)).toNatClampNeg)) (xs ((v3 + (3 : Int32)).toNatClampNeg))).2.1, (f_X4_limit s r t W LF KF ER ET EW EL EK (xs ((v3 + (1 : Int32)).toNatClampNeg)) (xs ((v3 + (2 : Int32)).toNatClampNeg)) (xs ((v3 + (3 : Int32)).toNatClampNeg))).2.2.1, (f_X4_limit s r t W LF KF ER ET EW EL EK (xs ((v3 + (1 : Int32)).toNatClampNeg)) (xs ((v3 + (2 : Int32)).toNatClampNeg)) (xs ((v3 + (3 : Int32)).toNatClampNeg))).2.2.2.1, (f_X4_limit s r t W LF KF ER ET EW EL EK (xs ((v3 + (1 : Int32)).toNatClampNeg)) (xs ((v3 + (2 : Int32)).toNatClampNeg)) (xs ((v3 + (3 : Int32)).toNatClampNeg))).2.2.2.2.1, (f_X4_limit s r t W LF KF ER ET EW EL EK (xs ((v3 + (1 : Int32)).toNatClampNeg)) (xs ((v3 + (2 : Int32)).toNatClampNeg)) (xs ((v3 + (3 : Int32)).toNatClampNeg))).2.2.2.2.2.1, (f_X4_limit s r t W LF KF ER ET EW EL EK (xs ((v3 + (1 : Int32)).toNatClampNeg)) (xs ((v3 + (2 : Int32)).toNatClampNeg)) (xs ((v3 + (3 : Int32)).toNatClampNeg))).2.2.2.2.2.2.1, (f_X4_limit s r t W LF KF ER ET EW EL EK (xs ((v3 + (1 : Int32)).toNatClampNeg)) (xs ((v3 + (2 : Int32)).toNatClampNeg)) (xs ((v3 + (3 : Int32)).toNatClampNeg))).2.2.2.2.2.2.2, (f_X5_limit m tn tp (xs ((v3 + (1 : Int32)).toNatClampNeg)) (xs ((v3 + (2 : Int32)).toNatClampNeg)) (xs ((v3 + (3 : Int32)).toNatClampNeg))).2.1, (f_X5_limit m tn tp (xs ((v3 + (1 : Int32)).toNatClampNeg)) (xs ((v3 + (2 : Int32)).toNatClampNeg)) (xs ((v3 + (3 : Int32)).toNatClampNeg))).2.2.1, (f_X5_limit m tn tp (xs ((v3 + (1 : Int32)).toNatClampNeg)) (xs ((v3 + (2 : Int32)).toNatClampNeg)) (xs ((v3 + (3 : Int32)).toNatClampNeg))).2.2.2) else ((fun _ => 0), (fun _ _ => 0), (fun _ _ => 0), (fun _ _ => 0), (fun _ _ _ => 0), (fun _ _ _ => 0), (fun _ _ _ => 0), (fun _ => 0), (fun _ => 0), (fun _ => 0)))
def p_law_limit (xs : (Nat → Int32)) (s : (Nat → Int32)) (x : (Nat → Int32)) (lf : (Nat → Int32)) (r : (Nat → Int32)) (t : (Nat → Int32)) (W : (Nat → Nat → Int32)) (LF : (Nat → Nat → Int32)) (KF : (Nat → Nat → Int32)) (dr : (Nat → Int32)) (dt : (Nat → Int32)) (DW : (Nat → Nat → Int32)) (DL : (Nat → Nat → Int32)) (DK : (Nat → Nat → Int32)) (ER : (Nat → Nat → Int32)) (ET : (Nat → Nat → Int32)) (EW : (Nat → Nat → Nat → Int32)) (EL : (Nat → Nat → Nat → Int32)) (EK : (Nat → Nat → Nat → Int32)) (tw : (Nat → Int32)) (tl : (Nat → Int32)) (tk : (Nat → Int32)) (tu : (Nat → Int32)) (m : (Nat → Int32)) (tn : (Nat → Int32)) (tr_ : (Nat → Int32)) (ts : (Nat → Int32)) (tp : (Nat → Int32)) (tx : (Nat → Int32)) (Ls : Nat) (v3 : Int32) : Prop := (vp_in (v3 + (1 : Int32)) Ls ∧ (vp_in (v3 + (2 : Int32)) Ls ∧ (vp_in (v3 + (3 : Int32)) Ls ∧ (p_X4_limit s r t W LF KF ER ET EW EL EK (xs ((v3 + (1 : Int32)).toNatClampNeg)) (xs ((v3 + (2 : Int32)).toNatClampNeg)) (xs ((v3 + (3 : Int32)).toNatClampNeg)) ∧ (vp_in (v3 + (1 : Int32)) Ls ∧ (vp_in (v3 + (2 : Int32)) Ls ∧ (vp_in (v3 + (3 : Int32)) Ls ∧ (p_X5_limit m tn tp (xs ((v3 + (1 : Int32)).toNatClampNeg)) (xs ((v3 + (2 : Int32)).toNatClampNeg)) (xs ((v3 + (3 : Int32)).toNatClampNeg)) ∧ (((f_X4_limit s r t W LF KF ER ET EW EL EK (xs ((v3 + (1 : Int32)).toNatClampNeg)) (xs ((v3 + (2 : Int32)).toNatClampNeg)) (xs ((v3 + (3 : Int32)).toNatClampNeg))).1 = (f_X5_limit m tn tp (xs ((v3 + (1 : Int32)).toNatClampNeg)) (xs ((v3 + (2 : Int32)).toNatClampNeg)) (xs ((v3 + (3 : Int32)).toNatClampNeg))).1 → True) ∧ (¬ ((f_X4_limit s r t W LF KF ER ET EW EL EK (xs ((v3 + (1 : Int32)).toNatClampNeg)) (xs ((v3 + (2 : Int32)).toNatClampNeg)) (xs ((v3 + (3 : Int32)).toNatClampNeg))).1 = (f_X5_limit m tn tp (xs ((v3 + (1 : Int32)).toNatClampNeg)) (xs ((v3 + (2 : Int32)).toNatClampNeg)) (xs ((v3 + (3 : Int32)).toNatClampNeg))).1) → False))))))))))
set_option maxRecDepth 100000 in
set_option maxHeartbeats 4000000 in
theorem K_law_limit (G : xG) (h : xH) (nm : String) (g : Nat) (xs : (Nat → Int32)) (s : (Nat → Int32)) (x : (Nat → Int32)) (lf : (Nat → Int32)) (r : (Nat → Int32)) (t : (Nat → Int32)) (W : (Nat → Nat → Int32)) (LF : (Nat → Nat → Int32)) (KF : (Nat → Nat → Int32)) (dr : (Nat → Int32)) (dt : (Nat → Int32)) (DW : (Nat → Nat → Int32)) (DL : (Nat → Nat → Int32)) (DK : (Nat → Nat → Int32)) (ER : (Nat → Nat → Int32)) (ET : (Nat → Nat → Int32)) (EW : (Nat → Nat → Nat → Int32)) (EL : (Nat → Nat → Nat → Int32)) (EK : (Nat → Nat → Nat → Int32)) (tw : (Nat → Int32)) (tl : (Nat → Int32)) (tk : (Nat → Int32)) (tu : (Nat → Int32)) (m : (Nat → Int32)) (tn : (Nat → Int32)) (tr_ : (Nat → Int32)) (ts : (Nat → Int32)) (tp : (Nat → Int32)) (tx : (Nat → Int32)) (Ls : Nat) (v3 : Int32) (k_g : hAt h g = some (gpC (g + 1) (g + 3) (g + 18) (g + 33) (g + 34) (g + 37) s)) (k_g1 : hAt h (g + 1) = some (txC (g + 2) x)) (k_g2 : hAt h (g + 2) = some (arC 240 lf)) (k_g3 : nk h (g + 3) r t W LF KF) (k_g18 : nk h (g + 18) dr dt DW DL DK) (k_g33 : hAt h (g + 33) = some (arR 2 4 (fun j => some ((g + 38) + 15 * j)))) (k_g38 : ek h (g + 38) ER ET EW EL EK) (k_g34 : hAt h (g + 34) = some (waC (g + 35) (g + 36) tw)) (k_g35 : hAt h (g + 35) = some (arI 6 tl)) (k_g36 : hAt h (g + 36) = some (arI 6 tk)) (k_g37 : hAt h (g + 37) = some (ruC tu)) (k_g98 : hAt h (g + 98) = some (moC (g + 99) (g + 100) (g + 101) (g + 102) (g + 103) m)) (k_g99 : hAt h (g + 99) = some (arI 103 tn)) (k_g100 : hAt h (g + 100) = some (arI 103 tr_)) (k_g101 : hAt h (g + 101) = some (arI 103 ts)) (k_g102 : hAt h (g + 102) = some (arI 412 tp)) (k_g103 : hAt h (g + 103) = some (arI 240 tx)) (ex : xg_x G = xs) (eL : xg_L G = Ls) (hp : p_law_limit xs s x lf r t W LF KF dr dt DW DL DK ER ET EW EL EK tw tl tk tu m tn tr_ ts tp tx Ls v3) (kk : ∀ h2 : xH, hAt h2 g = some (gpC (g + 1) (g + 3) (g + 18) (g + 33) (g + 34) (g + 37) (f_law_limit xs s x lf r t W LF KF dr dt DW DL DK ER ET EW EL EK tw tl tk tu m tn tr_ ts tp tx Ls v3).1) → hAt h2 (g + 1) = some (txC (g + 2) x) → hAt h2 (g + 2) = some (arC 240 lf) → nk h2 (g + 3) r t W (f_law_limit xs s x lf r t W LF KF dr dt DW DL DK ER ET EW EL EK tw tl tk tu m tn tr_ ts tp tx Ls v3).2.1 KF → nk h2 (g + 18) dr dt DW DL DK → hAt h2 (g + 33) = some (arR 2 4 (fun j => some ((g + 38) + 15 * j))) → ek h2 (g + 38) (f_law_limit xs s x lf r t W LF KF dr dt DW DL DK ER ET EW EL EK tw tl tk tu m tn tr_ ts tp tx Ls v3).2.2.1 (f_law_limit xs s x lf r t W LF KF dr dt DW DL DK ER ET EW EL EK tw tl tk tu m tn tr_ ts tp tx Ls v3).2.2.2.1 (f_law_limit xs s x lf r t W LF KF dr dt DW DL DK ER ET EW EL EK tw tl tk tu m tn tr_ ts tp tx Ls v3).2.2.2.2.1 (f_law_limit xs s x lf r t W LF KF dr dt DW DL DK ER ET EW EL EK tw tl tk tu m tn tr_ ts tp tx Ls v3).2.2.2.2.2.1 (f_law_limit xs s x lf r t W LF KF dr dt DW DL DK ER ET EW EL EK tw tl tk tu m tn tr_ ts tp tx Ls v3).2.2.2.2.2.2.1 → hAt h2 (g + 34) = some (waC (g + 35) (g + 36) tw) → hAt h2 (g + 35) = some (arI 6 tl) → hAt h2 (g + 36) = some (arI 6 tk) → hAt h2 (g + 37) = some (ruC tu) → hAt h2 (g + 98) = some (moC (g + 99) (g + 100) (g + 101) (g + 102) (g + 103) (f_law_limit xs s x lf r t W LF KF dr dt DW DL DK ER ET EW EL EK tw tl tk tu m tn tr_ ts tp tx Ls v3).2.2.2.2.2.2.2.1) → hAt h2 (g + 99) = some (arI 103 (f_law_limit xs s x lf r t W LF KF dr dt DW DL DK ER ET EW EL EK tw tl tk tu m tn tr_ ts tp tx Ls v3).2.2.2.2.2.2.2.2.1) → hAt h2 (g + 100) = some (arI 103 tr_) → hAt h2 (g + 101) = some (arI 103 ts) → hAt h2 (g + 102) = some (arI 412 (f_law_limit xs s x lf r t W LF KF dr dt DW DL DK ER ET EW EL EK tw tl tk tu m tn tr_ ts tp tx Ls v3).2.2.2.2.2.2.2.2.2) → hAt h2 (g + 103) = some (arI 240 tx) → Wp G RL code 4 nm ret room_1 (lwZ G) 104 1984 735 [(3, .int v3), (2, .ref (g + 98)), (1, .ref g), (0, .ref (xg_b G))] [] h2) : Wp G RL code 4 nm ret room_1 (lwZ G) 104 1984 250 [(3, .int v3), (2, .ref (g + 98)), (1, .ref g), (0, .ref (xg_b G))] [] h := by
  obtain ⟨R, er⟩ : ∃ R, f_law_limit xs s x lf r t W LF KF dr dt DW DL DK ER ET EW EL EK tw tl tk tu m tn tr_ ts tp tx Ls v3 = R := ⟨_, rfl⟩
  rw [er] at kk
  unfold f_law_limit at er
  unfold p_law_limit at hp
  refine x_aload_n (pc := 250) dL_law_250 rfl ?_
  refine x_aload_n (pc := 251) dL_law_251 rfl ?_
  refine x_iload_n (pc := 252) dL_law_252 rfl ?_
  refine x_iconst (pc := 253) (v := (1 : Int32)) dL_law_253 (by decide) ?_
  refine x_iadd (pc := 254) dL_law_254 ?_
  obtain ⟨q255, hp⟩ := hp
  refine x_sldE (pc := 255) dL_law_255 ex eL q255 (j := ((v3 + (1 : Int32)).toNatClampNeg)) rfl ?_
  refine x_aload_n (pc := 256) dL_law_256 rfl ?_
  refine x_iload_n (pc := 257) dL_law_257 rfl ?_
  refine x_iconst (pc := 258) (v := (2 : Int32)) dL_law_258 (by decide) ?_
  refine x_iadd (pc := 259) dL_law_259 ?_
  obtain ⟨q260, hp⟩ := hp
  refine x_sldE (pc := 260) dL_law_260 ex eL q260 (j := ((v3 + (2 : Int32)).toNatClampNeg)) rfl ?_
  refine x_aload_n (pc := 261) dL_law_261 rfl ?_
  refine x_iload_n (pc := 262) dL_law_262 rfl ?_
  refine x_iconst (pc := 263) (v := (3 : Int32)) dL_law_263 (by decide) ?_
  refine x_iadd (pc := 264) dL_law_264 ?_
  obtain ⟨q265, hp⟩ := hp
  refine x_sldE (pc := 265) dL_law_265 ex eL q265 (j := ((v3 + (3 : Int32)).toNatClampNeg)) rfl ?_
  obtain ⟨q266, hp⟩ := hp
  refine x_cVQ (pc := 266) (As := [.int (xs ((v3 + (1 : Int32)).toNatClampNeg)), .int (xs ((v3 + (2 : Int32)).toNatClampNeg)), .int (xs ((v3 + (3 : Int32)).toNatClampNeg))]) (rest := []) dL_law_266 xl_L_40 xv_X4_limit k_g rfl rfl rfl rfl rfl rfl (C_X4_limit G _ g s r t W LF KF ER ET EW EL EK (xs ((v3 + (1 : Int32)).toNatClampNeg)) (xs ((v3 + (2 : Int32)).toNatClampNeg)) (xs ((v3 + (3 : Int32)).toNatClampNeg)) k_g k_g3 k_g33 k_g38 q266) (fun v h1 hq => ?_)
  obtain ⟨ev, z0_h1, z1_h1, z2_h1, g_h1⟩ := hq
  subst ev
  refine Wp.eqs (L' := [(3, .int v3), (2, .ref (g + 98)), (1, .ref g), (0, .ref (xg_b G))]) (st' := [.int (f_X4_limit s r t W LF KF ER ET EW EL EK (xs ((v3 + (1 : Int32)).toNatClampNeg)) (xs ((v3 + (2 : Int32)).toNatClampNeg)) (xs ((v3 + (3 : Int32)).toNatClampNeg))).1]) rfl rfl ?_
  obtain ⟨F1, eF1⟩ : ∃ F, f_X4_limit s r t W LF KF ER ET EW EL EK (xs ((v3 + (1 : Int32)).toNatClampNeg)) (xs ((v3 + (2 : Int32)).toNatClampNeg)) (xs ((v3 + (3 : Int32)).toNatClampNeg)) = F := ⟨_, rfl⟩
  try rw [eF1] at er
  try rw [eF1] at hp
  try rw [eF1]
  try rw [eF1] at z0_h1
  try rw [eF1] at z1_h1
  try rw [eF1] at z2_h1
  have k_g_h1 : hAt h1 g = some (gpC (g + 1) (g + 3) (g + 18) (g + 33) (g + 34) (g + 37) F1.2.1) := z0_h1
  have k_g1_h1 : hAt h1 (g + 1) = some (txC (g + 2) x) := (g_h1.2 (g + 1) (nt_X4_limit_1 g)).trans k_g1
  have k_g2_h1 : hAt h1 (g + 2) = some (arC 240 lf) := (g_h1.2 (g + 2) (nt_X4_limit_2 g)).trans k_g2
  have k_g3_h1 : nk h1 (g + 3) r t W F1.2.2.1 KF := z1_h1
  have k_g18_h1 : nk h1 (g + 18) dr dt DW DL DK := nk_fr (fun q u1 u2 => g_h1.2 q (nt_X4_limit_r18 g q u1 u2)) k_g18
  have k_g33_h1 : hAt h1 (g + 33) = some (arR 2 4 (fun j => some ((g + 38) + 15 * j))) := (g_h1.2 (g + 33) (nt_X4_limit_33 g)).trans k_g33
  have k_g38_h1 : ek h1 (g + 38) F1.2.2.2.1 F1.2.2.2.2.1 F1.2.2.2.2.2.1 F1.2.2.2.2.2.2.1 F1.2.2.2.2.2.2.2 := z2_h1
  have k_g34_h1 : hAt h1 (g + 34) = some (waC (g + 35) (g + 36) tw) := (g_h1.2 (g + 34) (nt_X4_limit_34 g)).trans k_g34
  have k_g35_h1 : hAt h1 (g + 35) = some (arI 6 tl) := (g_h1.2 (g + 35) (nt_X4_limit_35 g)).trans k_g35
  have k_g36_h1 : hAt h1 (g + 36) = some (arI 6 tk) := (g_h1.2 (g + 36) (nt_X4_limit_36 g)).trans k_g36
  have k_g37_h1 : hAt h1 (g + 37) = some (ruC tu) := (g_h1.2 (g + 37) (nt_X4_limit_37 g)).trans k_g37
  have k_g98_h1 : hAt h1 (g + 98) = some (moC (g + 99) (g + 100) (g + 101) (g + 102) (g + 103) m) := (g_h1.2 (g + 98) (nt_X4_limit_98 g)).trans k_g98
  have k_g99_h1 : hAt h1 (g + 99) = some (arI 103 tn) := (g_h1.2 (g + 99) (nt_X4_limit_99 g)).trans k_g99
  have k_g100_h1 : hAt h1 (g + 100) = some (arI 103 tr_) := (g_h1.2 (g + 100) (nt_X4_limit_100 g)).trans k_g100
  have k_g101_h1 : hAt h1 (g + 101) = some (arI 103 ts) := (g_h1.2 (g + 101) (nt_X4_limit_101 g)).trans k_g101
  have k_g102_h1 : hAt h1 (g + 102) = some (arI 412 tp) := (g_h1.2 (g + 102) (nt_X4_limit_102 g)).trans k_g102
  have k_g103_h1 : hAt h1 (g + 103) = some (arI 240 tx) := (g_h1.2 (g + 103) (nt_X4_limit_103 g)).trans k_g103
  refine x_aload_n (pc := 269) dL_law_269 rfl ?_
  refine x_aload_n (pc := 270) dL_law_270 rfl ?_
  refine x_iload_n (pc := 271) dL_law_271 rfl ?_
  refine x_iconst (pc := 272) (v := (1 : Int32)) dL_law_272 (by decide) ?_
  refine x_iadd (pc := 273) dL_law_273 ?_
  obtain ⟨q274, hp⟩ := hp
  refine x_sldE (pc := 274) dL_law_274 ex eL q274 (j := ((v3 + (1 : Int32)).toNatClampNeg)) rfl ?_
  refine x_aload_n (pc := 275) dL_law_275 rfl ?_
  refine x_iload_n (pc := 276) dL_law_276 rfl ?_
  refine x_iconst (pc := 277) (v := (2 : Int32)) dL_law_277 (by decide) ?_
  refine x_iadd (pc := 278) dL_law_278 ?_
  obtain ⟨q279, hp⟩ := hp
  refine x_sldE (pc := 279) dL_law_279 ex eL q279 (j := ((v3 + (2 : Int32)).toNatClampNeg)) rfl ?_
  refine x_aload_n (pc := 280) dL_law_280 rfl ?_
  refine x_iload_n (pc := 281) dL_law_281 rfl ?_
  refine x_iconst (pc := 282) (v := (3 : Int32)) dL_law_282 (by decide) ?_
  refine x_iadd (pc := 283) dL_law_283 ?_
  obtain ⟨q284, hp⟩ := hp
  refine x_sldE (pc := 284) dL_law_284 ex eL q284 (j := ((v3 + (3 : Int32)).toNatClampNeg)) rfl ?_
  obtain ⟨q285, hp⟩ := hp
  refine x_cV3i (pc := 285) dL_law_285 xl_L_44 xv_X5_limit k_g98_h1 rfl (C_X5_limit G _ (g + 98) (g + 99) (g + 100) (g + 101) (g + 102) (g + 103) m tn tp (xs ((v3 + (1 : Int32)).toNatClampNeg)) (xs ((v3 + (2 : Int32)).toNatClampNeg)) (xs ((v3 + (3 : Int32)).toNatClampNeg)) k_g98_h1 k_g99_h1 k_g102_h1 (cNe rfl) q285) rfl rfl rfl ?_
  obtain ⟨F2, eF2⟩ : ∃ F, f_X5_limit m tn tp (xs ((v3 + (1 : Int32)).toNatClampNeg)) (xs ((v3 + (2 : Int32)).toNatClampNeg)) (xs ((v3 + (3 : Int32)).toNatClampNeg)) = F := ⟨_, rfl⟩
  rw [eF2]
  try rw [eF2] at er
  try rw [eF2] at hp
  obtain ⟨h2, eh2⟩ : ∃ z, z = hSet h1 (g + 98) (moC (g + 99) (g + 100) (g + 101) (g + 102) (g + 103) F2.2.1) := ⟨_, rfl⟩
  rw [← eh2]
  have k_g_h2 : hAt h2 g = some (gpC (g + 1) (g + 3) (g + 18) (g + 33) (g + 34) (g + 37) F1.2.1) := by rw [eh2]; exact hAt_n (cNeL rfl) k_g_h1
  have k_g1_h2 : hAt h2 (g + 1) = some (txC (g + 2) x) := by rw [eh2]; exact hAt_n (cNe rfl) k_g1_h1
  have k_g2_h2 : hAt h2 (g + 2) = some (arC 240 lf) := by rw [eh2]; exact hAt_n (cNe rfl) k_g2_h1
  have k_g3_h2 : nk h2 (g + 3) r t W F1.2.2.1 KF := by rw [eh2]; exact nk_fr1 (cOut rfl) k_g3_h1
  have k_g18_h2 : nk h2 (g + 18) dr dt DW DL DK := by rw [eh2]; exact nk_fr1 (cOut rfl) k_g18_h1
  have k_g33_h2 : hAt h2 (g + 33) = some (arR 2 4 (fun j => some ((g + 38) + 15 * j))) := by rw [eh2]; exact hAt_n (cNe rfl) k_g33_h1
  have k_g38_h2 : ek h2 (g + 38) F1.2.2.2.1 F1.2.2.2.2.1 F1.2.2.2.2.2.1 F1.2.2.2.2.2.2.1 F1.2.2.2.2.2.2.2 := by rw [eh2]; exact ek_fr1 (cOutE rfl) k_g38_h1
  have k_g34_h2 : hAt h2 (g + 34) = some (waC (g + 35) (g + 36) tw) := by rw [eh2]; exact hAt_n (cNe rfl) k_g34_h1
  have k_g35_h2 : hAt h2 (g + 35) = some (arI 6 tl) := by rw [eh2]; exact hAt_n (cNe rfl) k_g35_h1
  have k_g36_h2 : hAt h2 (g + 36) = some (arI 6 tk) := by rw [eh2]; exact hAt_n (cNe rfl) k_g36_h1
  have k_g37_h2 : hAt h2 (g + 37) = some (ruC tu) := by rw [eh2]; exact hAt_n (cNe rfl) k_g37_h1
  have k_g98_h2 : hAt h2 (g + 98) = some (moC (g + 99) (g + 100) (g + 101) (g + 102) (g + 103) F2.2.1) := by rw [eh2]; exact hAt_same
  have k_g99_h2 : hAt h2 (g + 99) = some (arI 103 tn) := by rw [eh2]; exact hAt_n (cNe rfl) k_g99_h1
  have k_g100_h2 : hAt h2 (g + 100) = some (arI 103 tr_) := by rw [eh2]; exact hAt_n (cNe rfl) k_g100_h1
  have k_g101_h2 : hAt h2 (g + 101) = some (arI 103 ts) := by rw [eh2]; exact hAt_n (cNe rfl) k_g101_h1
  have k_g102_h2 : hAt h2 (g + 102) = some (arI 412 tp) := by rw [eh2]; exact hAt_n (cNe rfl) k_g102_h1
  have k_g103_h2 : hAt h2 (g + 103) = some (arI 240 tx) := by rw [eh2]; exact hAt_n (cNe rfl) k_g103_h1
  obtain ⟨h3, eh3⟩ : ∃ z, z = hSet h2 (g + 99) (arI 103 F2.2.2.1) := ⟨_, rfl⟩
  rw [← eh3]
  have k_g_h3 : hAt h3 g = some (gpC (g + 1) (g + 3) (g + 18) (g + 33) (g + 34) (g + 37) F1.2.1) := by rw [eh3]; exact hAt_n (cNeL rfl) k_g_h2
  have k_g1_h3 : hAt h3 (g + 1) = some (txC (g + 2) x) := by rw [eh3]; exact hAt_n (cNe rfl) k_g1_h2
  have k_g2_h3 : hAt h3 (g + 2) = some (arC 240 lf) := by rw [eh3]; exact hAt_n (cNe rfl) k_g2_h2
  have k_g3_h3 : nk h3 (g + 3) r t W F1.2.2.1 KF := by rw [eh3]; exact nk_fr1 (cOut rfl) k_g3_h2
  have k_g18_h3 : nk h3 (g + 18) dr dt DW DL DK := by rw [eh3]; exact nk_fr1 (cOut rfl) k_g18_h2
  have k_g33_h3 : hAt h3 (g + 33) = some (arR 2 4 (fun j => some ((g + 38) + 15 * j))) := by rw [eh3]; exact hAt_n (cNe rfl) k_g33_h2
  have k_g38_h3 : ek h3 (g + 38) F1.2.2.2.1 F1.2.2.2.2.1 F1.2.2.2.2.2.1 F1.2.2.2.2.2.2.1 F1.2.2.2.2.2.2.2 := by rw [eh3]; exact ek_fr1 (cOutE rfl) k_g38_h2
  have k_g34_h3 : hAt h3 (g + 34) = some (waC (g + 35) (g + 36) tw) := by rw [eh3]; exact hAt_n (cNe rfl) k_g34_h2
  have k_g35_h3 : hAt h3 (g + 35) = some (arI 6 tl) := by rw [eh3]; exact hAt_n (cNe rfl) k_g35_h2
  have k_g36_h3 : hAt h3 (g + 36) = some (arI 6 tk) := by rw [eh3]; exact hAt_n (cNe rfl) k_g36_h2
  have k_g37_h3 : hAt h3 (g + 37) = some (ruC tu) := by rw [eh3]; exact hAt_n (cNe rfl) k_g37_h2
  have k_g98_h3 : hAt h3 (g + 98) = some (moC (g + 99) (g + 100) (g + 101) (g + 102) (g + 103) F2.2.1) := by rw [eh3]; exact hAt_n (cNe rfl) k_g98_h2
  have k_g99_h3 : hAt h3 (g + 99) = some (arI 103 F2.2.2.1) := by rw [eh3]; exact hAt_same
  have k_g100_h3 : hAt h3 (g + 100) = some (arI 103 tr_) := by rw [eh3]; exact hAt_n (cNe rfl) k_g100_h2
  have k_g101_h3 : hAt h3 (g + 101) = some (arI 103 ts) := by rw [eh3]; exact hAt_n (cNe rfl) k_g101_h2
  have k_g102_h3 : hAt h3 (g + 102) = some (arI 412 tp) := by rw [eh3]; exact hAt_n (cNe rfl) k_g102_h2
  have k_g103_h3 : hAt h3 (g + 103) = some (arI 240 tx) := by rw [eh3]; exact hAt_n (cNe rfl) k_g103_h2
  obtain ⟨h4, eh4⟩ : ∃ z, z = hSet h3 (g + 102) (arI 412 F2.2.2.2) := ⟨_, rfl⟩
  rw [← eh4]
  have k_g_h4 : hAt h4 g = some (gpC (g + 1) (g + 3) (g + 18) (g + 33) (g + 34) (g + 37) F1.2.1) := by rw [eh4]; exact hAt_n (cNeL rfl) k_g_h3
  have k_g1_h4 : hAt h4 (g + 1) = some (txC (g + 2) x) := by rw [eh4]; exact hAt_n (cNe rfl) k_g1_h3
  have k_g2_h4 : hAt h4 (g + 2) = some (arC 240 lf) := by rw [eh4]; exact hAt_n (cNe rfl) k_g2_h3
  have k_g3_h4 : nk h4 (g + 3) r t W F1.2.2.1 KF := by rw [eh4]; exact nk_fr1 (cOut rfl) k_g3_h3
  have k_g18_h4 : nk h4 (g + 18) dr dt DW DL DK := by rw [eh4]; exact nk_fr1 (cOut rfl) k_g18_h3
  have k_g33_h4 : hAt h4 (g + 33) = some (arR 2 4 (fun j => some ((g + 38) + 15 * j))) := by rw [eh4]; exact hAt_n (cNe rfl) k_g33_h3
  have k_g38_h4 : ek h4 (g + 38) F1.2.2.2.1 F1.2.2.2.2.1 F1.2.2.2.2.2.1 F1.2.2.2.2.2.2.1 F1.2.2.2.2.2.2.2 := by rw [eh4]; exact ek_fr1 (cOutE rfl) k_g38_h3
  have k_g34_h4 : hAt h4 (g + 34) = some (waC (g + 35) (g + 36) tw) := by rw [eh4]; exact hAt_n (cNe rfl) k_g34_h3
  have k_g35_h4 : hAt h4 (g + 35) = some (arI 6 tl) := by rw [eh4]; exact hAt_n (cNe rfl) k_g35_h3
  have k_g36_h4 : hAt h4 (g + 36) = some (arI 6 tk) := by rw [eh4]; exact hAt_n (cNe rfl) k_g36_h3
  have k_g37_h4 : hAt h4 (g + 37) = some (ruC tu) := by rw [eh4]; exact hAt_n (cNe rfl) k_g37_h3
  have k_g98_h4 : hAt h4 (g + 98) = some (moC (g + 99) (g + 100) (g + 101) (g + 102) (g + 103) F2.2.1) := by rw [eh4]; exact hAt_n (cNe rfl) k_g98_h3
  have k_g99_h4 : hAt h4 (g + 99) = some (arI 103 F2.2.2.1) := by rw [eh4]; exact hAt_n (cNe rfl) k_g99_h3
  have k_g100_h4 : hAt h4 (g + 100) = some (arI 103 tr_) := by rw [eh4]; exact hAt_n (cNe rfl) k_g100_h3
  have k_g101_h4 : hAt h4 (g + 101) = some (arI 103 ts) := by rw [eh4]; exact hAt_n (cNe rfl) k_g101_h3
  have k_g102_h4 : hAt h4 (g + 102) = some (arI 412 F2.2.2.2) := by rw [eh4]; exact hAt_same
  have k_g103_h4 : hAt h4 (g + 103) = some (arI 240 tx) := by rw [eh4]; exact hAt_n (cNe rfl) k_g103_h3
  refine x_icmp_eq (pc := 288) (tgt := 735) dL_law_288 (by decide) (fun (c1 : F1.1 = F2.1) => ?_) (fun (c1 : ¬ (F1.1 = F2.1)) => ?_)
  · replace hp := hp.1 c1
    rw [if_pos c1] at er
    subst er
    exact kk h4 k_g_h4 k_g1_h4 k_g2_h4 k_g3_h4 k_g18_h4 k_g33_h4 k_g38_h4 k_g34_h4 k_g35_h4 k_g36_h4 k_g37_h4 k_g98_h4 k_g99_h4 k_g100_h4 k_g101_h4 k_g102_h4 k_g103_h4
  · replace hp := hp.2 c1
    rw [if_neg c1] at er
    refine x_iconst (pc := 291) (v := (0 : Int32)) dL_law_291 (by decide) ?_
    exact hp.elim

def f_law_kind (xs : (Nat → Int32)) (s : (Nat → Int32)) (x : (Nat → Int32)) (lf : (Nat → Int32)) (r : (Nat → Int32)) (t : (Nat → Int32)) (W : (Nat → Nat → Int32)) (LF : (Nat → Nat → Int32)) (KF : (Nat → Nat → Int32)) (dr : (Nat → Int32)) (dt : (Nat → Int32)) (DW : (Nat → Nat → Int32)) (DL : (Nat → Nat → Int32)) (DK : (Nat → Nat → Int32)) (ER : (Nat → Nat → Int32)) (ET : (Nat → Nat → Int32)) (EW : (Nat → Nat → Nat → Int32)) (EL : (Nat → Nat → Nat → Int32)) (EK : (Nat → Nat → Nat → Int32)) (tw : (Nat → Int32)) (tl : (Nat → Int32)) (tk : (Nat → Int32)) (tu : (Nat → Int32)) (m : (Nat → Int32)) (tn : (Nat → Int32)) (tr_ : (Nat → Int32)) (ts : (Nat → Int32)) (tp : (Nat → Int32)) (tx : (Nat → Int32)) (Ls : Nat) (v3 : Int32) : (Nat → Int32) × (Nat → Nat → Int32) × (Nat → Nat → Int32) × (Nat → Nat → Int32) × (Nat → Nat → Nat → Int32) × (Nat → Nat → Nat → Int32) × (Nat → Nat → Nat → Int32) × (Nat → Int32) × (Nat → Int32) × (Nat → Int32) := (if (f_X4_kind s r t W LF KF ER ET EW EL EK (xs ((v3 + (1 : Int32)).toNatClampNeg)) (xs ((v3 + (2 : Int32)).toNatClampNeg)) (xs ((v3 + (3 : Int32)).toNatClampNeg))).1 = (f_X5_kind m tn tp (xs ((v3 + (1 : Int32)).toNatClampNeg)) (xs ((v3 + (2 : Int32)).toNatClampNeg)) (xs ((v3 + (3 : Int32)).toNatClampNeg))).1 then ((f_X4_kind s r t W LF KF ER ET EW EL EK (xs ((v3 + (1 : Int32)).toNatClampNeg)) (xs ((v3 + (2 : Int32)).toNatClampNeg)) (xs ((v3 + (3 : Int32)).toNatClampNeg))).2.1, (f_X4_kind s r t W LF KF ER ET EW EL EK (xs ((v3 + (1 : Int32)).toNatClampNeg)) (xs ((v3 + (2 : Int32)).toNatClampNeg)) (xs ((v3 + (3 : Int32)).toNatClampNeg))).2.2.1, (f_X4_kind s r t W LF KF ER ET EW EL EK (xs ((v3 + (1 : Int32)).toNatClampNeg)) (xs ((v3 + (2 : Int32)).toNatClampNeg)) (xs ((v3 + (3 : Int32)).toNatClampNeg))).2.2.2.1, (f_X4_kind s r t W LF KF ER ET EW EL EK (xs ((v3 + (1 : Int32)).toNatClampNeg)) (xs ((v3 + (2 : Int32)).toNatClampNeg)) (xs ((v3 + (3 : Int32)).toNatClampNeg))).2.2.2.2.1, (f_X4_kind s r t W LF KF ER ET EW EL EK (xs ((v3 + (1 : Int32)).toNatClampNeg)) (xs ((v3 + (2 : Int32)).toNatClampNeg)) (xs ((v3 + (3 : Int32)).toNatClampNeg))).2.2.2.2.2.1, (f_X4_kind s r t W LF KF ER ET EW EL EK (xs ((v3 + (1 : Int32)).toNatClampNeg)) (xs ((v3 + (2 : Int32)).toNatClampNeg)) (xs ((v3 + (3 : Int32)).toNatClampNeg))).2.2.2.2.2.2.1, (f_X4_kind s r t W LF KF ER ET EW EL EK (xs ((v3 + (1 : Int32)).toNatClampNeg)) (xs ((v3 + (2 : Int32)).toNatClampNeg)) (xs ((v3 + (3 : Int32)).toNatClampNeg))).2.2.2.2.2.2.2, (f_X5_kind m tn tp (xs ((v3 + (1 : Int32)).toNatClampNeg)) (xs ((v3 + (2 : Int32)).toNatClampNeg)) (xs ((v3 + (3 : Int32)).toNatClampNeg))).2.1, (f_X5_kind m tn tp (xs ((v3 + (1 : Int32)).toNatClampNeg)) (xs ((v3 + (2 : Int32)).toNatClampNeg)) (xs ((v3 + (3 : Int32)).toNatClampNeg))).2.2.1, (f_X5_kind m tn tp (xs ((v3 + (1 : Int32)).toNatClampNeg)) (xs ((v3 + (2 : Int32)).toNatClampNeg)) (xs ((v3 + (3 : Int32)).toNatClampNeg))).2.2.2) else ((fun _ => 0), (fun _ _ => 0), (fun _ _ => 0), (fun _ _ => 0), (fun _ _ _ => 0), (fun _ _ _ => 0), (fun _ _ _ => 0), (fun _ => 0), (fun _ => 0), (fun _ => 0)))
def p_law_kind (xs : (Nat → Int32)) (s : (Nat → Int32)) (x : (Nat → Int32)) (lf : (Nat → Int32)) (r : (Nat → Int32)) (t : (Nat → Int32)) (W : (Nat → Nat → Int32)) (LF : (Nat → Nat → Int32)) (KF : (Nat → Nat → Int32)) (dr : (Nat → Int32)) (dt : (Nat → Int32)) (DW : (Nat → Nat → Int32)) (DL : (Nat → Nat → Int32)) (DK : (Nat → Nat → Int32)) (ER : (Nat → Nat → Int32)) (ET : (Nat → Nat → Int32)) (EW : (Nat → Nat → Nat → Int32)) (EL : (Nat → Nat → Nat → Int32)) (EK : (Nat → Nat → Nat → Int32)) (tw : (Nat → Int32)) (tl : (Nat → Int32)) (tk : (Nat → Int32)) (tu : (Nat → Int32)) (m : (Nat → Int32)) (tn : (Nat → Int32)) (tr_ : (Nat → Int32)) (ts : (Nat → Int32)) (tp : (Nat → Int32)) (tx : (Nat → Int32)) (Ls : Nat) (v3 : Int32) : Prop := (vp_in (v3 + (1 : Int32)) Ls ∧ (vp_in (v3 + (2 : Int32)) Ls ∧ (vp_in (v3 + (3 : Int32)) Ls ∧ (p_X4_kind s r t W LF KF ER ET EW EL EK (xs ((v3 + (1 : Int32)).toNatClampNeg)) (xs ((v3 + (2 : Int32)).toNatClampNeg)) (xs ((v3 + (3 : Int32)).toNatClampNeg)) ∧ (vp_in (v3 + (1 : Int32)) Ls ∧ (vp_in (v3 + (2 : Int32)) Ls ∧ (vp_in (v3 + (3 : Int32)) Ls ∧ (p_X5_kind m tn tp (xs ((v3 + (1 : Int32)).toNatClampNeg)) (xs ((v3 + (2 : Int32)).toNatClampNeg)) (xs ((v3 + (3 : Int32)).toNatClampNeg)) ∧ (((f_X4_kind s r t W LF KF ER ET EW EL EK (xs ((v3 + (1 : Int32)).toNatClampNeg)) (xs ((v3 + (2 : Int32)).toNatClampNeg)) (xs ((v3 + (3 : Int32)).toNatClampNeg))).1 = (f_X5_kind m tn tp (xs ((v3 + (1 : Int32)).toNatClampNeg)) (xs ((v3 + (2 : Int32)).toNatClampNeg)) (xs ((v3 + (3 : Int32)).toNatClampNeg))).1 → True) ∧ (¬ ((f_X4_kind s r t W LF KF ER ET EW EL EK (xs ((v3 + (1 : Int32)).toNatClampNeg)) (xs ((v3 + (2 : Int32)).toNatClampNeg)) (xs ((v3 + (3 : Int32)).toNatClampNeg))).1 = (f_X5_kind m tn tp (xs ((v3 + (1 : Int32)).toNatClampNeg)) (xs ((v3 + (2 : Int32)).toNatClampNeg)) (xs ((v3 + (3 : Int32)).toNatClampNeg))).1) → False))))))))))
set_option maxRecDepth 100000 in
set_option maxHeartbeats 4000000 in
theorem K_law_kind (G : xG) (h : xH) (nm : String) (g : Nat) (xs : (Nat → Int32)) (s : (Nat → Int32)) (x : (Nat → Int32)) (lf : (Nat → Int32)) (r : (Nat → Int32)) (t : (Nat → Int32)) (W : (Nat → Nat → Int32)) (LF : (Nat → Nat → Int32)) (KF : (Nat → Nat → Int32)) (dr : (Nat → Int32)) (dt : (Nat → Int32)) (DW : (Nat → Nat → Int32)) (DL : (Nat → Nat → Int32)) (DK : (Nat → Nat → Int32)) (ER : (Nat → Nat → Int32)) (ET : (Nat → Nat → Int32)) (EW : (Nat → Nat → Nat → Int32)) (EL : (Nat → Nat → Nat → Int32)) (EK : (Nat → Nat → Nat → Int32)) (tw : (Nat → Int32)) (tl : (Nat → Int32)) (tk : (Nat → Int32)) (tu : (Nat → Int32)) (m : (Nat → Int32)) (tn : (Nat → Int32)) (tr_ : (Nat → Int32)) (ts : (Nat → Int32)) (tp : (Nat → Int32)) (tx : (Nat → Int32)) (Ls : Nat) (v3 : Int32) (k_g : hAt h g = some (gpC (g + 1) (g + 3) (g + 18) (g + 33) (g + 34) (g + 37) s)) (k_g1 : hAt h (g + 1) = some (txC (g + 2) x)) (k_g2 : hAt h (g + 2) = some (arC 240 lf)) (k_g3 : nk h (g + 3) r t W LF KF) (k_g18 : nk h (g + 18) dr dt DW DL DK) (k_g33 : hAt h (g + 33) = some (arR 2 4 (fun j => some ((g + 38) + 15 * j)))) (k_g38 : ek h (g + 38) ER ET EW EL EK) (k_g34 : hAt h (g + 34) = some (waC (g + 35) (g + 36) tw)) (k_g35 : hAt h (g + 35) = some (arI 6 tl)) (k_g36 : hAt h (g + 36) = some (arI 6 tk)) (k_g37 : hAt h (g + 37) = some (ruC tu)) (k_g98 : hAt h (g + 98) = some (moC (g + 99) (g + 100) (g + 101) (g + 102) (g + 103) m)) (k_g99 : hAt h (g + 99) = some (arI 103 tn)) (k_g100 : hAt h (g + 100) = some (arI 103 tr_)) (k_g101 : hAt h (g + 101) = some (arI 103 ts)) (k_g102 : hAt h (g + 102) = some (arI 412 tp)) (k_g103 : hAt h (g + 103) = some (arI 240 tx)) (ex : xg_x G = xs) (eL : xg_L G = Ls) (hp : p_law_kind xs s x lf r t W LF KF dr dt DW DL DK ER ET EW EL EK tw tl tk tu m tn tr_ ts tp tx Ls v3) (kk : ∀ h2 : xH, hAt h2 g = some (gpC (g + 1) (g + 3) (g + 18) (g + 33) (g + 34) (g + 37) (f_law_kind xs s x lf r t W LF KF dr dt DW DL DK ER ET EW EL EK tw tl tk tu m tn tr_ ts tp tx Ls v3).1) → hAt h2 (g + 1) = some (txC (g + 2) x) → hAt h2 (g + 2) = some (arC 240 lf) → nk h2 (g + 3) r t W LF (f_law_kind xs s x lf r t W LF KF dr dt DW DL DK ER ET EW EL EK tw tl tk tu m tn tr_ ts tp tx Ls v3).2.1 → nk h2 (g + 18) dr dt DW DL DK → hAt h2 (g + 33) = some (arR 2 4 (fun j => some ((g + 38) + 15 * j))) → ek h2 (g + 38) (f_law_kind xs s x lf r t W LF KF dr dt DW DL DK ER ET EW EL EK tw tl tk tu m tn tr_ ts tp tx Ls v3).2.2.1 (f_law_kind xs s x lf r t W LF KF dr dt DW DL DK ER ET EW EL EK tw tl tk tu m tn tr_ ts tp tx Ls v3).2.2.2.1 (f_law_kind xs s x lf r t W LF KF dr dt DW DL DK ER ET EW EL EK tw tl tk tu m tn tr_ ts tp tx Ls v3).2.2.2.2.1 (f_law_kind xs s x lf r t W LF KF dr dt DW DL DK ER ET EW EL EK tw tl tk tu m tn tr_ ts tp tx Ls v3).2.2.2.2.2.1 (f_law_kind xs s x lf r t W LF KF dr dt DW DL DK ER ET EW EL EK tw tl tk tu m tn tr_ ts tp tx Ls v3).2.2.2.2.2.2.1 → hAt h2 (g + 34) = some (waC (g + 35) (g + 36) tw) → hAt h2 (g + 35) = some (arI 6 tl) → hAt h2 (g + 36) = some (arI 6 tk) → hAt h2 (g + 37) = some (ruC tu) → hAt h2 (g + 98) = some (moC (g + 99) (g + 100) (g + 101) (g + 102) (g + 103) (f_law_kind xs s x lf r t W LF KF dr dt DW DL DK ER ET EW EL EK tw tl tk tu m tn tr_ ts tp tx Ls v3).2.2.2.2.2.2.2.1) → hAt h2 (g + 99) = some (arI 103 (f_law_kind xs s x lf r t W LF KF dr dt DW DL DK ER ET EW EL EK tw tl tk tu m tn tr_ ts tp tx Ls v3).2.2.2.2.2.2.2.2.1) → hAt h2 (g + 100) = some (arI 103 tr_) → hAt h2 (g + 101) = some (arI 103 ts) → hAt h2 (g + 102) = some (arI 412 (f_law_kind xs s x lf r t W LF KF dr dt DW DL DK ER ET EW EL EK tw tl tk tu m tn tr_ ts tp tx Ls v3).2.2.2.2.2.2.2.2.2) → hAt h2 (g + 103) = some (arI 240 tx) → Wp G RL code 4 nm ret room_1 (lwZ G) 104 1984 735 [(3, .int v3), (2, .ref (g + 98)), (1, .ref g), (0, .ref (xg_b G))] [] h2) : Wp G RL code 4 nm ret room_1 (lwZ G) 104 1984 293 [(3, .int v3), (2, .ref (g + 98)), (1, .ref g), (0, .ref (xg_b G))] [] h := by
  obtain ⟨R, er⟩ : ∃ R, f_law_kind xs s x lf r t W LF KF dr dt DW DL DK ER ET EW EL EK tw tl tk tu m tn tr_ ts tp tx Ls v3 = R := ⟨_, rfl⟩
  rw [er] at kk
  unfold f_law_kind at er
  unfold p_law_kind at hp
  refine x_aload_n (pc := 293) dL_law_293 rfl ?_
  refine x_aload_n (pc := 294) dL_law_294 rfl ?_
  refine x_iload_n (pc := 295) dL_law_295 rfl ?_
  refine x_iconst (pc := 296) (v := (1 : Int32)) dL_law_296 (by decide) ?_
  refine x_iadd (pc := 297) dL_law_297 ?_
  obtain ⟨q298, hp⟩ := hp
  refine x_sldE (pc := 298) dL_law_298 ex eL q298 (j := ((v3 + (1 : Int32)).toNatClampNeg)) rfl ?_
  refine x_aload_n (pc := 299) dL_law_299 rfl ?_
  refine x_iload_n (pc := 300) dL_law_300 rfl ?_
  refine x_iconst (pc := 301) (v := (2 : Int32)) dL_law_301 (by decide) ?_
  refine x_iadd (pc := 302) dL_law_302 ?_
  obtain ⟨q303, hp⟩ := hp
  refine x_sldE (pc := 303) dL_law_303 ex eL q303 (j := ((v3 + (2 : Int32)).toNatClampNeg)) rfl ?_
  refine x_aload_n (pc := 304) dL_law_304 rfl ?_
  refine x_iload_n (pc := 305) dL_law_305 rfl ?_
  refine x_iconst (pc := 306) (v := (3 : Int32)) dL_law_306 (by decide) ?_
  refine x_iadd (pc := 307) dL_law_307 ?_
  obtain ⟨q308, hp⟩ := hp
  refine x_sldE (pc := 308) dL_law_308 ex eL q308 (j := ((v3 + (3 : Int32)).toNatClampNeg)) rfl ?_
  obtain ⟨q309, hp⟩ := hp
  refine x_cVQ (pc := 309) (As := [.int (xs ((v3 + (1 : Int32)).toNatClampNeg)), .int (xs ((v3 + (2 : Int32)).toNatClampNeg)), .int (xs ((v3 + (3 : Int32)).toNatClampNeg))]) (rest := []) dL_law_309 xl_L_45 xv_X4_kind k_g rfl rfl rfl rfl rfl rfl (C_X4_kind G _ g s r t W LF KF ER ET EW EL EK (xs ((v3 + (1 : Int32)).toNatClampNeg)) (xs ((v3 + (2 : Int32)).toNatClampNeg)) (xs ((v3 + (3 : Int32)).toNatClampNeg)) k_g k_g3 k_g33 k_g38 q309) (fun v h1 hq => ?_)
  obtain ⟨ev, z0_h1, z1_h1, z2_h1, g_h1⟩ := hq
  subst ev
  refine Wp.eqs (L' := [(3, .int v3), (2, .ref (g + 98)), (1, .ref g), (0, .ref (xg_b G))]) (st' := [.int (f_X4_kind s r t W LF KF ER ET EW EL EK (xs ((v3 + (1 : Int32)).toNatClampNeg)) (xs ((v3 + (2 : Int32)).toNatClampNeg)) (xs ((v3 + (3 : Int32)).toNatClampNeg))).1]) rfl rfl ?_
  obtain ⟨F1, eF1⟩ : ∃ F, f_X4_kind s r t W LF KF ER ET EW EL EK (xs ((v3 + (1 : Int32)).toNatClampNeg)) (xs ((v3 + (2 : Int32)).toNatClampNeg)) (xs ((v3 + (3 : Int32)).toNatClampNeg)) = F := ⟨_, rfl⟩
  try rw [eF1] at er
  try rw [eF1] at hp
  try rw [eF1]
  try rw [eF1] at z0_h1
  try rw [eF1] at z1_h1
  try rw [eF1] at z2_h1
  have k_g_h1 : hAt h1 g = some (gpC (g + 1) (g + 3) (g + 18) (g + 33) (g + 34) (g + 37) F1.2.1) := z0_h1
  have k_g1_h1 : hAt h1 (g + 1) = some (txC (g + 2) x) := (g_h1.2 (g + 1) (nt_X4_kind_1 g)).trans k_g1
  have k_g2_h1 : hAt h1 (g + 2) = some (arC 240 lf) := (g_h1.2 (g + 2) (nt_X4_kind_2 g)).trans k_g2
  have k_g3_h1 : nk h1 (g + 3) r t W LF F1.2.2.1 := z1_h1
  have k_g18_h1 : nk h1 (g + 18) dr dt DW DL DK := nk_fr (fun q u1 u2 => g_h1.2 q (nt_X4_kind_r18 g q u1 u2)) k_g18
  have k_g33_h1 : hAt h1 (g + 33) = some (arR 2 4 (fun j => some ((g + 38) + 15 * j))) := (g_h1.2 (g + 33) (nt_X4_kind_33 g)).trans k_g33
  have k_g38_h1 : ek h1 (g + 38) F1.2.2.2.1 F1.2.2.2.2.1 F1.2.2.2.2.2.1 F1.2.2.2.2.2.2.1 F1.2.2.2.2.2.2.2 := z2_h1
  have k_g34_h1 : hAt h1 (g + 34) = some (waC (g + 35) (g + 36) tw) := (g_h1.2 (g + 34) (nt_X4_kind_34 g)).trans k_g34
  have k_g35_h1 : hAt h1 (g + 35) = some (arI 6 tl) := (g_h1.2 (g + 35) (nt_X4_kind_35 g)).trans k_g35
  have k_g36_h1 : hAt h1 (g + 36) = some (arI 6 tk) := (g_h1.2 (g + 36) (nt_X4_kind_36 g)).trans k_g36
  have k_g37_h1 : hAt h1 (g + 37) = some (ruC tu) := (g_h1.2 (g + 37) (nt_X4_kind_37 g)).trans k_g37
  have k_g98_h1 : hAt h1 (g + 98) = some (moC (g + 99) (g + 100) (g + 101) (g + 102) (g + 103) m) := (g_h1.2 (g + 98) (nt_X4_kind_98 g)).trans k_g98
  have k_g99_h1 : hAt h1 (g + 99) = some (arI 103 tn) := (g_h1.2 (g + 99) (nt_X4_kind_99 g)).trans k_g99
  have k_g100_h1 : hAt h1 (g + 100) = some (arI 103 tr_) := (g_h1.2 (g + 100) (nt_X4_kind_100 g)).trans k_g100
  have k_g101_h1 : hAt h1 (g + 101) = some (arI 103 ts) := (g_h1.2 (g + 101) (nt_X4_kind_101 g)).trans k_g101
  have k_g102_h1 : hAt h1 (g + 102) = some (arI 412 tp) := (g_h1.2 (g + 102) (nt_X4_kind_102 g)).trans k_g102
  have k_g103_h1 : hAt h1 (g + 103) = some (arI 240 tx) := (g_h1.2 (g + 103) (nt_X4_kind_103 g)).trans k_g103
  refine x_aload_n (pc := 312) dL_law_312 rfl ?_
  refine x_aload_n (pc := 313) dL_law_313 rfl ?_
  refine x_iload_n (pc := 314) dL_law_314 rfl ?_
  refine x_iconst (pc := 315) (v := (1 : Int32)) dL_law_315 (by decide) ?_
  refine x_iadd (pc := 316) dL_law_316 ?_
  obtain ⟨q317, hp⟩ := hp
  refine x_sldE (pc := 317) dL_law_317 ex eL q317 (j := ((v3 + (1 : Int32)).toNatClampNeg)) rfl ?_
  refine x_aload_n (pc := 318) dL_law_318 rfl ?_
  refine x_iload_n (pc := 319) dL_law_319 rfl ?_
  refine x_iconst (pc := 320) (v := (2 : Int32)) dL_law_320 (by decide) ?_
  refine x_iadd (pc := 321) dL_law_321 ?_
  obtain ⟨q322, hp⟩ := hp
  refine x_sldE (pc := 322) dL_law_322 ex eL q322 (j := ((v3 + (2 : Int32)).toNatClampNeg)) rfl ?_
  refine x_aload_n (pc := 323) dL_law_323 rfl ?_
  refine x_iload_n (pc := 324) dL_law_324 rfl ?_
  refine x_iconst (pc := 325) (v := (3 : Int32)) dL_law_325 (by decide) ?_
  refine x_iadd (pc := 326) dL_law_326 ?_
  obtain ⟨q327, hp⟩ := hp
  refine x_sldE (pc := 327) dL_law_327 ex eL q327 (j := ((v3 + (3 : Int32)).toNatClampNeg)) rfl ?_
  obtain ⟨q328, hp⟩ := hp
  refine x_cV3i (pc := 328) dL_law_328 xl_L_48 xv_X5_kind k_g98_h1 rfl (C_X5_kind G _ (g + 98) (g + 99) (g + 100) (g + 101) (g + 102) (g + 103) m tn tp (xs ((v3 + (1 : Int32)).toNatClampNeg)) (xs ((v3 + (2 : Int32)).toNatClampNeg)) (xs ((v3 + (3 : Int32)).toNatClampNeg)) k_g98_h1 k_g99_h1 k_g102_h1 (cNe rfl) q328) rfl rfl rfl ?_
  obtain ⟨F2, eF2⟩ : ∃ F, f_X5_kind m tn tp (xs ((v3 + (1 : Int32)).toNatClampNeg)) (xs ((v3 + (2 : Int32)).toNatClampNeg)) (xs ((v3 + (3 : Int32)).toNatClampNeg)) = F := ⟨_, rfl⟩
  rw [eF2]
  try rw [eF2] at er
  try rw [eF2] at hp
  obtain ⟨h2, eh2⟩ : ∃ z, z = hSet h1 (g + 98) (moC (g + 99) (g + 100) (g + 101) (g + 102) (g + 103) F2.2.1) := ⟨_, rfl⟩
  rw [← eh2]
  have k_g_h2 : hAt h2 g = some (gpC (g + 1) (g + 3) (g + 18) (g + 33) (g + 34) (g + 37) F1.2.1) := by rw [eh2]; exact hAt_n (cNeL rfl) k_g_h1
  have k_g1_h2 : hAt h2 (g + 1) = some (txC (g + 2) x) := by rw [eh2]; exact hAt_n (cNe rfl) k_g1_h1
  have k_g2_h2 : hAt h2 (g + 2) = some (arC 240 lf) := by rw [eh2]; exact hAt_n (cNe rfl) k_g2_h1
  have k_g3_h2 : nk h2 (g + 3) r t W LF F1.2.2.1 := by rw [eh2]; exact nk_fr1 (cOut rfl) k_g3_h1
  have k_g18_h2 : nk h2 (g + 18) dr dt DW DL DK := by rw [eh2]; exact nk_fr1 (cOut rfl) k_g18_h1
  have k_g33_h2 : hAt h2 (g + 33) = some (arR 2 4 (fun j => some ((g + 38) + 15 * j))) := by rw [eh2]; exact hAt_n (cNe rfl) k_g33_h1
  have k_g38_h2 : ek h2 (g + 38) F1.2.2.2.1 F1.2.2.2.2.1 F1.2.2.2.2.2.1 F1.2.2.2.2.2.2.1 F1.2.2.2.2.2.2.2 := by rw [eh2]; exact ek_fr1 (cOutE rfl) k_g38_h1
  have k_g34_h2 : hAt h2 (g + 34) = some (waC (g + 35) (g + 36) tw) := by rw [eh2]; exact hAt_n (cNe rfl) k_g34_h1
  have k_g35_h2 : hAt h2 (g + 35) = some (arI 6 tl) := by rw [eh2]; exact hAt_n (cNe rfl) k_g35_h1
  have k_g36_h2 : hAt h2 (g + 36) = some (arI 6 tk) := by rw [eh2]; exact hAt_n (cNe rfl) k_g36_h1
  have k_g37_h2 : hAt h2 (g + 37) = some (ruC tu) := by rw [eh2]; exact hAt_n (cNe rfl) k_g37_h1
  have k_g98_h2 : hAt h2 (g + 98) = some (moC (g + 99) (g + 100) (g + 101) (g + 102) (g + 103) F2.2.1) := by rw [eh2]; exact hAt_same
  have k_g99_h2 : hAt h2 (g + 99) = some (arI 103 tn) := by rw [eh2]; exact hAt_n (cNe rfl) k_g99_h1
  have k_g100_h2 : hAt h2 (g + 100) = some (arI 103 tr_) := by rw [eh2]; exact hAt_n (cNe rfl) k_g100_h1
  have k_g101_h2 : hAt h2 (g + 101) = some (arI 103 ts) := by rw [eh2]; exact hAt_n (cNe rfl) k_g101_h1
  have k_g102_h2 : hAt h2 (g + 102) = some (arI 412 tp) := by rw [eh2]; exact hAt_n (cNe rfl) k_g102_h1
  have k_g103_h2 : hAt h2 (g + 103) = some (arI 240 tx) := by rw [eh2]; exact hAt_n (cNe rfl) k_g103_h1
  obtain ⟨h3, eh3⟩ : ∃ z, z = hSet h2 (g + 99) (arI 103 F2.2.2.1) := ⟨_, rfl⟩
  rw [← eh3]
  have k_g_h3 : hAt h3 g = some (gpC (g + 1) (g + 3) (g + 18) (g + 33) (g + 34) (g + 37) F1.2.1) := by rw [eh3]; exact hAt_n (cNeL rfl) k_g_h2
  have k_g1_h3 : hAt h3 (g + 1) = some (txC (g + 2) x) := by rw [eh3]; exact hAt_n (cNe rfl) k_g1_h2
  have k_g2_h3 : hAt h3 (g + 2) = some (arC 240 lf) := by rw [eh3]; exact hAt_n (cNe rfl) k_g2_h2
  have k_g3_h3 : nk h3 (g + 3) r t W LF F1.2.2.1 := by rw [eh3]; exact nk_fr1 (cOut rfl) k_g3_h2
  have k_g18_h3 : nk h3 (g + 18) dr dt DW DL DK := by rw [eh3]; exact nk_fr1 (cOut rfl) k_g18_h2
  have k_g33_h3 : hAt h3 (g + 33) = some (arR 2 4 (fun j => some ((g + 38) + 15 * j))) := by rw [eh3]; exact hAt_n (cNe rfl) k_g33_h2
  have k_g38_h3 : ek h3 (g + 38) F1.2.2.2.1 F1.2.2.2.2.1 F1.2.2.2.2.2.1 F1.2.2.2.2.2.2.1 F1.2.2.2.2.2.2.2 := by rw [eh3]; exact ek_fr1 (cOutE rfl) k_g38_h2
  have k_g34_h3 : hAt h3 (g + 34) = some (waC (g + 35) (g + 36) tw) := by rw [eh3]; exact hAt_n (cNe rfl) k_g34_h2
  have k_g35_h3 : hAt h3 (g + 35) = some (arI 6 tl) := by rw [eh3]; exact hAt_n (cNe rfl) k_g35_h2
  have k_g36_h3 : hAt h3 (g + 36) = some (arI 6 tk) := by rw [eh3]; exact hAt_n (cNe rfl) k_g36_h2
  have k_g37_h3 : hAt h3 (g + 37) = some (ruC tu) := by rw [eh3]; exact hAt_n (cNe rfl) k_g37_h2
  have k_g98_h3 : hAt h3 (g + 98) = some (moC (g + 99) (g + 100) (g + 101) (g + 102) (g + 103) F2.2.1) := by rw [eh3]; exact hAt_n (cNe rfl) k_g98_h2
  have k_g99_h3 : hAt h3 (g + 99) = some (arI 103 F2.2.2.1) := by rw [eh3]; exact hAt_same
  have k_g100_h3 : hAt h3 (g + 100) = some (arI 103 tr_) := by rw [eh3]; exact hAt_n (cNe rfl) k_g100_h2
  have k_g101_h3 : hAt h3 (g + 101) = some (arI 103 ts) := by rw [eh3]; exact hAt_n (cNe rfl) k_g101_h2
  have k_g102_h3 : hAt h3 (g + 102) = some (arI 412 tp) := by rw [eh3]; exact hAt_n (cNe rfl) k_g102_h2
  have k_g103_h3 : hAt h3 (g + 103) = some (arI 240 tx) := by rw [eh3]; exact hAt_n (cNe rfl) k_g103_h2
  obtain ⟨h4, eh4⟩ : ∃ z, z = hSet h3 (g + 102) (arI 412 F2.2.2.2) := ⟨_, rfl⟩
  rw [← eh4]
  have k_g_h4 : hAt h4 g = some (gpC (g + 1) (g + 3) (g + 18) (g + 33) (g + 34) (g + 37) F1.2.1) := by rw [eh4]; exact hAt_n (cNeL rfl) k_g_h3
  have k_g1_h4 : hAt h4 (g + 1) = some (txC (g + 2) x) := by rw [eh4]; exact hAt_n (cNe rfl) k_g1_h3
  have k_g2_h4 : hAt h4 (g + 2) = some (arC 240 lf) := by rw [eh4]; exact hAt_n (cNe rfl) k_g2_h3
  have k_g3_h4 : nk h4 (g + 3) r t W LF F1.2.2.1 := by rw [eh4]; exact nk_fr1 (cOut rfl) k_g3_h3
  have k_g18_h4 : nk h4 (g + 18) dr dt DW DL DK := by rw [eh4]; exact nk_fr1 (cOut rfl) k_g18_h3
  have k_g33_h4 : hAt h4 (g + 33) = some (arR 2 4 (fun j => some ((g + 38) + 15 * j))) := by rw [eh4]; exact hAt_n (cNe rfl) k_g33_h3
  have k_g38_h4 : ek h4 (g + 38) F1.2.2.2.1 F1.2.2.2.2.1 F1.2.2.2.2.2.1 F1.2.2.2.2.2.2.1 F1.2.2.2.2.2.2.2 := by rw [eh4]; exact ek_fr1 (cOutE rfl) k_g38_h3
  have k_g34_h4 : hAt h4 (g + 34) = some (waC (g + 35) (g + 36) tw) := by rw [eh4]; exact hAt_n (cNe rfl) k_g34_h3
  have k_g35_h4 : hAt h4 (g + 35) = some (arI 6 tl) := by rw [eh4]; exact hAt_n (cNe rfl) k_g35_h3
  have k_g36_h4 : hAt h4 (g + 36) = some (arI 6 tk) := by rw [eh4]; exact hAt_n (cNe rfl) k_g36_h3
  have k_g37_h4 : hAt h4 (g + 37) = some (ruC tu) := by rw [eh4]; exact hAt_n (cNe rfl) k_g37_h3
  have k_g98_h4 : hAt h4 (g + 98) = some (moC (g + 99) (g + 100) (g + 101) (g + 102) (g + 103) F2.2.1) := by rw [eh4]; exact hAt_n (cNe rfl) k_g98_h3
  have k_g99_h4 : hAt h4 (g + 99) = some (arI 103 F2.2.2.1) := by rw [eh4]; exact hAt_n (cNe rfl) k_g99_h3
  have k_g100_h4 : hAt h4 (g + 100) = some (arI 103 tr_) := by rw [eh4]; exact hAt_n (cNe rfl) k_g100_h3
  have k_g101_h4 : hAt h4 (g + 101) = some (arI 103 ts) := by rw [eh4]; exact hAt_n (cNe rfl) k_g101_h3
  have k_g102_h4 : hAt h4 (g + 102) = some (arI 412 F2.2.2.2) := by rw [eh4]; exact hAt_same
  have k_g103_h4 : hAt h4 (g + 103) = some (arI 240 tx) := by rw [eh4]; exact hAt_n (cNe rfl) k_g103_h3
  refine x_icmp_eq (pc := 331) (tgt := 735) dL_law_331 (by decide) (fun (c1 : F1.1 = F2.1) => ?_) (fun (c1 : ¬ (F1.1 = F2.1)) => ?_)
  · replace hp := hp.1 c1
    rw [if_pos c1] at er
    subst er
    exact kk h4 k_g_h4 k_g1_h4 k_g2_h4 k_g3_h4 k_g18_h4 k_g33_h4 k_g38_h4 k_g34_h4 k_g35_h4 k_g36_h4 k_g37_h4 k_g98_h4 k_g99_h4 k_g100_h4 k_g101_h4 k_g102_h4 k_g103_h4
  · replace hp := hp.2 c1
    rw [if_neg c1] at er
    refine x_iconst (pc := 334) (v := (0 : Int32)) dL_law_334 (by decide) ?_
    exact hp.elim

def f_law_loss (xs : (Nat → Int32)) (s : (Nat → Int32)) (x : (Nat → Int32)) (lf : (Nat → Int32)) (r : (Nat → Int32)) (t : (Nat → Int32)) (W : (Nat → Nat → Int32)) (LF : (Nat → Nat → Int32)) (KF : (Nat → Nat → Int32)) (dr : (Nat → Int32)) (dt : (Nat → Int32)) (DW : (Nat → Nat → Int32)) (DL : (Nat → Nat → Int32)) (DK : (Nat → Nat → Int32)) (ER : (Nat → Nat → Int32)) (ET : (Nat → Nat → Int32)) (EW : (Nat → Nat → Nat → Int32)) (EL : (Nat → Nat → Nat → Int32)) (EK : (Nat → Nat → Nat → Int32)) (tw : (Nat → Int32)) (tl : (Nat → Int32)) (tk : (Nat → Int32)) (tu : (Nat → Int32)) (m : (Nat → Int32)) (tn : (Nat → Int32)) (tr_ : (Nat → Int32)) (ts : (Nat → Int32)) (tp : (Nat → Int32)) (tx : (Nat → Int32)) (Ls : Nat) (v3 : Int32) : (Nat → Int32) × (Nat → Nat → Int32) × (Nat → Nat → Int32) × (Nat → Nat → Int32) × (Nat → Nat → Nat → Int32) × (Nat → Nat → Nat → Int32) × (Nat → Nat → Nat → Int32) × (Nat → Int32) × (Nat → Int32) × (Nat → Int32) := (if (f_X4_loss s r t W LF KF ER ET EW EL EK (xs ((v3 + (1 : Int32)).toNatClampNeg)) (xs ((v3 + (2 : Int32)).toNatClampNeg))).1 = (f_X5_loss m tn tp (xs ((v3 + (1 : Int32)).toNatClampNeg)) (xs ((v3 + (2 : Int32)).toNatClampNeg))).1 then ((f_X4_loss s r t W LF KF ER ET EW EL EK (xs ((v3 + (1 : Int32)).toNatClampNeg)) (xs ((v3 + (2 : Int32)).toNatClampNeg))).2.1, (f_X4_loss s r t W LF KF ER ET EW EL EK (xs ((v3 + (1 : Int32)).toNatClampNeg)) (xs ((v3 + (2 : Int32)).toNatClampNeg))).2.2.1, (f_X4_loss s r t W LF KF ER ET EW EL EK (xs ((v3 + (1 : Int32)).toNatClampNeg)) (xs ((v3 + (2 : Int32)).toNatClampNeg))).2.2.2.1, (f_X4_loss s r t W LF KF ER ET EW EL EK (xs ((v3 + (1 : Int32)).toNatClampNeg)) (xs ((v3 + (2 : Int32)).toNatClampNeg))).2.2.2.2.1, (f_X4_loss s r t W LF KF ER ET EW EL EK (xs ((v3 + (1 : Int32)).toNatClampNeg)) (xs ((v3 + (2 : Int32)).toNatClampNeg))).2.2.2.2.2.1, (f_X4_loss s r t W LF KF ER ET EW EL EK (xs ((v3 + (1 : Int32)).toNatClampNeg)) (xs ((v3 + (2 : Int32)).toNatClampNeg))).2.2.2.2.2.2.1, (f_X4_loss s r t W LF KF ER ET EW EL EK (xs ((v3 + (1 : Int32)).toNatClampNeg)) (xs ((v3 + (2 : Int32)).toNatClampNeg))).2.2.2.2.2.2.2, (f_X5_loss m tn tp (xs ((v3 + (1 : Int32)).toNatClampNeg)) (xs ((v3 + (2 : Int32)).toNatClampNeg))).2.1, (f_X5_loss m tn tp (xs ((v3 + (1 : Int32)).toNatClampNeg)) (xs ((v3 + (2 : Int32)).toNatClampNeg))).2.2.1, (f_X5_loss m tn tp (xs ((v3 + (1 : Int32)).toNatClampNeg)) (xs ((v3 + (2 : Int32)).toNatClampNeg))).2.2.2) else ((fun _ => 0), (fun _ _ => 0), (fun _ _ => 0), (fun _ _ => 0), (fun _ _ _ => 0), (fun _ _ _ => 0), (fun _ _ _ => 0), (fun _ => 0), (fun _ => 0), (fun _ => 0)))
def p_law_loss (xs : (Nat → Int32)) (s : (Nat → Int32)) (x : (Nat → Int32)) (lf : (Nat → Int32)) (r : (Nat → Int32)) (t : (Nat → Int32)) (W : (Nat → Nat → Int32)) (LF : (Nat → Nat → Int32)) (KF : (Nat → Nat → Int32)) (dr : (Nat → Int32)) (dt : (Nat → Int32)) (DW : (Nat → Nat → Int32)) (DL : (Nat → Nat → Int32)) (DK : (Nat → Nat → Int32)) (ER : (Nat → Nat → Int32)) (ET : (Nat → Nat → Int32)) (EW : (Nat → Nat → Nat → Int32)) (EL : (Nat → Nat → Nat → Int32)) (EK : (Nat → Nat → Nat → Int32)) (tw : (Nat → Int32)) (tl : (Nat → Int32)) (tk : (Nat → Int32)) (tu : (Nat → Int32)) (m : (Nat → Int32)) (tn : (Nat → Int32)) (tr_ : (Nat → Int32)) (ts : (Nat → Int32)) (tp : (Nat → Int32)) (tx : (Nat → Int32)) (Ls : Nat) (v3 : Int32) : Prop := (vp_in (v3 + (1 : Int32)) Ls ∧ (vp_in (v3 + (2 : Int32)) Ls ∧ (p_X4_loss s r t W LF KF ER ET EW EL EK (xs ((v3 + (1 : Int32)).toNatClampNeg)) (xs ((v3 + (2 : Int32)).toNatClampNeg)) ∧ (vp_in (v3 + (1 : Int32)) Ls ∧ (vp_in (v3 + (2 : Int32)) Ls ∧ (p_X5_loss m tn tp (xs ((v3 + (1 : Int32)).toNatClampNeg)) (xs ((v3 + (2 : Int32)).toNatClampNeg)) ∧ (((f_X4_loss s r t W LF KF ER ET EW EL EK (xs ((v3 + (1 : Int32)).toNatClampNeg)) (xs ((v3 + (2 : Int32)).toNatClampNeg))).1 = (f_X5_loss m tn tp (xs ((v3 + (1 : Int32)).toNatClampNeg)) (xs ((v3 + (2 : Int32)).toNatClampNeg))).1 → True) ∧ (¬ ((f_X4_loss s r t W LF KF ER ET EW EL EK (xs ((v3 + (1 : Int32)).toNatClampNeg)) (xs ((v3 + (2 : Int32)).toNatClampNeg))).1 = (f_X5_loss m tn tp (xs ((v3 + (1 : Int32)).toNatClampNeg)) (xs ((v3 + (2 : Int32)).toNatClampNeg))).1) → False))))))))
set_option maxRecDepth 100000 in
set_option maxHeartbeats 4000000 in
theorem K_law_loss (G : xG) (h : xH) (nm : String) (g : Nat) (xs : (Nat → Int32)) (s : (Nat → Int32)) (x : (Nat → Int32)) (lf : (Nat → Int32)) (r : (Nat → Int32)) (t : (Nat → Int32)) (W : (Nat → Nat → Int32)) (LF : (Nat → Nat → Int32)) (KF : (Nat → Nat → Int32)) (dr : (Nat → Int32)) (dt : (Nat → Int32)) (DW : (Nat → Nat → Int32)) (DL : (Nat → Nat → Int32)) (DK : (Nat → Nat → Int32)) (ER : (Nat → Nat → Int32)) (ET : (Nat → Nat → Int32)) (EW : (Nat → Nat → Nat → Int32)) (EL : (Nat → Nat → Nat → Int32)) (EK : (Nat → Nat → Nat → Int32)) (tw : (Nat → Int32)) (tl : (Nat → Int32)) (tk : (Nat → Int32)) (tu : (Nat → Int32)) (m : (Nat → Int32)) (tn : (Nat → Int32)) (tr_ : (Nat → Int32)) (ts : (Nat → Int32)) (tp : (Nat → Int32)) (tx : (Nat → Int32)) (Ls : Nat) (v3 : Int32) (k_g : hAt h g = some (gpC (g + 1) (g + 3) (g + 18) (g + 33) (g + 34) (g + 37) s)) (k_g1 : hAt h (g + 1) = some (txC (g + 2) x)) (k_g2 : hAt h (g + 2) = some (arC 240 lf)) (k_g3 : nk h (g + 3) r t W LF KF) (k_g18 : nk h (g + 18) dr dt DW DL DK) (k_g33 : hAt h (g + 33) = some (arR 2 4 (fun j => some ((g + 38) + 15 * j)))) (k_g38 : ek h (g + 38) ER ET EW EL EK) (k_g34 : hAt h (g + 34) = some (waC (g + 35) (g + 36) tw)) (k_g35 : hAt h (g + 35) = some (arI 6 tl)) (k_g36 : hAt h (g + 36) = some (arI 6 tk)) (k_g37 : hAt h (g + 37) = some (ruC tu)) (k_g98 : hAt h (g + 98) = some (moC (g + 99) (g + 100) (g + 101) (g + 102) (g + 103) m)) (k_g99 : hAt h (g + 99) = some (arI 103 tn)) (k_g100 : hAt h (g + 100) = some (arI 103 tr_)) (k_g101 : hAt h (g + 101) = some (arI 103 ts)) (k_g102 : hAt h (g + 102) = some (arI 412 tp)) (k_g103 : hAt h (g + 103) = some (arI 240 tx)) (ex : xg_x G = xs) (eL : xg_L G = Ls) (hp : p_law_loss xs s x lf r t W LF KF dr dt DW DL DK ER ET EW EL EK tw tl tk tu m tn tr_ ts tp tx Ls v3) (kk : ∀ h2 : xH, hAt h2 g = some (gpC (g + 1) (g + 3) (g + 18) (g + 33) (g + 34) (g + 37) (f_law_loss xs s x lf r t W LF KF dr dt DW DL DK ER ET EW EL EK tw tl tk tu m tn tr_ ts tp tx Ls v3).1) → hAt h2 (g + 1) = some (txC (g + 2) x) → hAt h2 (g + 2) = some (arC 240 lf) → nk h2 (g + 3) r t (f_law_loss xs s x lf r t W LF KF dr dt DW DL DK ER ET EW EL EK tw tl tk tu m tn tr_ ts tp tx Ls v3).2.1 LF KF → nk h2 (g + 18) dr dt DW DL DK → hAt h2 (g + 33) = some (arR 2 4 (fun j => some ((g + 38) + 15 * j))) → ek h2 (g + 38) (f_law_loss xs s x lf r t W LF KF dr dt DW DL DK ER ET EW EL EK tw tl tk tu m tn tr_ ts tp tx Ls v3).2.2.1 (f_law_loss xs s x lf r t W LF KF dr dt DW DL DK ER ET EW EL EK tw tl tk tu m tn tr_ ts tp tx Ls v3).2.2.2.1 (f_law_loss xs s x lf r t W LF KF dr dt DW DL DK ER ET EW EL EK tw tl tk tu m tn tr_ ts tp tx Ls v3).2.2.2.2.1 (f_law_loss xs s x lf r t W LF KF dr dt DW DL DK ER ET EW EL EK tw tl tk tu m tn tr_ ts tp tx Ls v3).2.2.2.2.2.1 (f_law_loss xs s x lf r t W LF KF dr dt DW DL DK ER ET EW EL EK tw tl tk tu m tn tr_ ts tp tx Ls v3).2.2.2.2.2.2.1 → hAt h2 (g + 34) = some (waC (g + 35) (g + 36) tw) → hAt h2 (g + 35) = some (arI 6 tl) → hAt h2 (g + 36) = some (arI 6 tk) → hAt h2 (g + 37) = some (ruC tu) → hAt h2 (g + 98) = some (moC (g + 99) (g + 100) (g + 101) (g + 102) (g + 103) (f_law_loss xs s x lf r t W LF KF dr dt DW DL DK ER ET EW EL EK tw tl tk tu m tn tr_ ts tp tx Ls v3).2.2.2.2.2.2.2.1) → hAt h2 (g + 99) = some (arI 103 (f_law_loss xs s x lf r t W LF KF dr dt DW DL DK ER ET EW EL EK tw tl tk tu m tn tr_ ts tp tx Ls v3).2.2.2.2.2.2.2.2.1) → hAt h2 (g + 100) = some (arI 103 tr_) → hAt h2 (g + 101) = some (arI 103 ts) → hAt h2 (g + 102) = some (arI 412 (f_law_loss xs s x lf r t W LF KF dr dt DW DL DK ER ET EW EL EK tw tl tk tu m tn tr_ ts tp tx Ls v3).2.2.2.2.2.2.2.2.2) → hAt h2 (g + 103) = some (arI 240 tx) → Wp G RL code 4 nm ret room_1 (lwZ G) 104 1984 735 [(3, .int v3), (2, .ref (g + 98)), (1, .ref g), (0, .ref (xg_b G))] [] h2) : Wp G RL code 4 nm ret room_1 (lwZ G) 104 1984 336 [(3, .int v3), (2, .ref (g + 98)), (1, .ref g), (0, .ref (xg_b G))] [] h := by
  obtain ⟨R, er⟩ : ∃ R, f_law_loss xs s x lf r t W LF KF dr dt DW DL DK ER ET EW EL EK tw tl tk tu m tn tr_ ts tp tx Ls v3 = R := ⟨_, rfl⟩
  rw [er] at kk
  unfold f_law_loss at er
  unfold p_law_loss at hp
  refine x_aload_n (pc := 336) dL_law_336 rfl ?_
  refine x_aload_n (pc := 337) dL_law_337 rfl ?_
  refine x_iload_n (pc := 338) dL_law_338 rfl ?_
  refine x_iconst (pc := 339) (v := (1 : Int32)) dL_law_339 (by decide) ?_
  refine x_iadd (pc := 340) dL_law_340 ?_
  obtain ⟨q341, hp⟩ := hp
  refine x_sldE (pc := 341) dL_law_341 ex eL q341 (j := ((v3 + (1 : Int32)).toNatClampNeg)) rfl ?_
  refine x_aload_n (pc := 342) dL_law_342 rfl ?_
  refine x_iload_n (pc := 343) dL_law_343 rfl ?_
  refine x_iconst (pc := 344) (v := (2 : Int32)) dL_law_344 (by decide) ?_
  refine x_iadd (pc := 345) dL_law_345 ?_
  obtain ⟨q346, hp⟩ := hp
  refine x_sldE (pc := 346) dL_law_346 ex eL q346 (j := ((v3 + (2 : Int32)).toNatClampNeg)) rfl ?_
  obtain ⟨q347, hp⟩ := hp
  refine x_cVQ (pc := 347) (As := [.int (xs ((v3 + (1 : Int32)).toNatClampNeg)), .int (xs ((v3 + (2 : Int32)).toNatClampNeg))]) (rest := []) dL_law_347 xl_L_49 xv_X4_loss k_g rfl rfl rfl rfl rfl rfl (C_X4_loss G _ g s r t W LF KF ER ET EW EL EK (xs ((v3 + (1 : Int32)).toNatClampNeg)) (xs ((v3 + (2 : Int32)).toNatClampNeg)) k_g k_g3 k_g33 k_g38 q347) (fun v h1 hq => ?_)
  obtain ⟨ev, z0_h1, z1_h1, z2_h1, g_h1⟩ := hq
  subst ev
  refine Wp.eqs (L' := [(3, .int v3), (2, .ref (g + 98)), (1, .ref g), (0, .ref (xg_b G))]) (st' := [.int (f_X4_loss s r t W LF KF ER ET EW EL EK (xs ((v3 + (1 : Int32)).toNatClampNeg)) (xs ((v3 + (2 : Int32)).toNatClampNeg))).1]) rfl rfl ?_
  obtain ⟨F1, eF1⟩ : ∃ F, f_X4_loss s r t W LF KF ER ET EW EL EK (xs ((v3 + (1 : Int32)).toNatClampNeg)) (xs ((v3 + (2 : Int32)).toNatClampNeg)) = F := ⟨_, rfl⟩
  try rw [eF1] at er
  try rw [eF1] at hp
  try rw [eF1]
  try rw [eF1] at z0_h1
  try rw [eF1] at z1_h1
  try rw [eF1] at z2_h1
  have k_g_h1 : hAt h1 g = some (gpC (g + 1) (g + 3) (g + 18) (g + 33) (g + 34) (g + 37) F1.2.1) := z0_h1
  have k_g1_h1 : hAt h1 (g + 1) = some (txC (g + 2) x) := (g_h1.2 (g + 1) (nt_X4_loss_1 g)).trans k_g1
  have k_g2_h1 : hAt h1 (g + 2) = some (arC 240 lf) := (g_h1.2 (g + 2) (nt_X4_loss_2 g)).trans k_g2
  have k_g3_h1 : nk h1 (g + 3) r t F1.2.2.1 LF KF := z1_h1
  have k_g18_h1 : nk h1 (g + 18) dr dt DW DL DK := nk_fr (fun q u1 u2 => g_h1.2 q (nt_X4_loss_r18 g q u1 u2)) k_g18
  have k_g33_h1 : hAt h1 (g + 33) = some (arR 2 4 (fun j => some ((g + 38) + 15 * j))) := (g_h1.2 (g + 33) (nt_X4_loss_33 g)).trans k_g33
  have k_g38_h1 : ek h1 (g + 38) F1.2.2.2.1 F1.2.2.2.2.1 F1.2.2.2.2.2.1 F1.2.2.2.2.2.2.1 F1.2.2.2.2.2.2.2 := z2_h1
  have k_g34_h1 : hAt h1 (g + 34) = some (waC (g + 35) (g + 36) tw) := (g_h1.2 (g + 34) (nt_X4_loss_34 g)).trans k_g34
  have k_g35_h1 : hAt h1 (g + 35) = some (arI 6 tl) := (g_h1.2 (g + 35) (nt_X4_loss_35 g)).trans k_g35
  have k_g36_h1 : hAt h1 (g + 36) = some (arI 6 tk) := (g_h1.2 (g + 36) (nt_X4_loss_36 g)).trans k_g36
  have k_g37_h1 : hAt h1 (g + 37) = some (ruC tu) := (g_h1.2 (g + 37) (nt_X4_loss_37 g)).trans k_g37
  have k_g98_h1 : hAt h1 (g + 98) = some (moC (g + 99) (g + 100) (g + 101) (g + 102) (g + 103) m) := (g_h1.2 (g + 98) (nt_X4_loss_98 g)).trans k_g98
  have k_g99_h1 : hAt h1 (g + 99) = some (arI 103 tn) := (g_h1.2 (g + 99) (nt_X4_loss_99 g)).trans k_g99
  have k_g100_h1 : hAt h1 (g + 100) = some (arI 103 tr_) := (g_h1.2 (g + 100) (nt_X4_loss_100 g)).trans k_g100
  have k_g101_h1 : hAt h1 (g + 101) = some (arI 103 ts) := (g_h1.2 (g + 101) (nt_X4_loss_101 g)).trans k_g101
  have k_g102_h1 : hAt h1 (g + 102) = some (arI 412 tp) := (g_h1.2 (g + 102) (nt_X4_loss_102 g)).trans k_g102
  have k_g103_h1 : hAt h1 (g + 103) = some (arI 240 tx) := (g_h1.2 (g + 103) (nt_X4_loss_103 g)).trans k_g103
  refine x_aload_n (pc := 350) dL_law_350 rfl ?_
  refine x_aload_n (pc := 351) dL_law_351 rfl ?_
  refine x_iload_n (pc := 352) dL_law_352 rfl ?_
  refine x_iconst (pc := 353) (v := (1 : Int32)) dL_law_353 (by decide) ?_
  refine x_iadd (pc := 354) dL_law_354 ?_
  obtain ⟨q355, hp⟩ := hp
  refine x_sldE (pc := 355) dL_law_355 ex eL q355 (j := ((v3 + (1 : Int32)).toNatClampNeg)) rfl ?_
  refine x_aload_n (pc := 356) dL_law_356 rfl ?_
  refine x_iload_n (pc := 357) dL_law_357 rfl ?_
  refine x_iconst (pc := 358) (v := (2 : Int32)) dL_law_358 (by decide) ?_
  refine x_iadd (pc := 359) dL_law_359 ?_
  obtain ⟨q360, hp⟩ := hp
  refine x_sldE (pc := 360) dL_law_360 ex eL q360 (j := ((v3 + (2 : Int32)).toNatClampNeg)) rfl ?_
  obtain ⟨q361, hp⟩ := hp
  refine x_cV2i (pc := 361) dL_law_361 xl_L_52 xv_X5_loss k_g98_h1 rfl (C_X5_loss G _ (g + 98) (g + 99) (g + 100) (g + 101) (g + 102) (g + 103) m tn tp (xs ((v3 + (1 : Int32)).toNatClampNeg)) (xs ((v3 + (2 : Int32)).toNatClampNeg)) k_g98_h1 k_g99_h1 k_g102_h1 (cNe rfl) q361) rfl rfl rfl ?_
  obtain ⟨F2, eF2⟩ : ∃ F, f_X5_loss m tn tp (xs ((v3 + (1 : Int32)).toNatClampNeg)) (xs ((v3 + (2 : Int32)).toNatClampNeg)) = F := ⟨_, rfl⟩
  rw [eF2]
  try rw [eF2] at er
  try rw [eF2] at hp
  obtain ⟨h2, eh2⟩ : ∃ z, z = hSet h1 (g + 98) (moC (g + 99) (g + 100) (g + 101) (g + 102) (g + 103) F2.2.1) := ⟨_, rfl⟩
  rw [← eh2]
  have k_g_h2 : hAt h2 g = some (gpC (g + 1) (g + 3) (g + 18) (g + 33) (g + 34) (g + 37) F1.2.1) := by rw [eh2]; exact hAt_n (cNeL rfl) k_g_h1
  have k_g1_h2 : hAt h2 (g + 1) = some (txC (g + 2) x) := by rw [eh2]; exact hAt_n (cNe rfl) k_g1_h1
  have k_g2_h2 : hAt h2 (g + 2) = some (arC 240 lf) := by rw [eh2]; exact hAt_n (cNe rfl) k_g2_h1
  have k_g3_h2 : nk h2 (g + 3) r t F1.2.2.1 LF KF := by rw [eh2]; exact nk_fr1 (cOut rfl) k_g3_h1
  have k_g18_h2 : nk h2 (g + 18) dr dt DW DL DK := by rw [eh2]; exact nk_fr1 (cOut rfl) k_g18_h1
  have k_g33_h2 : hAt h2 (g + 33) = some (arR 2 4 (fun j => some ((g + 38) + 15 * j))) := by rw [eh2]; exact hAt_n (cNe rfl) k_g33_h1
  have k_g38_h2 : ek h2 (g + 38) F1.2.2.2.1 F1.2.2.2.2.1 F1.2.2.2.2.2.1 F1.2.2.2.2.2.2.1 F1.2.2.2.2.2.2.2 := by rw [eh2]; exact ek_fr1 (cOutE rfl) k_g38_h1
  have k_g34_h2 : hAt h2 (g + 34) = some (waC (g + 35) (g + 36) tw) := by rw [eh2]; exact hAt_n (cNe rfl) k_g34_h1
  have k_g35_h2 : hAt h2 (g + 35) = some (arI 6 tl) := by rw [eh2]; exact hAt_n (cNe rfl) k_g35_h1
  have k_g36_h2 : hAt h2 (g + 36) = some (arI 6 tk) := by rw [eh2]; exact hAt_n (cNe rfl) k_g36_h1
  have k_g37_h2 : hAt h2 (g + 37) = some (ruC tu) := by rw [eh2]; exact hAt_n (cNe rfl) k_g37_h1
  have k_g98_h2 : hAt h2 (g + 98) = some (moC (g + 99) (g + 100) (g + 101) (g + 102) (g + 103) F2.2.1) := by rw [eh2]; exact hAt_same
  have k_g99_h2 : hAt h2 (g + 99) = some (arI 103 tn) := by rw [eh2]; exact hAt_n (cNe rfl) k_g99_h1
  have k_g100_h2 : hAt h2 (g + 100) = some (arI 103 tr_) := by rw [eh2]; exact hAt_n (cNe rfl) k_g100_h1
  have k_g101_h2 : hAt h2 (g + 101) = some (arI 103 ts) := by rw [eh2]; exact hAt_n (cNe rfl) k_g101_h1
  have k_g102_h2 : hAt h2 (g + 102) = some (arI 412 tp) := by rw [eh2]; exact hAt_n (cNe rfl) k_g102_h1
  have k_g103_h2 : hAt h2 (g + 103) = some (arI 240 tx) := by rw [eh2]; exact hAt_n (cNe rfl) k_g103_h1
  obtain ⟨h3, eh3⟩ : ∃ z, z = hSet h2 (g + 99) (arI 103 F2.2.2.1) := ⟨_, rfl⟩
  rw [← eh3]
  have k_g_h3 : hAt h3 g = some (gpC (g + 1) (g + 3) (g + 18) (g + 33) (g + 34) (g + 37) F1.2.1) := by rw [eh3]; exact hAt_n (cNeL rfl) k_g_h2
  have k_g1_h3 : hAt h3 (g + 1) = some (txC (g + 2) x) := by rw [eh3]; exact hAt_n (cNe rfl) k_g1_h2
  have k_g2_h3 : hAt h3 (g + 2) = some (arC 240 lf) := by rw [eh3]; exact hAt_n (cNe rfl) k_g2_h2
  have k_g3_h3 : nk h3 (g + 3) r t F1.2.2.1 LF KF := by rw [eh3]; exact nk_fr1 (cOut rfl) k_g3_h2
  have k_g18_h3 : nk h3 (g + 18) dr dt DW DL DK := by rw [eh3]; exact nk_fr1 (cOut rfl) k_g18_h2
  have k_g33_h3 : hAt h3 (g + 33) = some (arR 2 4 (fun j => some ((g + 38) + 15 * j))) := by rw [eh3]; exact hAt_n (cNe rfl) k_g33_h2
  have k_g38_h3 : ek h3 (g + 38) F1.2.2.2.1 F1.2.2.2.2.1 F1.2.2.2.2.2.1 F1.2.2.2.2.2.2.1 F1.2.2.2.2.2.2.2 := by rw [eh3]; exact ek_fr1 (cOutE rfl) k_g38_h2
  have k_g34_h3 : hAt h3 (g + 34) = some (waC (g + 35) (g + 36) tw) := by rw [eh3]; exact hAt_n (cNe rfl) k_g34_h2
  have k_g35_h3 : hAt h3 (g + 35) = some (arI 6 tl) := by rw [eh3]; exact hAt_n (cNe rfl) k_g35_h2
  have k_g36_h3 : hAt h3 (g + 36) = some (arI 6 tk) := by rw [eh3]; exact hAt_n (cNe rfl) k_g36_h2
  have k_g37_h3 : hAt h3 (g + 37) = some (ruC tu) := by rw [eh3]; exact hAt_n (cNe rfl) k_g37_h2
  have k_g98_h3 : hAt h3 (g + 98) = some (moC (g + 99) (g + 100) (g + 101) (g + 102) (g + 103) F2.2.1) := by rw [eh3]; exact hAt_n (cNe rfl) k_g98_h2
  have k_g99_h3 : hAt h3 (g + 99) = some (arI 103 F2.2.2.1) := by rw [eh3]; exact hAt_same
  have k_g100_h3 : hAt h3 (g + 100) = some (arI 103 tr_) := by rw [eh3]; exact hAt_n (cNe rfl) k_g100_h2
  have k_g101_h3 : hAt h3 (g + 101) = some (arI 103 ts) := by rw [eh3]; exact hAt_n (cNe rfl) k_g101_h2
  have k_g102_h3 : hAt h3 (g + 102) = some (arI 412 tp) := by rw [eh3]; exact hAt_n (cNe rfl) k_g102_h2
  have k_g103_h3 : hAt h3 (g + 103) = some (arI 240 tx) := by rw [eh3]; exact hAt_n (cNe rfl) k_g103_h2
  obtain ⟨h4, eh4⟩ : ∃ z, z = hSet h3 (g + 102) (arI 412 F2.2.2.2) := ⟨_, rfl⟩
  rw [← eh4]
  have k_g_h4 : hAt h4 g = some (gpC (g + 1) (g + 3) (g + 18) (g + 33) (g + 34) (g + 37) F1.2.1) := by rw [eh4]; exact hAt_n (cNeL rfl) k_g_h3
  have k_g1_h4 : hAt h4 (g + 1) = some (txC (g + 2) x) := by rw [eh4]; exact hAt_n (cNe rfl) k_g1_h3
  have k_g2_h4 : hAt h4 (g + 2) = some (arC 240 lf) := by rw [eh4]; exact hAt_n (cNe rfl) k_g2_h3
  have k_g3_h4 : nk h4 (g + 3) r t F1.2.2.1 LF KF := by rw [eh4]; exact nk_fr1 (cOut rfl) k_g3_h3
  have k_g18_h4 : nk h4 (g + 18) dr dt DW DL DK := by rw [eh4]; exact nk_fr1 (cOut rfl) k_g18_h3
  have k_g33_h4 : hAt h4 (g + 33) = some (arR 2 4 (fun j => some ((g + 38) + 15 * j))) := by rw [eh4]; exact hAt_n (cNe rfl) k_g33_h3
  have k_g38_h4 : ek h4 (g + 38) F1.2.2.2.1 F1.2.2.2.2.1 F1.2.2.2.2.2.1 F1.2.2.2.2.2.2.1 F1.2.2.2.2.2.2.2 := by rw [eh4]; exact ek_fr1 (cOutE rfl) k_g38_h3
  have k_g34_h4 : hAt h4 (g + 34) = some (waC (g + 35) (g + 36) tw) := by rw [eh4]; exact hAt_n (cNe rfl) k_g34_h3
  have k_g35_h4 : hAt h4 (g + 35) = some (arI 6 tl) := by rw [eh4]; exact hAt_n (cNe rfl) k_g35_h3
  have k_g36_h4 : hAt h4 (g + 36) = some (arI 6 tk) := by rw [eh4]; exact hAt_n (cNe rfl) k_g36_h3
  have k_g37_h4 : hAt h4 (g + 37) = some (ruC tu) := by rw [eh4]; exact hAt_n (cNe rfl) k_g37_h3
  have k_g98_h4 : hAt h4 (g + 98) = some (moC (g + 99) (g + 100) (g + 101) (g + 102) (g + 103) F2.2.1) := by rw [eh4]; exact hAt_n (cNe rfl) k_g98_h3
  have k_g99_h4 : hAt h4 (g + 99) = some (arI 103 F2.2.2.1) := by rw [eh4]; exact hAt_n (cNe rfl) k_g99_h3
  have k_g100_h4 : hAt h4 (g + 100) = some (arI 103 tr_) := by rw [eh4]; exact hAt_n (cNe rfl) k_g100_h3
  have k_g101_h4 : hAt h4 (g + 101) = some (arI 103 ts) := by rw [eh4]; exact hAt_n (cNe rfl) k_g101_h3
  have k_g102_h4 : hAt h4 (g + 102) = some (arI 412 F2.2.2.2) := by rw [eh4]; exact hAt_same
  have k_g103_h4 : hAt h4 (g + 103) = some (arI 240 tx) := by rw [eh4]; exact hAt_n (cNe rfl) k_g103_h3
  refine x_icmp_eq (pc := 364) (tgt := 735) dL_law_364 (by decide) (fun (c1 : F1.1 = F2.1) => ?_) (fun (c1 : ¬ (F1.1 = F2.1)) => ?_)
  · replace hp := hp.1 c1
    rw [if_pos c1] at er
    subst er
    exact kk h4 k_g_h4 k_g1_h4 k_g2_h4 k_g3_h4 k_g18_h4 k_g33_h4 k_g38_h4 k_g34_h4 k_g35_h4 k_g36_h4 k_g37_h4 k_g98_h4 k_g99_h4 k_g100_h4 k_g101_h4 k_g102_h4 k_g103_h4
  · replace hp := hp.2 c1
    rw [if_neg c1] at er
    refine x_iconst (pc := 367) (v := (0 : Int32)) dL_law_367 (by decide) ?_
    exact hp.elim

def f_law_believe (xs : (Nat → Int32)) (s : (Nat → Int32)) (x : (Nat → Int32)) (lf : (Nat → Int32)) (r : (Nat → Int32)) (t : (Nat → Int32)) (W : (Nat → Nat → Int32)) (LF : (Nat → Nat → Int32)) (KF : (Nat → Nat → Int32)) (dr : (Nat → Int32)) (dt : (Nat → Int32)) (DW : (Nat → Nat → Int32)) (DL : (Nat → Nat → Int32)) (DK : (Nat → Nat → Int32)) (ER : (Nat → Nat → Int32)) (ET : (Nat → Nat → Int32)) (EW : (Nat → Nat → Nat → Int32)) (EL : (Nat → Nat → Nat → Int32)) (EK : (Nat → Nat → Nat → Int32)) (tw : (Nat → Int32)) (tl : (Nat → Int32)) (tk : (Nat → Int32)) (tu : (Nat → Int32)) (m : (Nat → Int32)) (tn : (Nat → Int32)) (tr_ : (Nat → Int32)) (ts : (Nat → Int32)) (tp : (Nat → Int32)) (tx : (Nat → Int32)) (Ls : Nat) (v3 : Int32) : (Nat → Int32) × (Nat → Int32) × (Nat → Nat → Int32) × (Nat → Nat → Int32) × (Nat → Nat → Nat → Int32) × (Nat → Nat → Nat → Int32) × (Nat → Nat → Nat → Int32) × (Nat → Int32) × (Nat → Int32) × (Nat → Int32) := (if (f_X4_believe s r t W LF KF ER ET EW EL EK (xs ((v3 + (1 : Int32)).toNatClampNeg))).1 = (f_X5_believe m tn tp (xs ((v3 + (1 : Int32)).toNatClampNeg))).1 then ((f_X4_believe s r t W LF KF ER ET EW EL EK (xs ((v3 + (1 : Int32)).toNatClampNeg))).2.1, (f_X4_believe s r t W LF KF ER ET EW EL EK (xs ((v3 + (1 : Int32)).toNatClampNeg))).2.2.1, (f_X4_believe s r t W LF KF ER ET EW EL EK (xs ((v3 + (1 : Int32)).toNatClampNeg))).2.2.2.1, (f_X4_believe s r t W LF KF ER ET EW EL EK (xs ((v3 + (1 : Int32)).toNatClampNeg))).2.2.2.2.1, (f_X4_believe s r t W LF KF ER ET EW EL EK (xs ((v3 + (1 : Int32)).toNatClampNeg))).2.2.2.2.2.1, (f_X4_believe s r t W LF KF ER ET EW EL EK (xs ((v3 + (1 : Int32)).toNatClampNeg))).2.2.2.2.2.2.1, (f_X4_believe s r t W LF KF ER ET EW EL EK (xs ((v3 + (1 : Int32)).toNatClampNeg))).2.2.2.2.2.2.2, (f_X5_believe m tn tp (xs ((v3 + (1 : Int32)).toNatClampNeg))).2.1, (f_X5_believe m tn tp (xs ((v3 + (1 : Int32)).toNatClampNeg))).2.2.1, (f_X5_believe m tn tp (xs ((v3 + (1 : Int32)).toNatClampNeg))).2.2.2) else ((fun _ => 0), (fun _ => 0), (fun _ _ => 0), (fun _ _ => 0), (fun _ _ _ => 0), (fun _ _ _ => 0), (fun _ _ _ => 0), (fun _ => 0), (fun _ => 0), (fun _ => 0)))
def p_law_believe (xs : (Nat → Int32)) (s : (Nat → Int32)) (x : (Nat → Int32)) (lf : (Nat → Int32)) (r : (Nat → Int32)) (t : (Nat → Int32)) (W : (Nat → Nat → Int32)) (LF : (Nat → Nat → Int32)) (KF : (Nat → Nat → Int32)) (dr : (Nat → Int32)) (dt : (Nat → Int32)) (DW : (Nat → Nat → Int32)) (DL : (Nat → Nat → Int32)) (DK : (Nat → Nat → Int32)) (ER : (Nat → Nat → Int32)) (ET : (Nat → Nat → Int32)) (EW : (Nat → Nat → Nat → Int32)) (EL : (Nat → Nat → Nat → Int32)) (EK : (Nat → Nat → Nat → Int32)) (tw : (Nat → Int32)) (tl : (Nat → Int32)) (tk : (Nat → Int32)) (tu : (Nat → Int32)) (m : (Nat → Int32)) (tn : (Nat → Int32)) (tr_ : (Nat → Int32)) (ts : (Nat → Int32)) (tp : (Nat → Int32)) (tx : (Nat → Int32)) (Ls : Nat) (v3 : Int32) : Prop := (vp_in (v3 + (1 : Int32)) Ls ∧ (p_X4_believe s r t W LF KF ER ET EW EL EK (xs ((v3 + (1 : Int32)).toNatClampNeg)) ∧ (vp_in (v3 + (1 : Int32)) Ls ∧ (p_X5_believe m tn tp (xs ((v3 + (1 : Int32)).toNatClampNeg)) ∧ (((f_X4_believe s r t W LF KF ER ET EW EL EK (xs ((v3 + (1 : Int32)).toNatClampNeg))).1 = (f_X5_believe m tn tp (xs ((v3 + (1 : Int32)).toNatClampNeg))).1 → True) ∧ (¬ ((f_X4_believe s r t W LF KF ER ET EW EL EK (xs ((v3 + (1 : Int32)).toNatClampNeg))).1 = (f_X5_believe m tn tp (xs ((v3 + (1 : Int32)).toNatClampNeg))).1) → False))))))
set_option maxRecDepth 100000 in
set_option maxHeartbeats 4000000 in
theorem K_law_believe (G : xG) (h : xH) (nm : String) (g : Nat) (xs : (Nat → Int32)) (s : (Nat → Int32)) (x : (Nat → Int32)) (lf : (Nat → Int32)) (r : (Nat → Int32)) (t : (Nat → Int32)) (W : (Nat → Nat → Int32)) (LF : (Nat → Nat → Int32)) (KF : (Nat → Nat → Int32)) (dr : (Nat → Int32)) (dt : (Nat → Int32)) (DW : (Nat → Nat → Int32)) (DL : (Nat → Nat → Int32)) (DK : (Nat → Nat → Int32)) (ER : (Nat → Nat → Int32)) (ET : (Nat → Nat → Int32)) (EW : (Nat → Nat → Nat → Int32)) (EL : (Nat → Nat → Nat → Int32)) (EK : (Nat → Nat → Nat → Int32)) (tw : (Nat → Int32)) (tl : (Nat → Int32)) (tk : (Nat → Int32)) (tu : (Nat → Int32)) (m : (Nat → Int32)) (tn : (Nat → Int32)) (tr_ : (Nat → Int32)) (ts : (Nat → Int32)) (tp : (Nat → Int32)) (tx : (Nat → Int32)) (Ls : Nat) (v3 : Int32) (k_g : hAt h g = some (gpC (g + 1) (g + 3) (g + 18) (g + 33) (g + 34) (g + 37) s)) (k_g1 : hAt h (g + 1) = some (txC (g + 2) x)) (k_g2 : hAt h (g + 2) = some (arC 240 lf)) (k_g3 : nk h (g + 3) r t W LF KF) (k_g18 : nk h (g + 18) dr dt DW DL DK) (k_g33 : hAt h (g + 33) = some (arR 2 4 (fun j => some ((g + 38) + 15 * j)))) (k_g38 : ek h (g + 38) ER ET EW EL EK) (k_g34 : hAt h (g + 34) = some (waC (g + 35) (g + 36) tw)) (k_g35 : hAt h (g + 35) = some (arI 6 tl)) (k_g36 : hAt h (g + 36) = some (arI 6 tk)) (k_g37 : hAt h (g + 37) = some (ruC tu)) (k_g98 : hAt h (g + 98) = some (moC (g + 99) (g + 100) (g + 101) (g + 102) (g + 103) m)) (k_g99 : hAt h (g + 99) = some (arI 103 tn)) (k_g100 : hAt h (g + 100) = some (arI 103 tr_)) (k_g101 : hAt h (g + 101) = some (arI 103 ts)) (k_g102 : hAt h (g + 102) = some (arI 412 tp)) (k_g103 : hAt h (g + 103) = some (arI 240 tx)) (ex : xg_x G = xs) (eL : xg_L G = Ls) (hp : p_law_believe xs s x lf r t W LF KF dr dt DW DL DK ER ET EW EL EK tw tl tk tu m tn tr_ ts tp tx Ls v3) (kk : ∀ h2 : xH, hAt h2 g = some (gpC (g + 1) (g + 3) (g + 18) (g + 33) (g + 34) (g + 37) (f_law_believe xs s x lf r t W LF KF dr dt DW DL DK ER ET EW EL EK tw tl tk tu m tn tr_ ts tp tx Ls v3).1) → hAt h2 (g + 1) = some (txC (g + 2) x) → hAt h2 (g + 2) = some (arC 240 lf) → nk h2 (g + 3) (f_law_believe xs s x lf r t W LF KF dr dt DW DL DK ER ET EW EL EK tw tl tk tu m tn tr_ ts tp tx Ls v3).2.1 t W LF KF → nk h2 (g + 18) dr dt DW DL DK → hAt h2 (g + 33) = some (arR 2 4 (fun j => some ((g + 38) + 15 * j))) → ek h2 (g + 38) (f_law_believe xs s x lf r t W LF KF dr dt DW DL DK ER ET EW EL EK tw tl tk tu m tn tr_ ts tp tx Ls v3).2.2.1 (f_law_believe xs s x lf r t W LF KF dr dt DW DL DK ER ET EW EL EK tw tl tk tu m tn tr_ ts tp tx Ls v3).2.2.2.1 (f_law_believe xs s x lf r t W LF KF dr dt DW DL DK ER ET EW EL EK tw tl tk tu m tn tr_ ts tp tx Ls v3).2.2.2.2.1 (f_law_believe xs s x lf r t W LF KF dr dt DW DL DK ER ET EW EL EK tw tl tk tu m tn tr_ ts tp tx Ls v3).2.2.2.2.2.1 (f_law_believe xs s x lf r t W LF KF dr dt DW DL DK ER ET EW EL EK tw tl tk tu m tn tr_ ts tp tx Ls v3).2.2.2.2.2.2.1 → hAt h2 (g + 34) = some (waC (g + 35) (g + 36) tw) → hAt h2 (g + 35) = some (arI 6 tl) → hAt h2 (g + 36) = some (arI 6 tk) → hAt h2 (g + 37) = some (ruC tu) → hAt h2 (g + 98) = some (moC (g + 99) (g + 100) (g + 101) (g + 102) (g + 103) (f_law_believe xs s x lf r t W LF KF dr dt DW DL DK ER ET EW EL EK tw tl tk tu m tn tr_ ts tp tx Ls v3).2.2.2.2.2.2.2.1) → hAt h2 (g + 99) = some (arI 103 (f_law_believe xs s x lf r t W LF KF dr dt DW DL DK ER ET EW EL EK tw tl tk tu m tn tr_ ts tp tx Ls v3).2.2.2.2.2.2.2.2.1) → hAt h2 (g + 100) = some (arI 103 tr_) → hAt h2 (g + 101) = some (arI 103 ts) → hAt h2 (g + 102) = some (arI 412 (f_law_believe xs s x lf r t W LF KF dr dt DW DL DK ER ET EW EL EK tw tl tk tu m tn tr_ ts tp tx Ls v3).2.2.2.2.2.2.2.2.2) → hAt h2 (g + 103) = some (arI 240 tx) → Wp G RL code 4 nm ret room_1 (lwZ G) 104 1984 735 [(3, .int v3), (2, .ref (g + 98)), (1, .ref g), (0, .ref (xg_b G))] [] h2) : Wp G RL code 4 nm ret room_1 (lwZ G) 104 1984 369 [(3, .int v3), (2, .ref (g + 98)), (1, .ref g), (0, .ref (xg_b G))] [] h := by
  obtain ⟨R, er⟩ : ∃ R, f_law_believe xs s x lf r t W LF KF dr dt DW DL DK ER ET EW EL EK tw tl tk tu m tn tr_ ts tp tx Ls v3 = R := ⟨_, rfl⟩
  rw [er] at kk
  unfold f_law_believe at er
  unfold p_law_believe at hp
  refine x_aload_n (pc := 369) dL_law_369 rfl ?_
  refine x_aload_n (pc := 370) dL_law_370 rfl ?_
  refine x_iload_n (pc := 371) dL_law_371 rfl ?_
  refine x_iconst (pc := 372) (v := (1 : Int32)) dL_law_372 (by decide) ?_
  refine x_iadd (pc := 373) dL_law_373 ?_
  obtain ⟨q374, hp⟩ := hp
  refine x_sldE (pc := 374) dL_law_374 ex eL q374 (j := ((v3 + (1 : Int32)).toNatClampNeg)) rfl ?_
  obtain ⟨q375, hp⟩ := hp
  refine x_cVQ (pc := 375) (As := [.int (xs ((v3 + (1 : Int32)).toNatClampNeg))]) (rest := []) dL_law_375 xl_L_53 xv_X4_believe k_g rfl rfl rfl rfl rfl rfl (C_X4_believe G _ g s r t W LF KF ER ET EW EL EK (xs ((v3 + (1 : Int32)).toNatClampNeg)) k_g k_g3 k_g33 k_g38 q375) (fun v h1 hq => ?_)
  obtain ⟨ev, z0_h1, z1_h1, z2_h1, g_h1⟩ := hq
  subst ev
  refine Wp.eqs (L' := [(3, .int v3), (2, .ref (g + 98)), (1, .ref g), (0, .ref (xg_b G))]) (st' := [.int (f_X4_believe s r t W LF KF ER ET EW EL EK (xs ((v3 + (1 : Int32)).toNatClampNeg))).1]) rfl rfl ?_
  obtain ⟨F1, eF1⟩ : ∃ F, f_X4_believe s r t W LF KF ER ET EW EL EK (xs ((v3 + (1 : Int32)).toNatClampNeg)) = F := ⟨_, rfl⟩
  try rw [eF1] at er
  try rw [eF1] at hp
  try rw [eF1]
  try rw [eF1] at z0_h1
  try rw [eF1] at z1_h1
  try rw [eF1] at z2_h1
  have k_g_h1 : hAt h1 g = some (gpC (g + 1) (g + 3) (g + 18) (g + 33) (g + 34) (g + 37) F1.2.1) := z0_h1
  have k_g1_h1 : hAt h1 (g + 1) = some (txC (g + 2) x) := (g_h1.2 (g + 1) (nt_X4_believe_1 g)).trans k_g1
  have k_g2_h1 : hAt h1 (g + 2) = some (arC 240 lf) := (g_h1.2 (g + 2) (nt_X4_believe_2 g)).trans k_g2
  have k_g3_h1 : nk h1 (g + 3) F1.2.2.1 t W LF KF := z1_h1
  have k_g18_h1 : nk h1 (g + 18) dr dt DW DL DK := nk_fr (fun q u1 u2 => g_h1.2 q (nt_X4_believe_r18 g q u1 u2)) k_g18
  have k_g33_h1 : hAt h1 (g + 33) = some (arR 2 4 (fun j => some ((g + 38) + 15 * j))) := (g_h1.2 (g + 33) (nt_X4_believe_33 g)).trans k_g33
  have k_g38_h1 : ek h1 (g + 38) F1.2.2.2.1 F1.2.2.2.2.1 F1.2.2.2.2.2.1 F1.2.2.2.2.2.2.1 F1.2.2.2.2.2.2.2 := z2_h1
  have k_g34_h1 : hAt h1 (g + 34) = some (waC (g + 35) (g + 36) tw) := (g_h1.2 (g + 34) (nt_X4_believe_34 g)).trans k_g34
  have k_g35_h1 : hAt h1 (g + 35) = some (arI 6 tl) := (g_h1.2 (g + 35) (nt_X4_believe_35 g)).trans k_g35
  have k_g36_h1 : hAt h1 (g + 36) = some (arI 6 tk) := (g_h1.2 (g + 36) (nt_X4_believe_36 g)).trans k_g36
  have k_g37_h1 : hAt h1 (g + 37) = some (ruC tu) := (g_h1.2 (g + 37) (nt_X4_believe_37 g)).trans k_g37
  have k_g98_h1 : hAt h1 (g + 98) = some (moC (g + 99) (g + 100) (g + 101) (g + 102) (g + 103) m) := (g_h1.2 (g + 98) (nt_X4_believe_98 g)).trans k_g98
  have k_g99_h1 : hAt h1 (g + 99) = some (arI 103 tn) := (g_h1.2 (g + 99) (nt_X4_believe_99 g)).trans k_g99
  have k_g100_h1 : hAt h1 (g + 100) = some (arI 103 tr_) := (g_h1.2 (g + 100) (nt_X4_believe_100 g)).trans k_g100
  have k_g101_h1 : hAt h1 (g + 101) = some (arI 103 ts) := (g_h1.2 (g + 101) (nt_X4_believe_101 g)).trans k_g101
  have k_g102_h1 : hAt h1 (g + 102) = some (arI 412 tp) := (g_h1.2 (g + 102) (nt_X4_believe_102 g)).trans k_g102
  have k_g103_h1 : hAt h1 (g + 103) = some (arI 240 tx) := (g_h1.2 (g + 103) (nt_X4_believe_103 g)).trans k_g103
  refine x_aload_n (pc := 378) dL_law_378 rfl ?_
  refine x_aload_n (pc := 379) dL_law_379 rfl ?_
  refine x_iload_n (pc := 380) dL_law_380 rfl ?_
  refine x_iconst (pc := 381) (v := (1 : Int32)) dL_law_381 (by decide) ?_
  refine x_iadd (pc := 382) dL_law_382 ?_
  obtain ⟨q383, hp⟩ := hp
  refine x_sldE (pc := 383) dL_law_383 ex eL q383 (j := ((v3 + (1 : Int32)).toNatClampNeg)) rfl ?_
  obtain ⟨q384, hp⟩ := hp
  refine x_cV1i (pc := 384) dL_law_384 xl_L_56 xv_X5_believe k_g98_h1 rfl (C_X5_believe G _ (g + 98) (g + 99) (g + 100) (g + 101) (g + 102) (g + 103) m tn tp (xs ((v3 + (1 : Int32)).toNatClampNeg)) k_g98_h1 k_g99_h1 k_g102_h1 (cNe rfl) q384) rfl rfl rfl ?_
  obtain ⟨F2, eF2⟩ : ∃ F, f_X5_believe m tn tp (xs ((v3 + (1 : Int32)).toNatClampNeg)) = F := ⟨_, rfl⟩
  rw [eF2]
  try rw [eF2] at er
  try rw [eF2] at hp
  obtain ⟨h2, eh2⟩ : ∃ z, z = hSet h1 (g + 98) (moC (g + 99) (g + 100) (g + 101) (g + 102) (g + 103) F2.2.1) := ⟨_, rfl⟩
  rw [← eh2]
  have k_g_h2 : hAt h2 g = some (gpC (g + 1) (g + 3) (g + 18) (g + 33) (g + 34) (g + 37) F1.2.1) := by rw [eh2]; exact hAt_n (cNeL rfl) k_g_h1
  have k_g1_h2 : hAt h2 (g + 1) = some (txC (g + 2) x) := by rw [eh2]; exact hAt_n (cNe rfl) k_g1_h1
  have k_g2_h2 : hAt h2 (g + 2) = some (arC 240 lf) := by rw [eh2]; exact hAt_n (cNe rfl) k_g2_h1
  have k_g3_h2 : nk h2 (g + 3) F1.2.2.1 t W LF KF := by rw [eh2]; exact nk_fr1 (cOut rfl) k_g3_h1
  have k_g18_h2 : nk h2 (g + 18) dr dt DW DL DK := by rw [eh2]; exact nk_fr1 (cOut rfl) k_g18_h1
  have k_g33_h2 : hAt h2 (g + 33) = some (arR 2 4 (fun j => some ((g + 38) + 15 * j))) := by rw [eh2]; exact hAt_n (cNe rfl) k_g33_h1
  have k_g38_h2 : ek h2 (g + 38) F1.2.2.2.1 F1.2.2.2.2.1 F1.2.2.2.2.2.1 F1.2.2.2.2.2.2.1 F1.2.2.2.2.2.2.2 := by rw [eh2]; exact ek_fr1 (cOutE rfl) k_g38_h1
  have k_g34_h2 : hAt h2 (g + 34) = some (waC (g + 35) (g + 36) tw) := by rw [eh2]; exact hAt_n (cNe rfl) k_g34_h1
  have k_g35_h2 : hAt h2 (g + 35) = some (arI 6 tl) := by rw [eh2]; exact hAt_n (cNe rfl) k_g35_h1
  have k_g36_h2 : hAt h2 (g + 36) = some (arI 6 tk) := by rw [eh2]; exact hAt_n (cNe rfl) k_g36_h1
  have k_g37_h2 : hAt h2 (g + 37) = some (ruC tu) := by rw [eh2]; exact hAt_n (cNe rfl) k_g37_h1
  have k_g98_h2 : hAt h2 (g + 98) = some (moC (g + 99) (g + 100) (g + 101) (g + 102) (g + 103) F2.2.1) := by rw [eh2]; exact hAt_same
  have k_g99_h2 : hAt h2 (g + 99) = some (arI 103 tn) := by rw [eh2]; exact hAt_n (cNe rfl) k_g99_h1
  have k_g100_h2 : hAt h2 (g + 100) = some (arI 103 tr_) := by rw [eh2]; exact hAt_n (cNe rfl) k_g100_h1
  have k_g101_h2 : hAt h2 (g + 101) = some (arI 103 ts) := by rw [eh2]; exact hAt_n (cNe rfl) k_g101_h1
  have k_g102_h2 : hAt h2 (g + 102) = some (arI 412 tp) := by rw [eh2]; exact hAt_n (cNe rfl) k_g102_h1
  have k_g103_h2 : hAt h2 (g + 103) = some (arI 240 tx) := by rw [eh2]; exact hAt_n (cNe rfl) k_g103_h1
  obtain ⟨h3, eh3⟩ : ∃ z, z = hSet h2 (g + 99) (arI 103 F2.2.2.1) := ⟨_, rfl⟩
  rw [← eh3]
  have k_g_h3 : hAt h3 g = some (gpC (g + 1) (g + 3) (g + 18) (g + 33) (g + 34) (g + 37) F1.2.1) := by rw [eh3]; exact hAt_n (cNeL rfl) k_g_h2
  have k_g1_h3 : hAt h3 (g + 1) = some (txC (g + 2) x) := by rw [eh3]; exact hAt_n (cNe rfl) k_g1_h2
  have k_g2_h3 : hAt h3 (g + 2) = some (arC 240 lf) := by rw [eh3]; exact hAt_n (cNe rfl) k_g2_h2
  have k_g3_h3 : nk h3 (g + 3) F1.2.2.1 t W LF KF := by rw [eh3]; exact nk_fr1 (cOut rfl) k_g3_h2
  have k_g18_h3 : nk h3 (g + 18) dr dt DW DL DK := by rw [eh3]; exact nk_fr1 (cOut rfl) k_g18_h2
  have k_g33_h3 : hAt h3 (g + 33) = some (arR 2 4 (fun j => some ((g + 38) + 15 * j))) := by rw [eh3]; exact hAt_n (cNe rfl) k_g33_h2
  have k_g38_h3 : ek h3 (g + 38) F1.2.2.2.1 F1.2.2.2.2.1 F1.2.2.2.2.2.1 F1.2.2.2.2.2.2.1 F1.2.2.2.2.2.2.2 := by rw [eh3]; exact ek_fr1 (cOutE rfl) k_g38_h2
  have k_g34_h3 : hAt h3 (g + 34) = some (waC (g + 35) (g + 36) tw) := by rw [eh3]; exact hAt_n (cNe rfl) k_g34_h2
  have k_g35_h3 : hAt h3 (g + 35) = some (arI 6 tl) := by rw [eh3]; exact hAt_n (cNe rfl) k_g35_h2
  have k_g36_h3 : hAt h3 (g + 36) = some (arI 6 tk) := by rw [eh3]; exact hAt_n (cNe rfl) k_g36_h2
  have k_g37_h3 : hAt h3 (g + 37) = some (ruC tu) := by rw [eh3]; exact hAt_n (cNe rfl) k_g37_h2
  have k_g98_h3 : hAt h3 (g + 98) = some (moC (g + 99) (g + 100) (g + 101) (g + 102) (g + 103) F2.2.1) := by rw [eh3]; exact hAt_n (cNe rfl) k_g98_h2
  have k_g99_h3 : hAt h3 (g + 99) = some (arI 103 F2.2.2.1) := by rw [eh3]; exact hAt_same
  have k_g100_h3 : hAt h3 (g + 100) = some (arI 103 tr_) := by rw [eh3]; exact hAt_n (cNe rfl) k_g100_h2
  have k_g101_h3 : hAt h3 (g + 101) = some (arI 103 ts) := by rw [eh3]; exact hAt_n (cNe rfl) k_g101_h2
  have k_g102_h3 : hAt h3 (g + 102) = some (arI 412 tp) := by rw [eh3]; exact hAt_n (cNe rfl) k_g102_h2
  have k_g103_h3 : hAt h3 (g + 103) = some (arI 240 tx) := by rw [eh3]; exact hAt_n (cNe rfl) k_g103_h2
  obtain ⟨h4, eh4⟩ : ∃ z, z = hSet h3 (g + 102) (arI 412 F2.2.2.2) := ⟨_, rfl⟩
  rw [← eh4]
  have k_g_h4 : hAt h4 g = some (gpC (g + 1) (g + 3) (g + 18) (g + 33) (g + 34) (g + 37) F1.2.1) := by rw [eh4]; exact hAt_n (cNeL rfl) k_g_h3
  have k_g1_h4 : hAt h4 (g + 1) = some (txC (g + 2) x) := by rw [eh4]; exact hAt_n (cNe rfl) k_g1_h3
  have k_g2_h4 : hAt h4 (g + 2) = some (arC 240 lf) := by rw [eh4]; exact hAt_n (cNe rfl) k_g2_h3
  have k_g3_h4 : nk h4 (g + 3) F1.2.2.1 t W LF KF := by rw [eh4]; exact nk_fr1 (cOut rfl) k_g3_h3
  have k_g18_h4 : nk h4 (g + 18) dr dt DW DL DK := by rw [eh4]; exact nk_fr1 (cOut rfl) k_g18_h3
  have k_g33_h4 : hAt h4 (g + 33) = some (arR 2 4 (fun j => some ((g + 38) + 15 * j))) := by rw [eh4]; exact hAt_n (cNe rfl) k_g33_h3
  have k_g38_h4 : ek h4 (g + 38) F1.2.2.2.1 F1.2.2.2.2.1 F1.2.2.2.2.2.1 F1.2.2.2.2.2.2.1 F1.2.2.2.2.2.2.2 := by rw [eh4]; exact ek_fr1 (cOutE rfl) k_g38_h3
  have k_g34_h4 : hAt h4 (g + 34) = some (waC (g + 35) (g + 36) tw) := by rw [eh4]; exact hAt_n (cNe rfl) k_g34_h3
  have k_g35_h4 : hAt h4 (g + 35) = some (arI 6 tl) := by rw [eh4]; exact hAt_n (cNe rfl) k_g35_h3
  have k_g36_h4 : hAt h4 (g + 36) = some (arI 6 tk) := by rw [eh4]; exact hAt_n (cNe rfl) k_g36_h3
  have k_g37_h4 : hAt h4 (g + 37) = some (ruC tu) := by rw [eh4]; exact hAt_n (cNe rfl) k_g37_h3
  have k_g98_h4 : hAt h4 (g + 98) = some (moC (g + 99) (g + 100) (g + 101) (g + 102) (g + 103) F2.2.1) := by rw [eh4]; exact hAt_n (cNe rfl) k_g98_h3
  have k_g99_h4 : hAt h4 (g + 99) = some (arI 103 F2.2.2.1) := by rw [eh4]; exact hAt_n (cNe rfl) k_g99_h3
  have k_g100_h4 : hAt h4 (g + 100) = some (arI 103 tr_) := by rw [eh4]; exact hAt_n (cNe rfl) k_g100_h3
  have k_g101_h4 : hAt h4 (g + 101) = some (arI 103 ts) := by rw [eh4]; exact hAt_n (cNe rfl) k_g101_h3
  have k_g102_h4 : hAt h4 (g + 102) = some (arI 412 F2.2.2.2) := by rw [eh4]; exact hAt_same
  have k_g103_h4 : hAt h4 (g + 103) = some (arI 240 tx) := by rw [eh4]; exact hAt_n (cNe rfl) k_g103_h3
  refine x_icmp_eq (pc := 387) (tgt := 735) dL_law_387 (by decide) (fun (c1 : F1.1 = F2.1) => ?_) (fun (c1 : ¬ (F1.1 = F2.1)) => ?_)
  · replace hp := hp.1 c1
    rw [if_pos c1] at er
    subst er
    exact kk h4 k_g_h4 k_g1_h4 k_g2_h4 k_g3_h4 k_g18_h4 k_g33_h4 k_g38_h4 k_g34_h4 k_g35_h4 k_g36_h4 k_g37_h4 k_g98_h4 k_g99_h4 k_g100_h4 k_g101_h4 k_g102_h4 k_g103_h4
  · replace hp := hp.2 c1
    rw [if_neg c1] at er
    refine x_iconst (pc := 390) (v := (0 : Int32)) dL_law_390 (by decide) ?_
    exact hp.elim

def f_law_undo (xs : (Nat → Int32)) (s : (Nat → Int32)) (x : (Nat → Int32)) (lf : (Nat → Int32)) (r : (Nat → Int32)) (t : (Nat → Int32)) (W : (Nat → Nat → Int32)) (LF : (Nat → Nat → Int32)) (KF : (Nat → Nat → Int32)) (dr : (Nat → Int32)) (dt : (Nat → Int32)) (DW : (Nat → Nat → Int32)) (DL : (Nat → Nat → Int32)) (DK : (Nat → Nat → Int32)) (ER : (Nat → Nat → Int32)) (ET : (Nat → Nat → Int32)) (EW : (Nat → Nat → Nat → Int32)) (EL : (Nat → Nat → Nat → Int32)) (EK : (Nat → Nat → Nat → Int32)) (tw : (Nat → Int32)) (tl : (Nat → Int32)) (tk : (Nat → Int32)) (tu : (Nat → Int32)) (m : (Nat → Int32)) (tn : (Nat → Int32)) (tr_ : (Nat → Int32)) (ts : (Nat → Int32)) (tp : (Nat → Int32)) (tx : (Nat → Int32)) (Ls : Nat) (v3 : Int32) : (Nat → Int32) × (Nat → Int32) × (Nat → Int32) × (Nat → Nat → Int32) × (Nat → Nat → Int32) × (Nat → Nat → Int32) × (Nat → Int32) × (Nat → Int32) := (if (f_X4_undo s r t W LF KF ER ET EW EL EK).1 = (f_X5_undo m tn tp).1 then ((f_X4_undo s r t W LF KF ER ET EW EL EK).2.1, (f_X4_undo s r t W LF KF ER ET EW EL EK).2.2.1, (f_X4_undo s r t W LF KF ER ET EW EL EK).2.2.2.1, (f_X4_undo s r t W LF KF ER ET EW EL EK).2.2.2.2.1, (f_X4_undo s r t W LF KF ER ET EW EL EK).2.2.2.2.2.1, (f_X4_undo s r t W LF KF ER ET EW EL EK).2.2.2.2.2.2, (f_X5_undo m tn tp).2.1, (f_X5_undo m tn tp).2.2) else ((fun _ => 0), (fun _ => 0), (fun _ => 0), (fun _ _ => 0), (fun _ _ => 0), (fun _ _ => 0), (fun _ => 0), (fun _ => 0)))
def p_law_undo (xs : (Nat → Int32)) (s : (Nat → Int32)) (x : (Nat → Int32)) (lf : (Nat → Int32)) (r : (Nat → Int32)) (t : (Nat → Int32)) (W : (Nat → Nat → Int32)) (LF : (Nat → Nat → Int32)) (KF : (Nat → Nat → Int32)) (dr : (Nat → Int32)) (dt : (Nat → Int32)) (DW : (Nat → Nat → Int32)) (DL : (Nat → Nat → Int32)) (DK : (Nat → Nat → Int32)) (ER : (Nat → Nat → Int32)) (ET : (Nat → Nat → Int32)) (EW : (Nat → Nat → Nat → Int32)) (EL : (Nat → Nat → Nat → Int32)) (EK : (Nat → Nat → Nat → Int32)) (tw : (Nat → Int32)) (tl : (Nat → Int32)) (tk : (Nat → Int32)) (tu : (Nat → Int32)) (m : (Nat → Int32)) (tn : (Nat → Int32)) (tr_ : (Nat → Int32)) (ts : (Nat → Int32)) (tp : (Nat → Int32)) (tx : (Nat → Int32)) (Ls : Nat) (v3 : Int32) : Prop := (p_X4_undo s r t W LF KF ER ET EW EL EK ∧ (p_X5_undo m tn tp ∧ (((f_X4_undo s r t W LF KF ER ET EW EL EK).1 = (f_X5_undo m tn tp).1 → True) ∧ (¬ ((f_X4_undo s r t W LF KF ER ET EW EL EK).1 = (f_X5_undo m tn tp).1) → False))))
set_option maxRecDepth 100000 in
set_option maxHeartbeats 4000000 in
theorem K_law_undo (G : xG) (h : xH) (nm : String) (g : Nat) (xs : (Nat → Int32)) (s : (Nat → Int32)) (x : (Nat → Int32)) (lf : (Nat → Int32)) (r : (Nat → Int32)) (t : (Nat → Int32)) (W : (Nat → Nat → Int32)) (LF : (Nat → Nat → Int32)) (KF : (Nat → Nat → Int32)) (dr : (Nat → Int32)) (dt : (Nat → Int32)) (DW : (Nat → Nat → Int32)) (DL : (Nat → Nat → Int32)) (DK : (Nat → Nat → Int32)) (ER : (Nat → Nat → Int32)) (ET : (Nat → Nat → Int32)) (EW : (Nat → Nat → Nat → Int32)) (EL : (Nat → Nat → Nat → Int32)) (EK : (Nat → Nat → Nat → Int32)) (tw : (Nat → Int32)) (tl : (Nat → Int32)) (tk : (Nat → Int32)) (tu : (Nat → Int32)) (m : (Nat → Int32)) (tn : (Nat → Int32)) (tr_ : (Nat → Int32)) (ts : (Nat → Int32)) (tp : (Nat → Int32)) (tx : (Nat → Int32)) (Ls : Nat) (v3 : Int32) (k_g : hAt h g = some (gpC (g + 1) (g + 3) (g + 18) (g + 33) (g + 34) (g + 37) s)) (k_g1 : hAt h (g + 1) = some (txC (g + 2) x)) (k_g2 : hAt h (g + 2) = some (arC 240 lf)) (k_g3 : nk h (g + 3) r t W LF KF) (k_g18 : nk h (g + 18) dr dt DW DL DK) (k_g33 : hAt h (g + 33) = some (arR 2 4 (fun j => some ((g + 38) + 15 * j)))) (k_g38 : ek h (g + 38) ER ET EW EL EK) (k_g34 : hAt h (g + 34) = some (waC (g + 35) (g + 36) tw)) (k_g35 : hAt h (g + 35) = some (arI 6 tl)) (k_g36 : hAt h (g + 36) = some (arI 6 tk)) (k_g37 : hAt h (g + 37) = some (ruC tu)) (k_g98 : hAt h (g + 98) = some (moC (g + 99) (g + 100) (g + 101) (g + 102) (g + 103) m)) (k_g99 : hAt h (g + 99) = some (arI 103 tn)) (k_g100 : hAt h (g + 100) = some (arI 103 tr_)) (k_g101 : hAt h (g + 101) = some (arI 103 ts)) (k_g102 : hAt h (g + 102) = some (arI 412 tp)) (k_g103 : hAt h (g + 103) = some (arI 240 tx)) (ex : xg_x G = xs) (eL : xg_L G = Ls) (hp : p_law_undo xs s x lf r t W LF KF dr dt DW DL DK ER ET EW EL EK tw tl tk tu m tn tr_ ts tp tx Ls v3) (kk : ∀ h2 : xH, hAt h2 g = some (gpC (g + 1) (g + 3) (g + 18) (g + 33) (g + 34) (g + 37) (f_law_undo xs s x lf r t W LF KF dr dt DW DL DK ER ET EW EL EK tw tl tk tu m tn tr_ ts tp tx Ls v3).1) → hAt h2 (g + 1) = some (txC (g + 2) x) → hAt h2 (g + 2) = some (arC 240 lf) → nk h2 (g + 3) (f_law_undo xs s x lf r t W LF KF dr dt DW DL DK ER ET EW EL EK tw tl tk tu m tn tr_ ts tp tx Ls v3).2.1 (f_law_undo xs s x lf r t W LF KF dr dt DW DL DK ER ET EW EL EK tw tl tk tu m tn tr_ ts tp tx Ls v3).2.2.1 (f_law_undo xs s x lf r t W LF KF dr dt DW DL DK ER ET EW EL EK tw tl tk tu m tn tr_ ts tp tx Ls v3).2.2.2.1 (f_law_undo xs s x lf r t W LF KF dr dt DW DL DK ER ET EW EL EK tw tl tk tu m tn tr_ ts tp tx Ls v3).2.2.2.2.1 (f_law_undo xs s x lf r t W LF KF dr dt DW DL DK ER ET EW EL EK tw tl tk tu m tn tr_ ts tp tx Ls v3).2.2.2.2.2.1 → nk h2 (g + 18) dr dt DW DL DK → hAt h2 (g + 33) = some (arR 2 4 (fun j => some ((g + 38) + 15 * j))) → ek h2 (g + 38) ER ET EW EL EK → hAt h2 (g + 34) = some (waC (g + 35) (g + 36) tw) → hAt h2 (g + 35) = some (arI 6 tl) → hAt h2 (g + 36) = some (arI 6 tk) → hAt h2 (g + 37) = some (ruC tu) → hAt h2 (g + 98) = some (moC (g + 99) (g + 100) (g + 101) (g + 102) (g + 103) (f_law_undo xs s x lf r t W LF KF dr dt DW DL DK ER ET EW EL EK tw tl tk tu m tn tr_ ts tp tx Ls v3).2.2.2.2.2.2.1) → hAt h2 (g + 99) = some (arI 103 (f_law_undo xs s x lf r t W LF KF dr dt DW DL DK ER ET EW EL EK tw tl tk tu m tn tr_ ts tp tx Ls v3).2.2.2.2.2.2.2) → hAt h2 (g + 100) = some (arI 103 tr_) → hAt h2 (g + 101) = some (arI 103 ts) → hAt h2 (g + 102) = some (arI 412 tp) → hAt h2 (g + 103) = some (arI 240 tx) → Wp G RL code 4 nm ret room_1 (lwZ G) 104 1984 735 [(3, .int v3), (2, .ref (g + 98)), (1, .ref g), (0, .ref (xg_b G))] [] h2) : Wp G RL code 4 nm ret room_1 (lwZ G) 104 1984 392 [(3, .int v3), (2, .ref (g + 98)), (1, .ref g), (0, .ref (xg_b G))] [] h := by
  obtain ⟨R, er⟩ : ∃ R, f_law_undo xs s x lf r t W LF KF dr dt DW DL DK ER ET EW EL EK tw tl tk tu m tn tr_ ts tp tx Ls v3 = R := ⟨_, rfl⟩
  rw [er] at kk
  unfold f_law_undo at er
  unfold p_law_undo at hp
  refine x_aload_n (pc := 392) dL_law_392 rfl ?_
  obtain ⟨q393, hp⟩ := hp
  refine x_cVQ (pc := 393) (As := []) (rest := []) dL_law_393 xl_L_57 xv_X4_undo k_g rfl rfl rfl rfl rfl rfl (C_X4_undo G _ g s r t W LF KF ER ET EW EL EK k_g k_g3 k_g33 k_g38 q393) (fun v h1 hq => ?_)
  obtain ⟨ev, z0_h1, z1_h1, g_h1⟩ := hq
  subst ev
  refine Wp.eqs (L' := [(3, .int v3), (2, .ref (g + 98)), (1, .ref g), (0, .ref (xg_b G))]) (st' := [.int (f_X4_undo s r t W LF KF ER ET EW EL EK).1]) rfl rfl ?_
  obtain ⟨F1, eF1⟩ : ∃ F, f_X4_undo s r t W LF KF ER ET EW EL EK = F := ⟨_, rfl⟩
  try rw [eF1] at er
  try rw [eF1] at hp
  try rw [eF1]
  try rw [eF1] at z0_h1
  try rw [eF1] at z1_h1
  have k_g_h1 : hAt h1 g = some (gpC (g + 1) (g + 3) (g + 18) (g + 33) (g + 34) (g + 37) F1.2.1) := z0_h1
  have k_g1_h1 : hAt h1 (g + 1) = some (txC (g + 2) x) := (g_h1.2 (g + 1) (nt_X4_undo_1 g)).trans k_g1
  have k_g2_h1 : hAt h1 (g + 2) = some (arC 240 lf) := (g_h1.2 (g + 2) (nt_X4_undo_2 g)).trans k_g2
  have k_g3_h1 : nk h1 (g + 3) F1.2.2.1 F1.2.2.2.1 F1.2.2.2.2.1 F1.2.2.2.2.2.1 F1.2.2.2.2.2.2 := z1_h1
  have k_g18_h1 : nk h1 (g + 18) dr dt DW DL DK := nk_fr (fun q u1 u2 => g_h1.2 q (nt_X4_undo_r18 g q u1 u2)) k_g18
  have k_g33_h1 : hAt h1 (g + 33) = some (arR 2 4 (fun j => some ((g + 38) + 15 * j))) := (g_h1.2 (g + 33) (nt_X4_undo_33 g)).trans k_g33
  have k_g38_h1 : ek h1 (g + 38) ER ET EW EL EK := ek_fr (fun q u1 u2 => g_h1.2 q (nt_X4_undo_r38 g q u1 u2)) k_g38
  have k_g34_h1 : hAt h1 (g + 34) = some (waC (g + 35) (g + 36) tw) := (g_h1.2 (g + 34) (nt_X4_undo_34 g)).trans k_g34
  have k_g35_h1 : hAt h1 (g + 35) = some (arI 6 tl) := (g_h1.2 (g + 35) (nt_X4_undo_35 g)).trans k_g35
  have k_g36_h1 : hAt h1 (g + 36) = some (arI 6 tk) := (g_h1.2 (g + 36) (nt_X4_undo_36 g)).trans k_g36
  have k_g37_h1 : hAt h1 (g + 37) = some (ruC tu) := (g_h1.2 (g + 37) (nt_X4_undo_37 g)).trans k_g37
  have k_g98_h1 : hAt h1 (g + 98) = some (moC (g + 99) (g + 100) (g + 101) (g + 102) (g + 103) m) := (g_h1.2 (g + 98) (nt_X4_undo_98 g)).trans k_g98
  have k_g99_h1 : hAt h1 (g + 99) = some (arI 103 tn) := (g_h1.2 (g + 99) (nt_X4_undo_99 g)).trans k_g99
  have k_g100_h1 : hAt h1 (g + 100) = some (arI 103 tr_) := (g_h1.2 (g + 100) (nt_X4_undo_100 g)).trans k_g100
  have k_g101_h1 : hAt h1 (g + 101) = some (arI 103 ts) := (g_h1.2 (g + 101) (nt_X4_undo_101 g)).trans k_g101
  have k_g102_h1 : hAt h1 (g + 102) = some (arI 412 tp) := (g_h1.2 (g + 102) (nt_X4_undo_102 g)).trans k_g102
  have k_g103_h1 : hAt h1 (g + 103) = some (arI 240 tx) := (g_h1.2 (g + 103) (nt_X4_undo_103 g)).trans k_g103
  refine x_aload_n (pc := 396) dL_law_396 rfl ?_
  obtain ⟨q397, hp⟩ := hp
  refine x_cV0i (pc := 397) dL_law_397 xl_L_60 xv_X5_undo k_g98_h1 rfl (C_X5_undo G _ (g + 98) (g + 99) (g + 100) (g + 101) (g + 102) (g + 103) m tn tp k_g98_h1 k_g99_h1 k_g102_h1 (cNe rfl) q397) rfl rfl rfl ?_
  obtain ⟨F2, eF2⟩ : ∃ F, f_X5_undo m tn tp = F := ⟨_, rfl⟩
  rw [eF2]
  try rw [eF2] at er
  try rw [eF2] at hp
  obtain ⟨h2, eh2⟩ : ∃ z, z = hSet h1 (g + 98) (moC (g + 99) (g + 100) (g + 101) (g + 102) (g + 103) F2.2.1) := ⟨_, rfl⟩
  rw [← eh2]
  have k_g_h2 : hAt h2 g = some (gpC (g + 1) (g + 3) (g + 18) (g + 33) (g + 34) (g + 37) F1.2.1) := by rw [eh2]; exact hAt_n (cNeL rfl) k_g_h1
  have k_g1_h2 : hAt h2 (g + 1) = some (txC (g + 2) x) := by rw [eh2]; exact hAt_n (cNe rfl) k_g1_h1
  have k_g2_h2 : hAt h2 (g + 2) = some (arC 240 lf) := by rw [eh2]; exact hAt_n (cNe rfl) k_g2_h1
  have k_g3_h2 : nk h2 (g + 3) F1.2.2.1 F1.2.2.2.1 F1.2.2.2.2.1 F1.2.2.2.2.2.1 F1.2.2.2.2.2.2 := by rw [eh2]; exact nk_fr1 (cOut rfl) k_g3_h1
  have k_g18_h2 : nk h2 (g + 18) dr dt DW DL DK := by rw [eh2]; exact nk_fr1 (cOut rfl) k_g18_h1
  have k_g33_h2 : hAt h2 (g + 33) = some (arR 2 4 (fun j => some ((g + 38) + 15 * j))) := by rw [eh2]; exact hAt_n (cNe rfl) k_g33_h1
  have k_g38_h2 : ek h2 (g + 38) ER ET EW EL EK := by rw [eh2]; exact ek_fr1 (cOutE rfl) k_g38_h1
  have k_g34_h2 : hAt h2 (g + 34) = some (waC (g + 35) (g + 36) tw) := by rw [eh2]; exact hAt_n (cNe rfl) k_g34_h1
  have k_g35_h2 : hAt h2 (g + 35) = some (arI 6 tl) := by rw [eh2]; exact hAt_n (cNe rfl) k_g35_h1
  have k_g36_h2 : hAt h2 (g + 36) = some (arI 6 tk) := by rw [eh2]; exact hAt_n (cNe rfl) k_g36_h1
  have k_g37_h2 : hAt h2 (g + 37) = some (ruC tu) := by rw [eh2]; exact hAt_n (cNe rfl) k_g37_h1
  have k_g98_h2 : hAt h2 (g + 98) = some (moC (g + 99) (g + 100) (g + 101) (g + 102) (g + 103) F2.2.1) := by rw [eh2]; exact hAt_same
  have k_g99_h2 : hAt h2 (g + 99) = some (arI 103 tn) := by rw [eh2]; exact hAt_n (cNe rfl) k_g99_h1
  have k_g100_h2 : hAt h2 (g + 100) = some (arI 103 tr_) := by rw [eh2]; exact hAt_n (cNe rfl) k_g100_h1
  have k_g101_h2 : hAt h2 (g + 101) = some (arI 103 ts) := by rw [eh2]; exact hAt_n (cNe rfl) k_g101_h1
  have k_g102_h2 : hAt h2 (g + 102) = some (arI 412 tp) := by rw [eh2]; exact hAt_n (cNe rfl) k_g102_h1
  have k_g103_h2 : hAt h2 (g + 103) = some (arI 240 tx) := by rw [eh2]; exact hAt_n (cNe rfl) k_g103_h1
  obtain ⟨h3, eh3⟩ : ∃ z, z = hSet h2 (g + 99) (arI 103 F2.2.2) := ⟨_, rfl⟩
  rw [← eh3]
  have k_g_h3 : hAt h3 g = some (gpC (g + 1) (g + 3) (g + 18) (g + 33) (g + 34) (g + 37) F1.2.1) := by rw [eh3]; exact hAt_n (cNeL rfl) k_g_h2
  have k_g1_h3 : hAt h3 (g + 1) = some (txC (g + 2) x) := by rw [eh3]; exact hAt_n (cNe rfl) k_g1_h2
  have k_g2_h3 : hAt h3 (g + 2) = some (arC 240 lf) := by rw [eh3]; exact hAt_n (cNe rfl) k_g2_h2
  have k_g3_h3 : nk h3 (g + 3) F1.2.2.1 F1.2.2.2.1 F1.2.2.2.2.1 F1.2.2.2.2.2.1 F1.2.2.2.2.2.2 := by rw [eh3]; exact nk_fr1 (cOut rfl) k_g3_h2
  have k_g18_h3 : nk h3 (g + 18) dr dt DW DL DK := by rw [eh3]; exact nk_fr1 (cOut rfl) k_g18_h2
  have k_g33_h3 : hAt h3 (g + 33) = some (arR 2 4 (fun j => some ((g + 38) + 15 * j))) := by rw [eh3]; exact hAt_n (cNe rfl) k_g33_h2
  have k_g38_h3 : ek h3 (g + 38) ER ET EW EL EK := by rw [eh3]; exact ek_fr1 (cOutE rfl) k_g38_h2
  have k_g34_h3 : hAt h3 (g + 34) = some (waC (g + 35) (g + 36) tw) := by rw [eh3]; exact hAt_n (cNe rfl) k_g34_h2
  have k_g35_h3 : hAt h3 (g + 35) = some (arI 6 tl) := by rw [eh3]; exact hAt_n (cNe rfl) k_g35_h2
  have k_g36_h3 : hAt h3 (g + 36) = some (arI 6 tk) := by rw [eh3]; exact hAt_n (cNe rfl) k_g36_h2
  have k_g37_h3 : hAt h3 (g + 37) = some (ruC tu) := by rw [eh3]; exact hAt_n (cNe rfl) k_g37_h2
  have k_g98_h3 : hAt h3 (g + 98) = some (moC (g + 99) (g + 100) (g + 101) (g + 102) (g + 103) F2.2.1) := by rw [eh3]; exact hAt_n (cNe rfl) k_g98_h2
  have k_g99_h3 : hAt h3 (g + 99) = some (arI 103 F2.2.2) := by rw [eh3]; exact hAt_same
  have k_g100_h3 : hAt h3 (g + 100) = some (arI 103 tr_) := by rw [eh3]; exact hAt_n (cNe rfl) k_g100_h2
  have k_g101_h3 : hAt h3 (g + 101) = some (arI 103 ts) := by rw [eh3]; exact hAt_n (cNe rfl) k_g101_h2
  have k_g102_h3 : hAt h3 (g + 102) = some (arI 412 tp) := by rw [eh3]; exact hAt_n (cNe rfl) k_g102_h2
  have k_g103_h3 : hAt h3 (g + 103) = some (arI 240 tx) := by rw [eh3]; exact hAt_n (cNe rfl) k_g103_h2
  refine x_icmp_eq (pc := 400) (tgt := 735) dL_law_400 (by decide) (fun (c1 : F1.1 = F2.1) => ?_) (fun (c1 : ¬ (F1.1 = F2.1)) => ?_)
  · replace hp := hp.1 c1
    rw [if_pos c1] at er
    subst er
    exact kk h3 k_g_h3 k_g1_h3 k_g2_h3 k_g3_h3 k_g18_h3 k_g33_h3 k_g38_h3 k_g34_h3 k_g35_h3 k_g36_h3 k_g37_h3 k_g98_h3 k_g99_h3 k_g100_h3 k_g101_h3 k_g102_h3 k_g103_h3
  · replace hp := hp.2 c1
    rw [if_neg c1] at er
    refine x_iconst (pc := 403) (v := (0 : Int32)) dL_law_403 (by decide) ?_
    exact hp.elim
