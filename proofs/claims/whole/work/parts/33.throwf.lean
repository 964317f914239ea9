theorem thr2 : decode Bundle.six 0 = .ok (.aload_n 0, 1) ∧ decode Bundle.six 1 = .ok (.aload_n 1, 1) ∧ decode Bundle.six 2 = .ok (.invokespecial 7, 3) ∧ decode Bundle.six 5 = .ok (.return_, 1) := ⟨by decide +kernel, by decide +kernel, by decide +kernel, by decide +kernel⟩
theorem thw2 : ∀ w ∈ Bundle.ownAtomsX R_S 58 (wx_N 2) 7 Bundle.six exN, w ∉ wx_four → (w ∈ wG ∧ (w.onTables && w.keeps) = true) ∨ w ∈ wx_B := fun w hw h4 => by
  have h := List.all_eq_true.mp (show (Bundle.ownAtomsX R_S 58 (wx_N 2) 7 Bundle.six exN).all (fun w => decide (w ∈ wx_four) || (decide (w ∈ lw_tbl) && wg_ok w) && (w.onTables && w.keeps) || decide (w ∈ wx_B)) = true by decide +kernel) w hw
  rw [Bool.or_eq_true, Bool.or_eq_true, Bool.and_eq_true, decide_eq_true_eq, decide_eq_true_eq] at h
  rcases h with (h | h) | h
  · exact absurd h h4
  · exact Or.inl ⟨wg_i h.1, h.2⟩
  · exact Or.inr h
theorem thc2 : Cond.classLink R_S 54 (wx_N 2) ∈ wG := wg_i (by decide +kernel)
theorem thi2 : Cond.initialized (wx_N 2) ∈ wG := wg_i (by decide +kernel)
theorem thn2 : Cond.instantiable (wx_N 2) 6 ∈ wG := wg_i (by decide +kernel)
theorem thr0 : decode Bundle.six 0 = .ok (.aload_n 0, 1) ∧ decode Bundle.six 1 = .ok (.aload_n 1, 1) ∧ decode Bundle.six 2 = .ok (.invokespecial 7, 3) ∧ decode Bundle.six 5 = .ok (.return_, 1) := ⟨by decide +kernel, by decide +kernel, by decide +kernel, by decide +kernel⟩
theorem thw0 : ∀ w ∈ Bundle.ownAtomsX R_S 134 (wx_N 0) 7 Bundle.six exN, w ∉ wx_four → (w ∈ wG ∧ (w.onTables && w.keeps) = true) ∨ w ∈ wx_B := fun w hw h4 => by
  have h := List.all_eq_true.mp (show (Bundle.ownAtomsX R_S 134 (wx_N 0) 7 Bundle.six exN).all (fun w => decide (w ∈ wx_four) || (decide (w ∈ lw_tbl) && wg_ok w) && (w.onTables && w.keeps) || decide (w ∈ wx_B)) = true by decide +kernel) w hw
  rw [Bool.or_eq_true, Bool.or_eq_true, Bool.and_eq_true, decide_eq_true_eq, decide_eq_true_eq] at h
  rcases h with (h | h) | h
  · exact absurd h h4
  · exact Or.inl ⟨wg_i h.1, h.2⟩
  · exact Or.inr h
theorem thc0 : Cond.classLink R_S 130 (wx_N 0) ∈ wG := wg_i (by decide +kernel)
theorem thi0 : Cond.initialized (wx_N 0) ∈ wG := wg_i (by decide +kernel)
theorem thn0 : Cond.instantiable (wx_N 0) 6 ∈ wG := wg_i (by decide +kernel)
def nse_rx : ByteArray := ⟨#[0x2a, 0x2b, 0xb7, 0x00, 0x0d, 0xb1]⟩
theorem thr3 : decode nse_rx 0 = .ok (.aload_n 0, 1) ∧ decode nse_rx 1 = .ok (.aload_n 1, 1) ∧ decode nse_rx 2 = .ok (.invokespecial 13, 3) ∧ decode nse_rx 5 = .ok (.return_, 1) := ⟨by decide +kernel, by decide +kernel, by decide +kernel, by decide +kernel⟩
theorem thw3 : ∀ w ∈ Bundle.ownAtomsX R_S 139 (wx_N 3) 13 nse_rx exN, w ∉ wx_four → (w ∈ wG ∧ (w.onTables && w.keeps) = true) ∨ w ∈ wx_B := fun w hw h4 => by
  have h := List.all_eq_true.mp (show (Bundle.ownAtomsX R_S 139 (wx_N 3) 13 nse_rx exN).all (fun w => decide (w ∈ wx_four) || (decide (w ∈ lw_tbl) && wg_ok w) && (w.onTables && w.keeps) || decide (w ∈ wx_B)) = true by decide +kernel) w hw
  rw [Bool.or_eq_true, Bool.or_eq_true, Bool.and_eq_true, decide_eq_true_eq, decide_eq_true_eq] at h
  rcases h with (h | h) | h
  · exact absurd h h4
  · exact Or.inl ⟨wg_i h.1, h.2⟩
  · exact Or.inr h
theorem thc3 : Cond.classLink R_S 135 (wx_N 3) ∈ wG := wg_i (by decide +kernel)
theorem thi3 : Cond.initialized (wx_N 3) ∈ wG := wg_i (by decide +kernel)
theorem thn3 : Cond.instantiable (wx_N 3) 6 ∈ wG := wg_i (by decide +kernel)
theorem thr1 : decode Bundle.six 0 = .ok (.aload_n 0, 1) ∧ decode Bundle.six 1 = .ok (.aload_n 1, 1) ∧ decode Bundle.six 2 = .ok (.invokespecial 7, 3) ∧ decode Bundle.six 5 = .ok (.return_, 1) := ⟨by decide +kernel, by decide +kernel, by decide +kernel, by decide +kernel⟩
theorem thw1 : ∀ w ∈ Bundle.ownAtomsX R_S 144 (wx_N 1) 7 Bundle.six exN, w ∉ wx_four → (w ∈ wG ∧ (w.onTables && w.keeps) = true) ∨ w ∈ wx_B := fun w hw h4 => by
  have h := List.all_eq_true.mp (show (Bundle.ownAtomsX R_S 144 (wx_N 1) 7 Bundle.six exN).all (fun w => decide (w ∈ wx_four) || (decide (w ∈ lw_tbl) && wg_ok w) && (w.onTables && w.keeps) || decide (w ∈ wx_B)) = true by decide +kernel) w hw
  rw [Bool.or_eq_true, Bool.or_eq_true, Bool.and_eq_true, decide_eq_true_eq, decide_eq_true_eq] at h
  rcases h with (h | h) | h
  · exact absurd h h4
  · exact Or.inl ⟨wg_i h.1, h.2⟩
  · exact Or.inr h
theorem thc1 : Cond.classLink R_S 140 (wx_N 1) ∈ wG := wg_i (by decide +kernel)
theorem thi1 : Cond.initialized (wx_N 1) ∈ wG := wg_i (by decide +kernel)
theorem thn1 : Cond.instantiable (wx_N 1) 6 ∈ wG := wg_i (by decide +kernel)
