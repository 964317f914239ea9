theorem thw2 : ∀ w ∈ wx_words R_S 58 (wx_N 2) exN, w ∈ wG ∧ (w.onTables && w.keeps) = true := fun w hw => by
  have h := List.all_eq_true.mp (show (wx_words R_S 58 (wx_N 2) exN).all (fun w => (decide (w ∈ lw_tbl) && wg_ok w) && (w.onTables && w.keeps)) = true by decide +kernel) w hw
  rw [Bool.and_eq_true] at h
  exact ⟨wg_i h.1, h.2⟩
theorem thc2 : Cond.classLink R_S 54 (wx_N 2) ∈ wG := wg_i (by decide +kernel)
theorem thi2 : Cond.initialized (wx_N 2) ∈ wG := wg_i (by decide +kernel)
theorem thn2 : Cond.instantiable (wx_N 2) 6 ∈ wG := wg_i (by decide +kernel)
theorem thw0 : ∀ w ∈ wx_words R_S 134 (wx_N 0) exN, w ∈ wG ∧ (w.onTables && w.keeps) = true := fun w hw => by
  have h := List.all_eq_true.mp (show (wx_words R_S 134 (wx_N 0) exN).all (fun w => (decide (w ∈ lw_tbl) && wg_ok w) && (w.onTables && w.keeps)) = true by decide +kernel) w hw
  rw [Bool.and_eq_true] at h
  exact ⟨wg_i h.1, h.2⟩
theorem thc0 : Cond.classLink R_S 130 (wx_N 0) ∈ wG := wg_i (by decide +kernel)
theorem thi0 : Cond.initialized (wx_N 0) ∈ wG := wg_i (by decide +kernel)
theorem thn0 : Cond.instantiable (wx_N 0) 6 ∈ wG := wg_i (by decide +kernel)
theorem thw3 : ∀ w ∈ wx_words R_S 139 (wx_N 3) exN, w ∈ wG ∧ (w.onTables && w.keeps) = true := fun w hw => by
  have h := List.all_eq_true.mp (show (wx_words R_S 139 (wx_N 3) exN).all (fun w => (decide (w ∈ lw_tbl) && wg_ok w) && (w.onTables && w.keeps)) = true by decide +kernel) w hw
  rw [Bool.and_eq_true] at h
  exact ⟨wg_i h.1, h.2⟩
theorem thc3 : Cond.classLink R_S 135 (wx_N 3) ∈ wG := wg_i (by decide +kernel)
theorem thi3 : Cond.initialized (wx_N 3) ∈ wG := wg_i (by decide +kernel)
theorem thn3 : Cond.instantiable (wx_N 3) 6 ∈ wG := wg_i (by decide +kernel)
theorem thw1 : ∀ w ∈ wx_words R_S 144 (wx_N 1) exN, w ∈ wG ∧ (w.onTables && w.keeps) = true := fun w hw => by
  have h := List.all_eq_true.mp (show (wx_words R_S 144 (wx_N 1) exN).all (fun w => (decide (w ∈ lw_tbl) && wg_ok w) && (w.onTables && w.keeps)) = true by decide +kernel) w hw
  rw [Bool.and_eq_true] at h
  exact ⟨wg_i h.1, h.2⟩
theorem thc1 : Cond.classLink R_S 140 (wx_N 1) ∈ wG := wg_i (by decide +kernel)
theorem thi1 : Cond.initialized (wx_N 1) ∈ wG := wg_i (by decide +kernel)
theorem thn1 : Cond.instantiable (wx_N 1) 6 ∈ wG := wg_i (by decide +kernel)
