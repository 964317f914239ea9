
/-! ===== the words of all methods: the tables' good words ===== -/
def wg_ok (w : Cond) : Bool := (w.onTables && w.keeps) || (match w with
  | .arrayClass _ => true
  | _ => false)
def wG : List Cond := lw_tbl.filter wg_ok
theorem wg_in {w : Cond} (h1 : w ∈ lw_tbl) (h2 : wg_ok w = true) : w ∈ wG := List.mem_filter.mpr ⟨h1, h2⟩
theorem wg_good {w : Cond} (h : w ∈ wG) : (w.onTables && w.keeps) = true ∨ ∃ ty, w = .arrayClass ty := by
  have h2 := (List.mem_filter.mp h).2
  unfold wg_ok at h2
  rcases Bool.or_eq_true _ _ |>.mp h2 with h3 | h3
  · exact Or.inl h3
  · cases w <;> first | exact Or.inr ⟨_, rfl⟩ | (simp at h3)
theorem wg_sub {big : List Cond} (hbig : ∀ w ∈ wG, w ∈ big) {ws : List Cond} (h : ∀ w ∈ ws, w ∈ wG) : GoodIn big ws := fun w hw => ⟨hbig w (h w hw), wg_good (h w hw)⟩
/-- a callee and its link, by the words -/
def lkV (own : String) (idx : Nat) (C : String) (y : MethodName) (b : ByteArray) (maxL : Nat) (ret : Option FieldType) (n : Nat) : Prop :=
  Cond.methodLink own idx y ∈ wG ∧ Cond.instanceMethod y ∈ wG ∧ Cond.selects C y y ∈ wG ∧ Cond.initialized C ∈ wG ∧ Cond.code y b maxL ret ∈ wG ∧
  (y.cls = C ∧ y.cls ≠ "java/lang/invoke/MethodHandle" ∧ y.cls ≠ "java/lang/invoke/VarHandle" ∧ (parseMethodDescriptor y.desc).map (fun d => d.parameters.length) = some n)
def lkS (own : String) (idx : Nat) (y : MethodName) (b : ByteArray) (maxL : Nat) (ret : Option FieldType) (n : Nat) : Prop :=
  Cond.methodLink own idx y ∈ wG ∧ Cond.static y ∈ wG ∧ Cond.initialized own ∈ wG ∧ Cond.code y b maxL ret ∈ wG ∧
  (y.cls = own ∧ y.cls ≠ "java/lang/invoke/MethodHandle" ∧ y.cls ≠ "java/lang/invoke/VarHandle" ∧ (parseMethodDescriptor y.desc).map (fun d => d.parameters.length) = some n)
theorem lkV.cw {own : String} {idx : Nat} {C : String} {y : MethodName} {b : ByteArray} {maxL : Nat} {ret : Option FieldType} {n : Nat} (k : lkV own idx C y b maxL ret n) {R rm : Room} {s : State} {args : Array Value} (hG : ∀ w ∈ wG, w.before args s = true) (hR : rm.frames + 1 ≤ R.frames ∧ 8 + (maxL + 11) + rm.locals ≤ R.locals) :
    CallW R s args own C idx y b maxL ret (.code y b maxL ret :: wG) rm rm.cells rm.slots n := by
  obtain ⟨k1, k2, k3, k4, k5, k6⟩ := k
  refine cwV n hG (wg_sub (fun w h => h) fun w hw => ?_) rfl rfl rfl k6 hR
  simp only [wsV, List.mem_append, List.mem_cons, List.not_mem_nil, or_false] at hw
  rcases hw with (rfl | rfl | rfl | rfl) | rfl | hw
  · exact k1
  · exact k2
  · exact k3
  · exact k4
  · exact k5
  · exact hw
theorem lkS.cw {own : String} {idx : Nat} {y : MethodName} {b : ByteArray} {maxL : Nat} {ret : Option FieldType} {n : Nat} (k : lkS own idx y b maxL ret n) {R rm : Room} {s : State} {args : Array Value} (hG : ∀ w ∈ wG, w.before args s = true) (hR : rm.frames + 1 ≤ R.frames ∧ 8 + (maxL + 11) + rm.locals ≤ R.locals) :
    CallB R s args own idx y b maxL ret (.code y b maxL ret :: wG) rm rm.cells rm.slots n ∧ (Cond.static y).before args s = true := by
  obtain ⟨k1, k2, k3, k4, k6⟩ := k
  refine cwS n hG (wg_sub (fun w h => h) fun w hw => ?_) rfl rfl rfl k6 hR
  simp only [wsS, List.mem_append, List.mem_cons, List.not_mem_nil, or_false] at hw
  rcases hw with (rfl | rfl | rfl) | rfl | hw
  · exact k1
  · exact k2
  · exact k3
  · exact k4
  · exact hw
/-- what a walk stands on: the machine, the code, the class, the words -/
def gC (p : Program) (s : State) (m : MethodId) (args : Array Value) (meth : Method) (c : Code) (cc : ByteArray) (nL : Nat) (own : String) : Prop :=
  p.tables.exec = Jvm.exec ∧ c.code = cc ∧ c.maxLocals = nL ∧ s.vm.findClass own = some m.cls ∧ (∀ w ∈ wG, w.before args s = true) ∧ meth.locks = false

theorem wg_i {w : Cond} (h : (decide (w ∈ lw_tbl) && wg_ok w) = true) : w ∈ wG := by
  simp only [Bool.and_eq_true, decide_eq_true_eq] at h
  exact wg_in h.1 h.2
theorem lay_S : ∀ w ∈ u_ws R_S F_S 11, w ∈ wG := fun w hw => wg_i ((List.all_eq_true.mp (show (u_ws R_S F_S 11).all (fun w => decide (w ∈ lw_tbl) && wg_ok w) = true by decide +kernel)) w hw)
theorem fl_S0 : Cond.fieldLink R_S 9 R_S "blockWords" "[I" ∈ wG := wg_i (by decide +kernel)
theorem fl_S1 : Cond.fieldLink R_S 13 R_S "copyWords" "[I" ∈ wG := wg_i (by decide +kernel)
theorem fl_S2 : Cond.fieldLink R_S 16 R_S "tagStamps" "[I" ∈ wG := wg_i (by decide +kernel)
theorem fl_S3 : Cond.fieldLink R_S 19 R_S "tagBlocks" "[I" ∈ wG := wg_i (by decide +kernel)
theorem fl_S4 : Cond.fieldLink R_S 22 R_S "stamps" "[I" ∈ wG := wg_i (by decide +kernel)
theorem fl_S5 : Cond.fieldLink R_S 107 R_S "roll" "I" ∈ wG := wg_i (by decide +kernel)
theorem fl_S6 : Cond.fieldLink R_S 127 R_S "mark" "I" ∈ wG := wg_i (by decide +kernel)
theorem fl_S7 : Cond.fieldLink R_S 61 R_S "lastStamp" "I" ∈ wG := wg_i (by decide +kernel)
theorem fl_S8 : Cond.fieldLink R_S 102 R_S "fuseLeft" "I" ∈ wG := wg_i (by decide +kernel)
theorem fl_S9 : Cond.fieldLink R_S 98 R_S "down" "Z" ∈ wG := wg_i (by decide +kernel)
theorem fl_S10 : Cond.fieldLink R_S 110 R_S "writesDone" "I" ∈ wG := wg_i (by decide +kernel)
theorem lay_M : ∀ w ∈ u_ws R_M F_M 10, w ∈ wG := fun w hw => wg_i ((List.all_eq_true.mp (show (u_ws R_M F_M 10).all (fun w => decide (w ∈ lw_tbl) && wg_ok w) = true by decide +kernel)) w hw)
theorem fl_M0 : Cond.fieldLink R_M 27 R_M "code" "I" ∈ wG := wg_i (by decide +kernel)
theorem fl_M1 : Cond.fieldLink R_M 33 R_M "down" "Z" ∈ wG := wg_i (by decide +kernel)
theorem fl_M2 : Cond.fieldLink R_M 7 R_M "fuse" "I" ∈ wG := wg_i (by decide +kernel)
theorem fl_M3 : Cond.fieldLink R_M 37 R_M "count" "I" ∈ wG := wg_i (by decide +kernel)
theorem fl_M4 : Cond.fieldLink R_M 13 R_M "volume" "[I" ∈ wG := wg_i (by decide +kernel)
theorem fl_M5 : Cond.fieldLink R_M 17 R_M "words" "[I" ∈ wG := wg_i (by decide +kernel)
theorem fl_M6 : Cond.fieldLink R_M 20 R_M "there" "[Z" ∈ wG := wg_i (by decide +kernel)
theorem fl_M7 : Cond.fieldLink R_M 24 R_M "own" "[I" ∈ wG := wg_i (by decide +kernel)
theorem fl_M8 : Cond.fieldLink R_M 30 R_M "back" "I" ∈ wG := wg_i (by decide +kernel)
theorem fl_M9 : Cond.fieldLink R_M 86 R_M "mark" "I" ∈ wG := wg_i (by decide +kernel)
