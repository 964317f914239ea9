theorem kx_arr {args : Array Value} {s : State} {ty : FieldType} (h : (Cond.arrayClass ty).before args s = true) : ∃ cA : ClassId, ArrOfT s cA ty ∧ s.vm.findClass ("[" ++ ty.toString) = some cA := by
  obtain ⟨cA, kA, comp, hf, hk, hkind⟩ := Cond.arrayClass_spec h
  exact ⟨cA, fun n z => ⟨fun k h => (by cases h), kA, hk, comp, hkind⟩, hf⟩
def hOf (h0 q1 q2 q3 q4 q5 : Nat) : Nat → Nat := fun k => match k with
  | 0 => h0
  | 1 => q1
  | 2 => q2
  | 3 => q3
  | 4 => q4
  | _ => q5
def zS : List Value := [.null, .null, .null, .null, .null, .int (nI 0), .int (nI 0), .int (nI 0), .int (nI 0), .int (bI false), .int (nI 0)]
def zM : List Value := [.int (nI 0), .int (bI false), .int (nI 0), .int (nI 0), .null, .null, .null, .null, .int (nI 0), .int (nI 0)]
section KX
variable {p : Program} {l : Launch} {e : Env} {R : Room} {s : State} {m : MethodId} {args : Array Value} {below : List Frame} {meth : Method} {c : Code} {H H0 : Heap} {locs : List Loc} {cells slots : Nat} {Q : State → Prop}
variable {cc : ByteArray} {pc : Nat} {ls : Array Slot} {rest : List Value} {D : va_G} {cA : Nat → ClassId} {A : Nat → Prop} {ws : va_W}
theorem kx_newi (hexec : p.tables.exec = Jvm.exec) (hb : c.code = cc) (harr : (Cond.arrayClass .int).before args s = true) (hK : va_K D vcl (ty3 cA) s) (hP : va_P D vcl ws H) (hD : va_D A ws) (hS : va_S A H0 H locs) (hA : ∀ q, H0.size ≤ q → A q) (N : Nat) (hN : N < 1000) (hcells : cells + 1 ≤ R.cells) (hslots : slots + N ≤ R.slots) (hdg : decode cc pc = .ok (.newarray .int, 2))
    (kk : ∀ (q : Nat) (H1 : Heap), va_P D vcl (ws ++ [(q, .inl (cA 0, N, .inl (fun _ => 0)))]) H1 → va_D A (ws ++ [(q, .inl (cA 0, N, .inl (fun _ => 0)))]) → va_S A H0 H1 locs → W p l e R s m args below meth c H1 locs (cells + 1) (slots + N) Q (F0 m (pc + 2) ls (.ref q :: rest))) : W p l e R s m args below meth c H locs cells slots Q (F0 m pc ls (.int (nI N) :: rest)) := by
  refine va_newa (atype := .int) (ty := .int) (N' := N) (a0 := (N, .inl (fun _ => 0))) hexec hb harr rfl hK hP hD hS hA (fun _ => rfl) (nI_pos (by omega)) (nI_clamp (by omega)) (Nat.le_trans (Nat.mul_le_mul_right _ (Nat.le_of_lt hN)) (by decide)) hcells hslots hdg (fun q c1 H1 hK1 hP1 hD1 hS1 => ?_)
  have e1 : va_RA s c1 .int := (hK1.2 3 (c1, .int) rfl).2
  have e2 : va_RA s (cA 0) .int := (hK.2 0 (cA 0, .int) rfl).2
  have e3 : s.vm.findClass ("[" ++ FieldType.int.toString) = some c1 := e1
  have e4 : s.vm.findClass ("[" ++ FieldType.int.toString) = some (cA 0) := e2
  have e5 : c1 = cA 0 := Option.some.inj (e3.symm.trans e4)
  subst e5
  exact kk q H1 hP1 hD1 hS1
theorem kx_newz (hexec : p.tables.exec = Jvm.exec) (hb : c.code = cc) (harr : (Cond.arrayClass .boolean).before args s = true) (hK : va_K D vcl (ty3 cA) s) (hP : va_P D vcl ws H) (hD : va_D A ws) (hS : va_S A H0 H locs) (hA : ∀ q, H0.size ≤ q → A q) (N : Nat) (hN : N < 1000) (hcells : cells + 1 ≤ R.cells) (hslots : slots + N ≤ R.slots) (hdg : decode cc pc = .ok (.newarray .boolean, 2))
    (kk : ∀ (q : Nat) (H1 : Heap), va_P D vcl (ws ++ [(q, .inl (cA 1, N, .inl (fun _ => 0)))]) H1 → va_D A (ws ++ [(q, .inl (cA 1, N, .inl (fun _ => 0)))]) → va_S A H0 H1 locs → W p l e R s m args below meth c H1 locs (cells + 1) (slots + N) Q (F0 m (pc + 2) ls (.ref q :: rest))) : W p l e R s m args below meth c H locs cells slots Q (F0 m pc ls (.int (nI N) :: rest)) := by
  refine va_newa (atype := .boolean) (ty := .boolean) (N' := N) (a0 := (N, .inl (fun _ => 0))) hexec hb harr rfl hK hP hD hS hA (fun _ => rfl) (nI_pos (by omega)) (nI_clamp (by omega)) (Nat.le_trans (Nat.mul_le_mul_right _ (Nat.le_of_lt hN)) (by decide)) hcells hslots hdg (fun q c1 H1 hK1 hP1 hD1 hS1 => ?_)
  have e1 : va_RA s c1 .boolean := (hK1.2 3 (c1, .boolean) rfl).2
  have e2 : va_RA s (cA 1) .boolean := (hK.2 1 (cA 1, .boolean) rfl).2
  have e3 : s.vm.findClass ("[" ++ FieldType.boolean.toString) = some c1 := e1
  have e4 : s.vm.findClass ("[" ++ FieldType.boolean.toString) = some (cA 1) := e2
  have e5 : c1 = cA 1 := Option.some.inj (e3.symm.trans e4)
  subst e5
  exact kk q H1 hP1 hD1 hS1
theorem kx_newl (hexec : p.tables.exec = Jvm.exec) (hb : c.code = cc) (harr : (Cond.arrayClass .long).before args s = true) (hK : va_K D vcl (ty3 cA) s) (hP : va_P D vcl ws H) (hD : va_D A ws) (hS : va_S A H0 H locs) (hA : ∀ q, H0.size ≤ q → A q) (N : Nat) (hN : N < 1000) (hcells : cells + 1 ≤ R.cells) (hslots : slots + N ≤ R.slots) (hdg : decode cc pc = .ok (.newarray .long, 2))
    (kk : ∀ (q : Nat) (H1 : Heap), va_P D vcl (ws ++ [(q, .inl (cA 2, N, .inr (.inl (fun _ => 0))))]) H1 → va_D A (ws ++ [(q, .inl (cA 2, N, .inr (.inl (fun _ => 0))))]) → va_S A H0 H1 locs → W p l e R s m args below meth c H1 locs (cells + 1) (slots + N) Q (F0 m (pc + 2) ls (.ref q :: rest))) : W p l e R s m args below meth c H locs cells slots Q (F0 m pc ls (.int (nI N) :: rest)) := by
  refine va_newa (atype := .long) (ty := .long) (N' := N) (a0 := (N, .inr (.inl (fun _ => 0)))) hexec hb harr rfl hK hP hD hS hA (fun _ => rfl) (nI_pos (by omega)) (nI_clamp (by omega)) (Nat.le_trans (Nat.mul_le_mul_right _ (Nat.le_of_lt hN)) (by decide)) hcells hslots hdg (fun q c1 H1 hK1 hP1 hD1 hS1 => ?_)
  have e1 : va_RA s c1 .long := (hK1.2 3 (c1, .long) rfl).2
  have e2 : va_RA s (cA 2) .long := (hK.2 2 (cA 2, .long) rfl).2
  have e3 : s.vm.findClass ("[" ++ FieldType.long.toString) = some c1 := e1
  have e4 : s.vm.findClass ("[" ++ FieldType.long.toString) = some (cA 2) := e2
  have e5 : c1 = cA 2 := Option.some.inj (e3.symm.trans e4)
  subst e5
  exact kk q H1 hP1 hD1 hS1
end KX
theorem ac_i : Cond.arrayClass .int ∈ wG := wg_i (by decide +kernel)
theorem ac_z : Cond.arrayClass .boolean ∈ wG := wg_i (by decide +kernel)
theorem ac_l : Cond.arrayClass .long ∈ wG := wg_i (by decide +kernel)
theorem oi_S : Cond.methodLink R_S 1 Lib.objectInit ∈ wG := wg_i (by decide +kernel)
theorem oi_M : Cond.methodLink R_M 1 Lib.objectInit ∈ wG := wg_i (by decide +kernel)
theorem oi_i : Cond.instanceMethod Lib.objectInit ∈ wG := wg_i (by decide +kernel)
theorem oi_c : Cond.code Lib.objectInit ⟨#[0xb1]⟩ 1 none ∈ wG := wg_i (by decide +kernel)
def rmC (n k : Nat) : Room := { frames := 9, cells := n, slots := k, locals := 160 }
set_option maxHeartbeats 4000000 in
set_option maxRecDepth 100000 in
theorem c_S_init (l : Launch) (D : va_G) (cA : Nat → ClassId) (h0 sz : Nat) : Met l y_S_init (.code y_S_init b_S_init 1 none :: wG) (rmC 5 81) (va_Pc [.ref h0] (fun U => U.heap.size = sz ∧ va_P D vcl [(h0, .inr (0, zS))] U.heap ∧ va_K D vcl (ty3 cA) U ∧ va_D (fun _ => True) [(h0, .inr (0, zS))])) (va_Qv (fun v : (Nat → Nat) × SV => v.1 0 = h0 ∧ sv0 v.2) (fun v t => svAt D cA (va_A [(h0, .inr (0, zS))] sz) v.1 v.2 t) (va_A [(h0, .inr (0, zS))] sz)) 5 81 (va_A [(h0, .inr (0, zS))] sz) := by
  refine Met.ofW (cc := b_S_init) (maxL := 1) (ret := none) (by decide) rfl ?_
  intro p e s m args below meth c s₁ B hml hv
  obtain ⟨rfl, hsz, hP, hK, hD0⟩ := hv
  subst hsz
  have hts := atoms_spec (ws := .code y_S_init b_S_init 1 none :: wG) B.pre
  have hin : meth.name = "<init>" := (name_of_methodNamed B.named B.method).1
  have C : gC p s m #[.ref h0] meth c b_S_init 1 R_S := ⟨B.exec, B.bytes, hml, findClass_of_methodNamed B.named, fun w hw => hts w (List.mem_cons_of_mem _ hw), B.notSynchronized⟩
  have hr := B.returns
  have hD := hD0.self (sz := s.heap.size)
  generalize hAe : va_A [(h0, .inr (0, zS))] s.heap.size = A at hD ⊢
  have hA : ∀ q : Nat, s.heap.size ≤ q → A q := fun q h => by rw [← hAe]; exact Or.inr h
  have hS : va_S A s.heap s.heap [] := va_S.rf
  have hl := lv_entry [.ref h0] (n := 1) (Nat.le_of_ble_eq_true rfl)
  rw [lg_entry_eq]
  generalize (lg_sl ([.ref h0]) ++ List.replicate (1 - (lg_sl ([.ref h0])).length) Slot.unset).toArray = ls at hl ⊢
  have hl : lv_has ls 1 [(0, .ref h0)] := hl
  have hP : va_P D vcl [(h0, .inr (0, [.null, .null, .null, .null, .null, .int (nI 0), .int (nI 0), .int (nI 0), .int (nI 0), .int (bI false), .int (nI 0)]))] s.heap := hP
  have hD : va_D A [(h0, .inr (0, [.null, .null, .null, .null, .null, .int (nI 0), .int (nI 0), .int (nI 0), .int (nI 0), .int (bI false), .int (nI 0)]))] := hD
  refine lv_aload_n C.1 C.2.1 d_S_init_0 rfl (lv_at hl 0 rfl) ?_
  refine W.objInit C.1 C.2.1 C.2.2.2.1 (C.2.2.2.2.1 _ oi_S) (C.2.2.2.2.1 _ oi_i) (C.2.2.2.2.1 _ oi_c) rfl (by rw [hml]; exact hl.1) rfl d_S_init_1 (Nat.le_of_ble_eq_true rfl) (Nat.le_of_ble_eq_true rfl) ?_
  refine W.eq (g2 := F0 m 4 ls []) rfl ?_
  refine lv_aload_n C.1 C.2.1 d_S_init_4 rfl (lv_at hl 0 rfl) ?_
  refine lv_bipush (v := nI 24) C.1 C.2.1 d_S_init_5 (by decide) ?_
  refine kx_newi C.1 C.2.1 (C.2.2.2.2.1 _ ac_i) hK hP hD hS hA 24 (by decide) (Nat.le_of_ble_eq_true rfl) (Nat.le_of_ble_eq_true rfl) d_S_init_7 (fun q1 H hP hD hS => ?_)
  have hP : va_P D vcl [(h0, .inr (0, [.null, .null, .null, .null, .null, .int (nI 0), .int (nI 0), .int (nI 0), .int (nI 0), .int (bI false), .int (nI 0)])), (q1, .inl (cA 0, 24, .inl (fun _ => 0)))] H := hP
  have hD : va_D A [(h0, .inr (0, [.null, .null, .null, .null, .null, .int (nI 0), .int (nI 0), .int (nI 0), .int (nI 0), .int (bI false), .int (nI 0)])), (q1, .inl (cA 0, 24, .inl (fun _ => 0)))] := hD
  refine W.widen (k := 1) (n := 24) (by omega) (by omega) ?_
  refine va_putF (D := D) (ci := 0) (v := .ref q1) (ty := .array .int) (C := R_S) (T := F_S) (N := 11) C.1 C.2.1 C.2.2.2.2.1 lay_S t_S t_S_ok n_S C.2.2.2.1 hK hP hD hS 0 rfl rfl 0 (by decide) (C.2.2.2.2.1 _ fl_S0) (fun _ h9 => h9) rfl hin rfl (by decide +kernel) rfl rfl (Nat.le_of_ble_eq_true rfl) d_S_init_9 (fun H locs hP hD hS => ?_)
  have hP : va_P D vcl [(h0, .inr (0, [.ref q1, .null, .null, .null, .null, .int (nI 0), .int (nI 0), .int (nI 0), .int (nI 0), .int (bI false), .int (nI 0)])), (q1, .inl (cA 0, 24, .inl (fun _ => 0)))] H := hP
  have hD : va_D A [(h0, .inr (0, [.ref q1, .null, .null, .null, .null, .int (nI 0), .int (nI 0), .int (nI 0), .int (nI 0), .int (bI false), .int (nI 0)])), (q1, .inl (cA 0, 24, .inl (fun _ => 0)))] := hD
  refine lv_aload_n C.1 C.2.1 d_S_init_12 rfl (lv_at hl 0 rfl) ?_
  refine lv_bipush (v := nI 36) C.1 C.2.1 d_S_init_13 (by decide) ?_
  refine kx_newi C.1 C.2.1 (C.2.2.2.2.1 _ ac_i) hK hP hD hS hA 36 (by decide) (Nat.le_of_ble_eq_true rfl) (Nat.le_of_ble_eq_true rfl) d_S_init_15 (fun q2 H hP hD hS => ?_)
  have hP : va_P D vcl [(h0, .inr (0, [.ref q1, .null, .null, .null, .null, .int (nI 0), .int (nI 0), .int (nI 0), .int (nI 0), .int (bI false), .int (nI 0)])), (q1, .inl (cA 0, 24, .inl (fun _ => 0))), (q2, .inl (cA 0, 36, .inl (fun _ => 0)))] H := hP
  have hD : va_D A [(h0, .inr (0, [.ref q1, .null, .null, .null, .null, .int (nI 0), .int (nI 0), .int (nI 0), .int (nI 0), .int (bI false), .int (nI 0)])), (q1, .inl (cA 0, 24, .inl (fun _ => 0))), (q2, .inl (cA 0, 36, .inl (fun _ => 0)))] := hD
  refine W.widen (k := 2) (n := 60) (by omega) (by omega) ?_
  refine va_putF (D := D) (ci := 0) (v := .ref q2) (ty := .array .int) (C := R_S) (T := F_S) (N := 11) C.1 C.2.1 C.2.2.2.2.1 lay_S t_S t_S_ok n_S C.2.2.2.1 hK hP hD hS 0 rfl rfl 1 (by decide) (C.2.2.2.2.1 _ fl_S1) (fun _ h9 => h9) rfl hin rfl (by decide +kernel) rfl rfl (Nat.le_of_ble_eq_true rfl) d_S_init_17 (fun H locs hP hD hS => ?_)
  have hP : va_P D vcl [(h0, .inr (0, [.ref q1, .ref q2, .null, .null, .null, .int (nI 0), .int (nI 0), .int (nI 0), .int (nI 0), .int (bI false), .int (nI 0)])), (q1, .inl (cA 0, 24, .inl (fun _ => 0))), (q2, .inl (cA 0, 36, .inl (fun _ => 0)))] H := hP
  have hD : va_D A [(h0, .inr (0, [.ref q1, .ref q2, .null, .null, .null, .int (nI 0), .int (nI 0), .int (nI 0), .int (nI 0), .int (bI false), .int (nI 0)])), (q1, .inl (cA 0, 24, .inl (fun _ => 0))), (q2, .inl (cA 0, 36, .inl (fun _ => 0)))] := hD
  refine lv_aload_n C.1 C.2.1 d_S_init_20 rfl (lv_at hl 0 rfl) ?_
  refine lv_bipush (v := nI 9) C.1 C.2.1 d_S_init_21 (by decide) ?_
  refine kx_newi C.1 C.2.1 (C.2.2.2.2.1 _ ac_i) hK hP hD hS hA 9 (by decide) (Nat.le_of_ble_eq_true rfl) (Nat.le_of_ble_eq_true rfl) d_S_init_23 (fun q3 H hP hD hS => ?_)
  have hP : va_P D vcl [(h0, .inr (0, [.ref q1, .ref q2, .null, .null, .null, .int (nI 0), .int (nI 0), .int (nI 0), .int (nI 0), .int (bI false), .int (nI 0)])), (q1, .inl (cA 0, 24, .inl (fun _ => 0))), (q2, .inl (cA 0, 36, .inl (fun _ => 0))), (q3, .inl (cA 0, 9, .inl (fun _ => 0)))] H := hP
  have hD : va_D A [(h0, .inr (0, [.ref q1, .ref q2, .null, .null, .null, .int (nI 0), .int (nI 0), .int (nI 0), .int (nI 0), .int (bI false), .int (nI 0)])), (q1, .inl (cA 0, 24, .inl (fun _ => 0))), (q2, .inl (cA 0, 36, .inl (fun _ => 0))), (q3, .inl (cA 0, 9, .inl (fun _ => 0)))] := hD
  refine W.widen (k := 3) (n := 69) (by omega) (by omega) ?_
  refine va_putF (D := D) (ci := 0) (v := .ref q3) (ty := .array .int) (C := R_S) (T := F_S) (N := 11) C.1 C.2.1 C.2.2.2.2.1 lay_S t_S t_S_ok n_S C.2.2.2.1 hK hP hD hS 0 rfl rfl 2 (by decide) (C.2.2.2.2.1 _ fl_S2) (fun _ h9 => h9) rfl hin rfl (by decide +kernel) rfl rfl (Nat.le_of_ble_eq_true rfl) d_S_init_25 (fun H locs hP hD hS => ?_)
  have hP : va_P D vcl [(h0, .inr (0, [.ref q1, .ref q2, .ref q3, .null, .null, .int (nI 0), .int (nI 0), .int (nI 0), .int (nI 0), .int (bI false), .int (nI 0)])), (q1, .inl (cA 0, 24, .inl (fun _ => 0))), (q2, .inl (cA 0, 36, .inl (fun _ => 0))), (q3, .inl (cA 0, 9, .inl (fun _ => 0)))] H := hP
  have hD : va_D A [(h0, .inr (0, [.ref q1, .ref q2, .ref q3, .null, .null, .int (nI 0), .int (nI 0), .int (nI 0), .int (nI 0), .int (bI false), .int (nI 0)])), (q1, .inl (cA 0, 24, .inl (fun _ => 0))), (q2, .inl (cA 0, 36, .inl (fun _ => 0))), (q3, .inl (cA 0, 9, .inl (fun _ => 0)))] := hD
  refine lv_aload_n C.1 C.2.1 d_S_init_28 rfl (lv_at hl 0 rfl) ?_
  refine lv_bipush (v := nI 9) C.1 C.2.1 d_S_init_29 (by decide) ?_
  refine kx_newi C.1 C.2.1 (C.2.2.2.2.1 _ ac_i) hK hP hD hS hA 9 (by decide) (Nat.le_of_ble_eq_true rfl) (Nat.le_of_ble_eq_true rfl) d_S_init_31 (fun q4 H hP hD hS => ?_)
  have hP : va_P D vcl [(h0, .inr (0, [.ref q1, .ref q2, .ref q3, .null, .null, .int (nI 0), .int (nI 0), .int (nI 0), .int (nI 0), .int (bI false), .int (nI 0)])), (q1, .inl (cA 0, 24, .inl (fun _ => 0))), (q2, .inl (cA 0, 36, .inl (fun _ => 0))), (q3, .inl (cA 0, 9, .inl (fun _ => 0))), (q4, .inl (cA 0, 9, .inl (fun _ => 0)))] H := hP
  have hD : va_D A [(h0, .inr (0, [.ref q1, .ref q2, .ref q3, .null, .null, .int (nI 0), .int (nI 0), .int (nI 0), .int (nI 0), .int (bI false), .int (nI 0)])), (q1, .inl (cA 0, 24, .inl (fun _ => 0))), (q2, .inl (cA 0, 36, .inl (fun _ => 0))), (q3, .inl (cA 0, 9, .inl (fun _ => 0))), (q4, .inl (cA 0, 9, .inl (fun _ => 0)))] := hD
  refine W.widen (k := 4) (n := 78) (by omega) (by omega) ?_
  refine va_putF (D := D) (ci := 0) (v := .ref q4) (ty := .array .int) (C := R_S) (T := F_S) (N := 11) C.1 C.2.1 C.2.2.2.2.1 lay_S t_S t_S_ok n_S C.2.2.2.1 hK hP hD hS 0 rfl rfl 3 (by decide) (C.2.2.2.2.1 _ fl_S3) (fun _ h9 => h9) rfl hin rfl (by decide +kernel) rfl rfl (Nat.le_of_ble_eq_true rfl) d_S_init_33 (fun H locs hP hD hS => ?_)
  have hP : va_P D vcl [(h0, .inr (0, [.ref q1, .ref q2, .ref q3, .ref q4, .null, .int (nI 0), .int (nI 0), .int (nI 0), .int (nI 0), .int (bI false), .int (nI 0)])), (q1, .inl (cA 0, 24, .inl (fun _ => 0))), (q2, .inl (cA 0, 36, .inl (fun _ => 0))), (q3, .inl (cA 0, 9, .inl (fun _ => 0))), (q4, .inl (cA 0, 9, .inl (fun _ => 0)))] H := hP
  have hD : va_D A [(h0, .inr (0, [.ref q1, .ref q2, .ref q3, .ref q4, .null, .int (nI 0), .int (nI 0), .int (nI 0), .int (nI 0), .int (bI false), .int (nI 0)])), (q1, .inl (cA 0, 24, .inl (fun _ => 0))), (q2, .inl (cA 0, 36, .inl (fun _ => 0))), (q3, .inl (cA 0, 9, .inl (fun _ => 0))), (q4, .inl (cA 0, 9, .inl (fun _ => 0)))] := hD
  refine lv_aload_n C.1 C.2.1 d_S_init_36 rfl (lv_at hl 0 rfl) ?_
  refine lv_iconst (v := nI 3) C.1 C.2.1 d_S_init_37 (by decide) ?_
  refine kx_newi C.1 C.2.1 (C.2.2.2.2.1 _ ac_i) hK hP hD hS hA 3 (by decide) (Nat.le_of_ble_eq_true rfl) (Nat.le_of_ble_eq_true rfl) d_S_init_38 (fun q5 H hP hD hS => ?_)
  have hP : va_P D vcl [(h0, .inr (0, [.ref q1, .ref q2, .ref q3, .ref q4, .null, .int (nI 0), .int (nI 0), .int (nI 0), .int (nI 0), .int (bI false), .int (nI 0)])), (q1, .inl (cA 0, 24, .inl (fun _ => 0))), (q2, .inl (cA 0, 36, .inl (fun _ => 0))), (q3, .inl (cA 0, 9, .inl (fun _ => 0))), (q4, .inl (cA 0, 9, .inl (fun _ => 0))), (q5, .inl (cA 0, 3, .inl (fun _ => 0)))] H := hP
  have hD : va_D A [(h0, .inr (0, [.ref q1, .ref q2, .ref q3, .ref q4, .null, .int (nI 0), .int (nI 0), .int (nI 0), .int (nI 0), .int (bI false), .int (nI 0)])), (q1, .inl (cA 0, 24, .inl (fun _ => 0))), (q2, .inl (cA 0, 36, .inl (fun _ => 0))), (q3, .inl (cA 0, 9, .inl (fun _ => 0))), (q4, .inl (cA 0, 9, .inl (fun _ => 0))), (q5, .inl (cA 0, 3, .inl (fun _ => 0)))] := hD
  refine W.widen (k := 5) (n := 81) (by omega) (by omega) ?_
  refine va_putF (D := D) (ci := 0) (v := .ref q5) (ty := .array .int) (C := R_S) (T := F_S) (N := 11) C.1 C.2.1 C.2.2.2.2.1 lay_S t_S t_S_ok n_S C.2.2.2.1 hK hP hD hS 0 rfl rfl 4 (by decide) (C.2.2.2.2.1 _ fl_S4) (fun _ h9 => h9) rfl hin rfl (by decide +kernel) rfl rfl (Nat.le_of_ble_eq_true rfl) d_S_init_40 (fun H locs hP hD hS => ?_)
  have hP : va_P D vcl [(h0, .inr (0, [.ref q1, .ref q2, .ref q3, .ref q4, .ref q5, .int (nI 0), .int (nI 0), .int (nI 0), .int (nI 0), .int (bI false), .int (nI 0)])), (q1, .inl (cA 0, 24, .inl (fun _ => 0))), (q2, .inl (cA 0, 36, .inl (fun _ => 0))), (q3, .inl (cA 0, 9, .inl (fun _ => 0))), (q4, .inl (cA 0, 9, .inl (fun _ => 0))), (q5, .inl (cA 0, 3, .inl (fun _ => 0)))] H := hP
  have hD : va_D A [(h0, .inr (0, [.ref q1, .ref q2, .ref q3, .ref q4, .ref q5, .int (nI 0), .int (nI 0), .int (nI 0), .int (nI 0), .int (bI false), .int (nI 0)])), (q1, .inl (cA 0, 24, .inl (fun _ => 0))), (q2, .inl (cA 0, 36, .inl (fun _ => 0))), (q3, .inl (cA 0, 9, .inl (fun _ => 0))), (q4, .inl (cA 0, 9, .inl (fun _ => 0))), (q5, .inl (cA 0, 3, .inl (fun _ => 0)))] := hD
  have I : svI D cA A s (hOf h0 q1 q2 q3 q4 q5) ((fun _ => 0), (fun _ => 0), (fun _ => 0), (fun _ => 0), (fun _ => 0), 0, 0, 0, some 0, false, 0) H locs := ⟨hK, hP, hD, hS, hA⟩
  refine lv_aload_n C.1 C.2.1 d_S_init_43 rfl (lv_at hl 0 rfl) ?_
  refine sv_cv C I (c_S_clearAll l D cA _ _ _ _ _ _ _ _ _ _ _ _ _) lk_S25 rfl rfl ⟨by decide, by decide⟩ ⟨by decide, by decide⟩ rfl hl.1 (rest := []) rfl (Nat.le_of_ble_eq_true rfl) d_S_init_44 (fun u' H locs w I => ?_)
  exact W.vret C.1 C.2.1 hr (fun t ht hW => ⟨⟨(hOf h0 q1 q2 q3 q4 q5, u'), rfl, ⟨rfl, w⟩, by rw [ht]; exact I.2.1, va_K.moved hW.alike I.1, I.2.2.1⟩, I.2.2.2.1.F ht⟩) (fun q hq => I.2.2.2.1.2.2 q hq) d_S_init_47 C.2.2.2.2.2
set_option maxHeartbeats 4000000 in
set_option maxRecDepth 100000 in
theorem c_M_init (l : Launch) (D : va_G) (cA : Nat → ClassId) (h0 sz : Nat) : Met l y_M_init (.code y_M_init b_M_init 1 none :: wG) (rmC 4 117) (va_Pc [.ref h0] (fun U => U.heap.size = sz ∧ va_P D vcl [(h0, .inr (1, zM))] U.heap ∧ va_K D vcl (ty3 cA) U ∧ va_D (fun _ => True) [(h0, .inr (1, zM))])) (va_Qv (fun v : (Nat → Nat) × SM => v.1 0 = h0 ∧ v.2 = (0, false, none, 0, (fun _ => nI 0), (fun _ => nI 0), (fun _ => false), (fun _ => 0), 0, 0)) (fun v t => smAt D cA (va_A [(h0, .inr (1, zM))] sz) v.1 v.2 t) (va_A [(h0, .inr (1, zM))] sz)) 4 117 (va_A [(h0, .inr (1, zM))] sz) := by
  refine Met.ofW (cc := b_M_init) (maxL := 1) (ret := none) (by decide) rfl ?_
  intro p e s m args below meth c s₁ B hml hv
  obtain ⟨rfl, hsz, hP, hK, hD0⟩ := hv
  subst hsz
  have hts := atoms_spec (ws := .code y_M_init b_M_init 1 none :: wG) B.pre
  have hin : meth.name = "<init>" := (name_of_methodNamed B.named B.method).1
  have C : gC p s m #[.ref h0] meth c b_M_init 1 R_M := ⟨B.exec, B.bytes, hml, findClass_of_methodNamed B.named, fun w hw => hts w (List.mem_cons_of_mem _ hw), B.notSynchronized⟩
  have hr := B.returns
  have hD := hD0.self (sz := s.heap.size)
  generalize hAe : va_A [(h0, .inr (1, zM))] s.heap.size = A at hD ⊢
  have hA : ∀ q : Nat, s.heap.size ≤ q → A q := fun q h => by rw [← hAe]; exact Or.inr h
  have hS : va_S A s.heap s.heap [] := va_S.rf
  have hl := lv_entry [.ref h0] (n := 1) (Nat.le_of_ble_eq_true rfl)
  rw [lg_entry_eq]
  generalize (lg_sl ([.ref h0]) ++ List.replicate (1 - (lg_sl ([.ref h0])).length) Slot.unset).toArray = ls at hl ⊢
  have hl : lv_has ls 1 [(0, .ref h0)] := hl
  have hP : va_P D vcl [(h0, .inr (1, [.int (nI 0), .int (bI false), .int (nI 0), .int (nI 0), .null, .null, .null, .null, .int (nI 0), .int (nI 0)]))] s.heap := hP
  have hD : va_D A [(h0, .inr (1, [.int (nI 0), .int (bI false), .int (nI 0), .int (nI 0), .null, .null, .null, .null, .int (nI 0), .int (nI 0)]))] := hD
  refine lv_aload_n C.1 C.2.1 d_M_init_0 rfl (lv_at hl 0 rfl) ?_
  refine W.objInit C.1 C.2.1 C.2.2.2.1 (C.2.2.2.2.1 _ oi_M) (C.2.2.2.2.1 _ oi_i) (C.2.2.2.2.1 _ oi_c) rfl (by rw [hml]; exact hl.1) rfl d_M_init_1 (Nat.le_of_ble_eq_true rfl) (Nat.le_of_ble_eq_true rfl) ?_
  refine W.eq (g2 := F0 m 4 ls []) rfl ?_
  refine lv_aload_n C.1 C.2.1 d_M_init_4 rfl (lv_at hl 0 rfl) ?_
  refine lv_iconst (v := oI none) C.1 C.2.1 d_M_init_5 (by decide) ?_
  refine va_put (D := D) (ci := 1) (v := .int (oI none)) (ty := .int) (C := R_M) (T := F_M) (N := 10) C.1 C.2.1 C.2.2.2.2.1 lay_M t_M t_M_ok n_M C.2.2.2.1 hK hP hD hS 0 rfl rfl 2 (by decide) (C.2.2.2.2.1 _ fl_M2) (fun _ h9 => h9) rfl (by decide +kernel) rfl rfl (Nat.le_of_ble_eq_true rfl) d_M_init_6 (fun H locs hP hD hS => ?_)
  have hP : va_P D vcl [(h0, .inr (1, [.int (nI 0), .int (bI false), .int (oI none), .int (nI 0), .null, .null, .null, .null, .int (nI 0), .int (nI 0)]))] H := hP
  have hD : va_D A [(h0, .inr (1, [.int (nI 0), .int (bI false), .int (oI none), .int (nI 0), .null, .null, .null, .null, .int (nI 0), .int (nI 0)]))] := hD
  refine lv_aload_n C.1 C.2.1 d_M_init_9 rfl (lv_at hl 0 rfl) ?_
  refine lv_bipush (v := nI 24) C.1 C.2.1 d_M_init_10 (by decide) ?_
  refine kx_newi C.1 C.2.1 (C.2.2.2.2.1 _ ac_i) hK hP hD hS hA 24 (by decide) (Nat.le_of_ble_eq_true rfl) (Nat.le_of_ble_eq_true rfl) d_M_init_12 (fun q1 H hP hD hS => ?_)
  have hP : va_P D vcl [(h0, .inr (1, [.int (nI 0), .int (bI false), .int (oI none), .int (nI 0), .null, .null, .null, .null, .int (nI 0), .int (nI 0)])), (q1, .inl (cA 0, 24, .inl (fun _ => 0)))] H := hP
  have hD : va_D A [(h0, .inr (1, [.int (nI 0), .int (bI false), .int (oI none), .int (nI 0), .null, .null, .null, .null, .int (nI 0), .int (nI 0)])), (q1, .inl (cA 0, 24, .inl (fun _ => 0)))] := hD
  refine W.widen (k := 1) (n := 24) (by omega) (by omega) ?_
  refine va_put (D := D) (ci := 1) (v := .ref q1) (ty := .array .int) (C := R_M) (T := F_M) (N := 10) C.1 C.2.1 C.2.2.2.2.1 lay_M t_M t_M_ok n_M C.2.2.2.1 hK hP hD hS 0 rfl rfl 4 (by decide) (C.2.2.2.2.1 _ fl_M4) (fun _ h9 => h9) rfl (by decide +kernel) rfl rfl (Nat.le_of_ble_eq_true rfl) d_M_init_14 (fun H locs hP hD hS => ?_)
  have hP : va_P D vcl [(h0, .inr (1, [.int (nI 0), .int (bI false), .int (oI none), .int (nI 0), .ref q1, .null, .null, .null, .int (nI 0), .int (nI 0)])), (q1, .inl (cA 0, 24, .inl (fun _ => 0)))] H := hP
  have hD : va_D A [(h0, .inr (1, [.int (nI 0), .int (bI false), .int (oI none), .int (nI 0), .ref q1, .null, .null, .null, .int (nI 0), .int (nI 0)])), (q1, .inl (cA 0, 24, .inl (fun _ => 0)))] := hD
  refine lv_aload_n C.1 C.2.1 d_M_init_17 rfl (lv_at hl 0 rfl) ?_
  refine lv_bipush (v := nI 72) C.1 C.2.1 d_M_init_18 (by decide) ?_
  refine kx_newi C.1 C.2.1 (C.2.2.2.2.1 _ ac_i) hK hP hD hS hA 72 (by decide) (Nat.le_of_ble_eq_true rfl) (Nat.le_of_ble_eq_true rfl) d_M_init_20 (fun q2 H hP hD hS => ?_)
  have hP : va_P D vcl [(h0, .inr (1, [.int (nI 0), .int (bI false), .int (oI none), .int (nI 0), .ref q1, .null, .null, .null, .int (nI 0), .int (nI 0)])), (q1, .inl (cA 0, 24, .inl (fun _ => 0))), (q2, .inl (cA 0, 72, .inl (fun _ => 0)))] H := hP
  have hD : va_D A [(h0, .inr (1, [.int (nI 0), .int (bI false), .int (oI none), .int (nI 0), .ref q1, .null, .null, .null, .int (nI 0), .int (nI 0)])), (q1, .inl (cA 0, 24, .inl (fun _ => 0))), (q2, .inl (cA 0, 72, .inl (fun _ => 0)))] := hD
  refine W.widen (k := 2) (n := 96) (by omega) (by omega) ?_
  refine va_put (D := D) (ci := 1) (v := .ref q2) (ty := .array .int) (C := R_M) (T := F_M) (N := 10) C.1 C.2.1 C.2.2.2.2.1 lay_M t_M t_M_ok n_M C.2.2.2.1 hK hP hD hS 0 rfl rfl 5 (by decide) (C.2.2.2.2.1 _ fl_M5) (fun _ h9 => h9) rfl (by decide +kernel) rfl rfl (Nat.le_of_ble_eq_true rfl) d_M_init_22 (fun H locs hP hD hS => ?_)
  have hP : va_P D vcl [(h0, .inr (1, [.int (nI 0), .int (bI false), .int (oI none), .int (nI 0), .ref q1, .ref q2, .null, .null, .int (nI 0), .int (nI 0)])), (q1, .inl (cA 0, 24, .inl (fun _ => 0))), (q2, .inl (cA 0, 72, .inl (fun _ => 0)))] H := hP
  have hD : va_D A [(h0, .inr (1, [.int (nI 0), .int (bI false), .int (oI none), .int (nI 0), .ref q1, .ref q2, .null, .null, .int (nI 0), .int (nI 0)])), (q1, .inl (cA 0, 24, .inl (fun _ => 0))), (q2, .inl (cA 0, 72, .inl (fun _ => 0)))] := hD
  refine lv_aload_n C.1 C.2.1 d_M_init_25 rfl (lv_at hl 0 rfl) ?_
  refine lv_iconst (v := nI 3) C.1 C.2.1 d_M_init_26 (by decide) ?_
  refine kx_newz C.1 C.2.1 (C.2.2.2.2.1 _ ac_z) hK hP hD hS hA 3 (by decide) (Nat.le_of_ble_eq_true rfl) (Nat.le_of_ble_eq_true rfl) d_M_init_27 (fun q3 H hP hD hS => ?_)
  have hP : va_P D vcl [(h0, .inr (1, [.int (nI 0), .int (bI false), .int (oI none), .int (nI 0), .ref q1, .ref q2, .null, .null, .int (nI 0), .int (nI 0)])), (q1, .inl (cA 0, 24, .inl (fun _ => 0))), (q2, .inl (cA 0, 72, .inl (fun _ => 0))), (q3, .inl (cA 1, 3, .inl (fun _ => 0)))] H := hP
  have hD : va_D A [(h0, .inr (1, [.int (nI 0), .int (bI false), .int (oI none), .int (nI 0), .ref q1, .ref q2, .null, .null, .int (nI 0), .int (nI 0)])), (q1, .inl (cA 0, 24, .inl (fun _ => 0))), (q2, .inl (cA 0, 72, .inl (fun _ => 0))), (q3, .inl (cA 1, 3, .inl (fun _ => 0)))] := hD
  refine W.widen (k := 3) (n := 99) (by omega) (by omega) ?_
  refine va_put (D := D) (ci := 1) (v := .ref q3) (ty := .array .boolean) (C := R_M) (T := F_M) (N := 10) C.1 C.2.1 C.2.2.2.2.1 lay_M t_M t_M_ok n_M C.2.2.2.1 hK hP hD hS 0 rfl rfl 6 (by decide) (C.2.2.2.2.1 _ fl_M6) (fun _ h9 => h9) rfl (by decide +kernel) rfl rfl (Nat.le_of_ble_eq_true rfl) d_M_init_29 (fun H locs hP hD hS => ?_)
  have hP : va_P D vcl [(h0, .inr (1, [.int (nI 0), .int (bI false), .int (oI none), .int (nI 0), .ref q1, .ref q2, .ref q3, .null, .int (nI 0), .int (nI 0)])), (q1, .inl (cA 0, 24, .inl (fun _ => 0))), (q2, .inl (cA 0, 72, .inl (fun _ => 0))), (q3, .inl (cA 1, 3, .inl (fun _ => 0)))] H := hP
  have hD : va_D A [(h0, .inr (1, [.int (nI 0), .int (bI false), .int (oI none), .int (nI 0), .ref q1, .ref q2, .ref q3, .null, .int (nI 0), .int (nI 0)])), (q1, .inl (cA 0, 24, .inl (fun _ => 0))), (q2, .inl (cA 0, 72, .inl (fun _ => 0))), (q3, .inl (cA 1, 3, .inl (fun _ => 0)))] := hD
  refine lv_aload_n C.1 C.2.1 d_M_init_32 rfl (lv_at hl 0 rfl) ?_
  refine lv_bipush (v := nI 18) C.1 C.2.1 d_M_init_33 (by decide) ?_
  refine kx_newi C.1 C.2.1 (C.2.2.2.2.1 _ ac_i) hK hP hD hS hA 18 (by decide) (Nat.le_of_ble_eq_true rfl) (Nat.le_of_ble_eq_true rfl) d_M_init_35 (fun q4 H hP hD hS => ?_)
  have hP : va_P D vcl [(h0, .inr (1, [.int (nI 0), .int (bI false), .int (oI none), .int (nI 0), .ref q1, .ref q2, .ref q3, .null, .int (nI 0), .int (nI 0)])), (q1, .inl (cA 0, 24, .inl (fun _ => 0))), (q2, .inl (cA 0, 72, .inl (fun _ => 0))), (q3, .inl (cA 1, 3, .inl (fun _ => 0))), (q4, .inl (cA 0, 18, .inl (fun _ => 0)))] H := hP
  have hD : va_D A [(h0, .inr (1, [.int (nI 0), .int (bI false), .int (oI none), .int (nI 0), .ref q1, .ref q2, .ref q3, .null, .int (nI 0), .int (nI 0)])), (q1, .inl (cA 0, 24, .inl (fun _ => 0))), (q2, .inl (cA 0, 72, .inl (fun _ => 0))), (q3, .inl (cA 1, 3, .inl (fun _ => 0))), (q4, .inl (cA 0, 18, .inl (fun _ => 0)))] := hD
  refine W.widen (k := 4) (n := 117) (by omega) (by omega) ?_
  refine va_put (D := D) (ci := 1) (v := .ref q4) (ty := .array .int) (C := R_M) (T := F_M) (N := 10) C.1 C.2.1 C.2.2.2.2.1 lay_M t_M t_M_ok n_M C.2.2.2.1 hK hP hD hS 0 rfl rfl 7 (by decide) (C.2.2.2.2.1 _ fl_M7) (fun _ h9 => h9) rfl (by decide +kernel) rfl rfl (Nat.le_of_ble_eq_true rfl) d_M_init_37 (fun H locs hP hD hS => ?_)
  have hP : va_P D vcl [(h0, .inr (1, [.int (nI 0), .int (bI false), .int (oI none), .int (nI 0), .ref q1, .ref q2, .ref q3, .ref q4, .int (nI 0), .int (nI 0)])), (q1, .inl (cA 0, 24, .inl (fun _ => 0))), (q2, .inl (cA 0, 72, .inl (fun _ => 0))), (q3, .inl (cA 1, 3, .inl (fun _ => 0))), (q4, .inl (cA 0, 18, .inl (fun _ => 0)))] H := hP
  have hD : va_D A [(h0, .inr (1, [.int (nI 0), .int (bI false), .int (oI none), .int (nI 0), .ref q1, .ref q2, .ref q3, .ref q4, .int (nI 0), .int (nI 0)])), (q1, .inl (cA 0, 24, .inl (fun _ => 0))), (q2, .inl (cA 0, 72, .inl (fun _ => 0))), (q3, .inl (cA 1, 3, .inl (fun _ => 0))), (q4, .inl (cA 0, 18, .inl (fun _ => 0)))] := hD
  exact W.vret C.1 C.2.1 hr (fun t ht hW => ⟨⟨(hOf h0 q1 q2 q3 q4 0, (0, false, none, 0, (fun _ => nI 0), (fun _ => nI 0), (fun _ => false), (fun _ => 0), 0, 0)), rfl, ⟨rfl, rfl⟩, by rw [ht]; exact hP, va_K.moved hW.alike hK, hD⟩, hS.F ht⟩) (fun q hq => hS.2.2 q hq) d_M_init_40 C.2.2.2.2.2
