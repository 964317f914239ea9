def svTxl : List (Nat × String) := [(132, "the volume is down"), (142, "no such block"), (145, "no such word"), (147, "too few copy blocks are free"), (167, "the power is cut"), (56, "no place is empty"), (137, "no snapshot in that place"), (105, "the volume is up")]
def svTx (U : State) : Prop := (∀ t ∈ svTxl, ∃ q, vk_R R_S t.1 t.2 q U) ∧ wx_Bs U
theorem svTx.warm {s U : State} (hW : s.WarmedH U.vm) (h : svTx s) : svTx U := ⟨fun t ht => by
  obtain ⟨q, hq⟩ := h.1 t ht
  exact ⟨q, hq.warm hW⟩, h.2.moved hW.alike⟩
theorem svTx.same {s U : State} (hv : U.vm = s.vm) (h : svTx s) : svTx U := ⟨fun t ht => by
  obtain ⟨q, hq⟩ := h.1 t ht
  exact ⟨q, hq.same hv⟩, h.2.moved (by rw [hv]; exact Vm.Alike.refl s.vm)⟩
def svPreX (D : va_G) (cA : Nat → ClassId) (h : Nat → Nat) (u : SV) (sz : Nat) (U : State) : Prop := svPre D cA h u sz U ∧ wx_Z (svA cA h u sz) U U.heap ∧ svTx U
theorem svPreX.blind {D : va_G} {cA : Nat → ClassId} {h : Nat → Nat} {u : SV} {sz : Nat} {U : State} (q : svPreX D cA h u sz U) (g : JFrame) (mk : MethodId) (a : Array Value) : svPreX D cA h u sz (U.calling g mk a) := ⟨q.1.blind g mk a, wx_Z.moved (u := U) (U := U.calling g mk a) (Vm.Alike.refl U.vm) q.2.1, svTx.same (s := U) (U := U.calling g mk a) rfl q.2.2⟩
abbrev svX (l : Launch) (D : va_G) (cA : Nat → ClassId) (h : Nat → Nat) (u : SV) (sz : Nat) (y : MethodName) (hd : Cond) (rm : Room) (avs : List Value) (post : Option Value → SV → Prop) (pt : Nat → SV → Prop) : Prop := wx_Met l y (hd :: wG) rm (va_Pc (.ref (h 0) :: avs) (svPreX D cA h u sz)) (wx_Q post pt (svAt D cA (svA cA h u sz) h) (svA cA h u sz)) 1 6 (svA cA h u sz)
/-- beside gC: what throwing stands on -/
def gX (l : Launch) (c : Code) (s : State) (A : Nat → Prop) : Prop := l.stackTraces = false ∧ c.exceptionTable.toList = [] ∧ wx_Z A s s.heap ∧ svTx s
section Xsv
variable {p : Program} {l : Launch} {e : Env} {R : Room} {s : State} {m : MethodId} {args : Array Value} {below : List Frame} {meth : Method} {c : Code} {H : Heap} {locs : List Loc} {cells slots : Nat} {Q : State → Prop}
variable {cc bytes : ByteArray} {nL maxL n index pc sz : Nat} {ls : Array Slot} {avs rest st0 : List Value} {D : va_G} {cA : Nat → ClassId} {A : Nat → Prop} {h : Nat → Nat} {u : SV} {y : MethodName} {ret : Option FieldType} {rm : Room} {own : String}
theorem sv_x {post : Option Value → SV → Prop} {pt : Nat → SV → Prop} (hlt : l.stackTraces = false) (hy : plainName y.cls = true) (hys : y.cls = R_S) (hlen : (lg_sl (.ref (h 0) :: avs)).length ≤ maxL) (body : ∀ (p : Program) (e : Env) (s : State) (m : MethodId) (args : Array Value) (below : List Frame) (meth : Method) (c : Code), gC p s m args meth c cc maxL R_S → gX l c s (svA cA h u sz) → meth.sig.returnType = ret → s.heap.size = sz → svI D cA (svA cA h u sz) s h u s.heap [] → ∀ ls : Array Slot, lv_has ls maxL (lv_args 0 (.ref (h 0) :: avs)) → W p l e rm s m args below meth c s.heap [] 0 0 (wx_MQ below (wx_Q post pt (svAt D cA (svA cA h u sz) h) (svA cA h u sz)) args s 1 6 (svA cA h u sz)) (F0 m 0 ls [])) : svX l D cA h u sz y (.code y cc maxL ret) rm avs post pt := by
  refine wx_ofW (cc := cc) (maxL := maxL) (ret := ret) hy rfl ?_
  intro p e s m args below meth c s₁ B hml hno hv
  obtain ⟨rfl, ⟨hsz, hP, hK, hD0⟩, hZ, hTx⟩ := hv
  subst hsz
  have hts := atoms_spec (ws := .code y cc maxL ret :: wG) B.pre
  have hl := lv_entry (.ref (h 0) :: avs) (n := maxL) hlen
  rw [lg_entry_eq]
  exact body p e s m _ below meth c ⟨B.exec, B.bytes, hml, by rw [← hys]; exact findClass_of_methodNamed B.named, fun w hw => hts w (List.mem_cons_of_mem _ hw), B.notSynchronized⟩ ⟨hlt, hno, hZ, hTx⟩ B.returns rfl ⟨hK, hP, hD0.self, va_S.rf, fun q hq => Or.inr hq⟩ _ hl
theorem sv_xri {post : Option Value → SV → Prop} {pt : Nat → SV → Prop} {v : Int32} (C : gC p s m args meth c cc nL own) (hr : meth.sig.returnType = some .int) (I : svI D cA A s h u H locs) (hp : post (some (.int v)) u) (hdg : decode cc pc = .ok (.ireturn, 1)) : W p l e R s m args below meth c H locs 0 0 (wx_MQ below (wx_Q post pt (svAt D cA A h) A) args s 1 6 A) (F0 m pc ls [.int v]) :=
  wx_mono (fun t ht => wx_MQ.of t ht) (W.iret (v := v) C.1 C.2.1 hr (fun t ht hW => ⟨Or.inl ⟨some (.int v), u, rfl, hp, by rw [ht]; exact I.2.1, va_K.moved hW.alike I.1, I.2.2.1⟩, I.2.2.2.1.F ht⟩) (fun q hq => I.2.2.2.1.2.2 q hq) hdg C.2.2.2.2.2)
theorem sv_xrz {post : Option Value → SV → Prop} {pt : Nat → SV → Prop} {b : Bool} (C : gC p s m args meth c cc nL own) (hr : meth.sig.returnType = some .boolean) (I : svI D cA A s h u H locs) (hp : post (some (.int (bI b))) u) (hdg : decode cc pc = .ok (.ireturn, 1)) : W p l e R s m args below meth c H locs 0 0 (wx_MQ below (wx_Q post pt (svAt D cA A h) A) args s 1 6 A) (F0 m pc ls [.int (bI b)]) :=
  wx_mono (fun t ht => wx_MQ.of t ht) (W.zret (v := bI b) C.1 C.2.1 hr (bI_narrow b) (fun t ht hW => ⟨Or.inl ⟨some (.int (bI b)), u, rfl, hp, by rw [ht]; exact I.2.1, va_K.moved hW.alike I.1, I.2.2.1⟩, I.2.2.2.1.F ht⟩) (fun q hq => I.2.2.2.1.2.2 q hq) hdg C.2.2.2.2.2)
theorem sv_xrv {post : Option Value → SV → Prop} {pt : Nat → SV → Prop} (C : gC p s m args meth c cc nL own) (hr : meth.sig.returnType = none) (I : svI D cA A s h u H locs) (hp : post none u) (hdg : decode cc pc = .ok (.return_, 1)) : W p l e R s m args below meth c H locs 0 0 (wx_MQ below (wx_Q post pt (svAt D cA A h) A) args s 1 6 A) (F0 m pc ls []) :=
  wx_mono (fun t ht => wx_MQ.of t ht) (W.vret C.1 C.2.1 hr (fun t ht hW => ⟨Or.inl ⟨none, u, rfl, hp, by rw [ht]; exact I.2.1, va_K.moved hW.alike I.1, I.2.2.1⟩, I.2.2.2.1.F ht⟩) (fun q hq => I.2.2.2.1.2.2 q hq) hdg C.2.2.2.2.2)
/-- what was thrown below goes on, out of this method -/
theorem sv_out {post : Option Value → SV → Prop} {pt : Nat → SV → Prop} {k x : Nat} {g : JFrame} (C : gC p s m args meth c cc nL own) (X : gX l c s A) (I : svI D cA A s h u H locs) (hE : wx_E k x s.heap.size s H) (hp : pt k u) (hg : g.method = m) (hgl : g.locked = none) (hge : g.entered = []) (hc : cells ≤ 1) (hs : slots ≤ 6) : wx_T p l e R s m args below meth c H locs cells slots (wx_MQ below (wx_Q post pt (svAt D cA A h) A) args s 1 6 A) g x :=
  wx_out X.2.1 C.2.2.2.2.2 hg hgl hge (fun t ht hW => ⟨Or.inr ⟨k, x, u, rfl, ⟨hE.1, by
    obtain ⟨ce, h1, h2, h3⟩ := hE.2
    exact ⟨ce, by rw [ht]; exact h1, h2, by rw [hW.alike.findClass]; exact h3⟩⟩, hp, by rw [ht]; exact I.2.1, va_K.moved hW.alike I.1, I.2.2.1⟩, I.2.2.2.1.F ht⟩) (fun q hq => I.2.2.2.1.2.2 q hq) hc hs
theorem svI.preX (I : svI D cA A s h u H locs) (X : gX l c s A) {U : State} (hU : U.heap = H) (hW : s.WarmedH U.vm) : svPreX D cA h u H.size U := ⟨I.pre hU hW, by
  rw [hU]
  exact ((X.2.2.1.moved hW.alike).kept I.2.2.2.1.2.1).narrow I.free, X.2.2.2.warm hW⟩
/-- a call of a method that may throw: what it throws leaves this method too -/
theorem sv_xc {post : Option Value → SV → Prop} {pt : Nat → SV → Prop} {post' : Option Value → SV → Prop} {pt' : Nat → SV → Prop} (C : gC p s m args meth c cc nL own) (X : gX l c s A) (I : svI D cA A s h u H locs) (hM : svX l D cA h u H.size y (.code y bytes maxL ret) rm avs post' pt') (k : lkV own index R_S y bytes maxL ret n) (hrc : rm.cells = 1) (hrs : rm.slots = 6) (hR : rm.frames + 1 ≤ R.frames ∧ 8 + (maxL + 11) + rm.locals ≤ R.locals) (hcl : 1 ≤ R.cells ∧ 6 ≤ R.slots) (hn : avs.length = n) (hl : ls.size = nL) (hst : st0 = avs.reverse ++ .ref (h 0) :: rest) (hrest : (rest.map fun v => v.category).sum ≤ 8) (hdg : decode cc pc = .ok (.invokevirtual index, 3))
    (kt : ∀ (k : Nat) (u' : SV), pt' k u' → pt k u') (kk : ∀ (v : Option Value) (u' : SV) (H1 : Heap) (locs1 : List Loc), post' v u' → svI D cA A s h u' H1 locs1 → W p l e R s m args below meth c H1 locs1 0 0 (wx_MQ below (wx_Q post pt (svAt D cA A h) A) args s 1 6 A) (F0 m (pc + 3) ls (v.toList ++ rest))) : W p l e R s m args below meth c H locs 0 0 (wx_MQ below (wx_Q post pt (svAt D cA A h) A) args s 1 6 A) (F0 m pc ls st0) := by
  have cw := k.cw (R := R) (rm := rm) (args := args) (s := s) C.2.2.2.2.1 hR
  rw [hrc, hrs] at cw
  refine wx_call (wx_runV (As := avs) (rest := rest) ⟨C.1, C.2.1, C.2.2.1, C.2.2.2.1, C.2.2.2.2.1⟩ hM cw ⟨fun a U g mk q => ⟨q.1, q.2.blind g mk a⟩, I.recv, fun U hU hW => ⟨rfl, I.preX X hU hW⟩⟩ rfl hn hl hst (lv_room hrest) hdg ⟨by omega, by omega⟩) I.2.2.2.1 (fun q _ hq => I.free q hq) (fun q hq => I.free q hq) (fun v u' t H1 locs1 ht hvm hw hB hk hS => ?_) (fun k' x u' t H1 locs1 ht hvm hE hw hB hk hS => ?_)
  · exact kk v u' H1 locs1 hw (I.back ht hvm hB hS)
  · exact sv_out C X (I.back ht hvm hB hS) hE (kt k' u' hw) rfl rfl rfl (by omega) (by omega)
theorem sv_thr {post : Option Value → SV → Prop} {pt : Nat → SV → Prop} {kd i0 i1 i2 ix : Nat} {rx : ByteArray} {tx : String} {names : List String} (C : gC p s m args meth c cc ls.size R_S) (X : gX l c s A) (I : svI D cA A s h u H locs) (hfX : Bundle.fit (wx_N kd) = true) (hfn : ∀ n ∈ names, Bundle.fit n = true) (hr : decode rx 0 = .ok (.aload_n 0, 1) ∧ decode rx 1 = .ok (.aload_n 1, 1) ∧ decode rx 2 = .ok (.invokespecial ix, 3) ∧ decode rx 5 = .ok (.return_, 1)) (hwd : ∀ w ∈ Bundle.ownAtomsX R_S i2 (wx_N kd) ix rx names, w ∉ wx_four → (w ∈ wG ∧ (w.onTables && w.keeps) = true) ∨ w ∈ wx_B) (hcl : Cond.classLink R_S i0 (wx_N kd) ∈ wG) (hini : Cond.initialized (wx_N kd) ∈ wG) (hins : Cond.instantiable (wx_N kd) 6 ∈ wG) (htx : (i1, tx) ∈ svTxl)
    (hd0 : decode cc pc = .ok (.new i0, 3)) (hd3 : decode cc (pc + 3) = .ok (.dup, 1)) (hd4 : decode cc (pc + 3 + 1) = .ok (.ldc i1, 2)) (hd6 : decode cc (pc + 3 + 1 + 2) = .ok (.invokespecial i2, 3)) (hd9 : decode cc (pc + 3 + 1 + 2 + 3) = .ok (.athrow, 1))
    (hfr : names.length + 3 < R.frames) (hlo : 1 + (rest.map fun v => v.category).sum + (13 * (names.length + 1) + 42) ≤ R.locals) (hc1 : 1 ≤ R.cells) (hs1 : 6 ≤ R.slots) (hp : pt kd u) : W p l e R s m args below meth c H locs 0 0 (wx_MQ below (wx_Q post pt (svAt D cA A h) A) args s 1 6 A) (F0 m pc ls rest) := by
  obtain ⟨q, hR⟩ := X.2.2.2.1 _ htx
  refine wx_throw (A := A) (tx := tx) (q := q) C.1 C.2.1 C.2.2.1 X.1 C.2.2.2.1 hfX hfn hr (fun w hw h4 => (hwd w hw h4).imp (fun q => ⟨q.2, C.2.2.2.2.1 w q.1⟩) id) X.2.2.2.2 (C.2.2.2.2.1 _ hcl) (C.2.2.2.2.1 _ hini) (C.2.2.2.2.1 _ hins) X.2.2.1 hR I.2.2.2.1 X.2.1 C.2.2.2.2.2 hd0 hd3 hd4 hd6 hd9 hfr hlo (by omega) (by omega) (by omega) (by omega) (fun U x hW hH hz hE => ?_) (fun q hq => I.2.2.2.1.2.2 q hq)
  refine ⟨Or.inr ⟨kd, x, u, rfl, ⟨Nat.le_trans I.2.2.2.1.1 hE.1, hE.2⟩, hp, ?_, va_K.moved hW.alike I.1, I.2.2.1⟩, ?_, fun a h1 h2 => ?_⟩
  · exact I.2.1.kept (fun k q' hq => hH _ ((I.2.1 k q' hq).lt))
  · exact Nat.le_trans I.2.2.2.1.1 hz
  · rw [hH a (Nat.lt_of_lt_of_le h1 I.2.2.2.1.1)]
    exact I.2.2.2.1.2.1 a h1 h2
end Xsv
