/-! ===== the law's wrappers: the class's object and the array 'out', what is thrown is caught ===== -/
def wW (cA : Nat → ClassId) (h : Nat → Nat) (qo : Nat) (f : Nat → Int64) (u : SV) : va_W := (qo, .inl (cA 2, 1, .inr (.inl f))) :: svW cA h u
def wI (D : va_G) (cA : Nat → ClassId) (A : Nat → Prop) (s : State) (h : Nat → Nat) (qo : Nat) (f : Nat → Int64) (u : SV) (H : Heap) (locs : List Loc) : Prop := va_K D vcl (ty3 cA) s ∧ va_P D vcl (wW cA h qo f u) H ∧ va_D A (wW cA h qo f u) ∧ va_S A s.heap H locs ∧ ∀ q, s.heap.size ≤ q → A q
def lNc (U : State) : Prop := ∀ a b : Nat, a < 4 → b < 4 → a ≠ b → va_Nc (wx_N a) (wx_N b) U
theorem lNc.moved {u U : State} (hvm : u.vm.Alike U.vm) (h : lNc u) : lNc U := fun a b h1 h2 h3 => (h a b h1 h2 h3).moved hvm
def tabOf (hh : List (Nat × Nat × Nat × Nat)) : List ExceptionTableEntry := hh.map fun q => ⟨q.1, q.2.1, q.2.2.1, q.2.2.2⟩
theorem tab_eq {l : List ExceptionTableEntry} {hh : List (Nat × Nat × Nat × Nat)} (h : l.map (fun h => (h.startPc, h.endPc, h.handlerPc, h.catchType)) = hh) : l = tabOf hh := by
  subst h
  unfold tabOf
  rw [List.map_map]
  exact (List.map_id'' (fun x => rfl) l).symm
def gW (c : Code) (s : State) (A : Nat → Prop) (hh : List (Nat × Nat × Nat × Nat)) : Prop := wx_Z A s s.heap ∧ svTx s ∧ lNc s ∧ c.exceptionTable.toList = tabOf hh
def wPre (D : va_G) (cA : Nat → ClassId) (h : Nat → Nat) (qo : Nat) (f : Nat → Int64) (u : SV) (sz : Nat) (U : State) : Prop := U.heap.size = sz ∧ va_P D vcl (wW cA h qo f u) U.heap ∧ va_K D vcl (ty3 cA) U ∧ va_D (fun _ => True) (wW cA h qo f u) ∧ wx_Z (va_A (wW cA h qo f u) sz) U U.heap ∧ svTx U ∧ lNc U
theorem wPre.blind {D : va_G} {cA : Nat → ClassId} {h : Nat → Nat} {qo : Nat} {f : Nat → Int64} {u : SV} {sz : Nat} {U : State} (q : wPre D cA h qo f u sz U) (g : JFrame) (mk : MethodId) (a : Array Value) : wPre D cA h qo f u sz (U.calling g mk a) :=
  ⟨q.1, q.2.1, va_K.moved (u := U) (U := U.calling g mk a) (Vm.Alike.refl U.vm) q.2.2.1, q.2.2.2.1, wx_Z.moved (u := U) (U := U.calling g mk a) (Vm.Alike.refl U.vm) q.2.2.2.2.1, svTx.same (s := U) (U := U.calling g mk a) rfl q.2.2.2.2.2.1, lNc.moved (u := U) (U := U.calling g mk a) (Vm.Alike.refl U.vm) q.2.2.2.2.2.2⟩
def wAt (D : va_G) (cA : Nat → ClassId) (A : Nat → Prop) (h : Nat → Nat) (qo : Nat) (v : (Nat → Int64) × SV) (t : State) : Prop := va_P D vcl (wW cA h qo v.1 v.2) t.heap ∧ va_K D vcl (ty3 cA) t ∧ va_D A (wW cA h qo v.1 v.2)
abbrev wMi (l : Launch) (D : va_G) (cA : Nat → ClassId) (h : Nat → Nat) (qo : Nat) (f : Nat → Int64) (u : SV) (sz : Nat) (y : MethodName) (hd : Cond) (rm : Room) (avs : List Value) (post : Int32 → (Nat → Int64) × SV → Prop) : Prop := Met l y (hd :: wG) rm (va_Pc avs (wPre D cA h qo f u sz)) (va_Qi post (wAt D cA (va_A (wW cA h qo f u) sz) h qo) (va_A (wW cA h qo f u) sz)) 1 6 (va_A (wW cA h qo f u) sz)
/-- a wrapper's answer: 0 and the answer in out, or the number of what was thrown -/
def wP {ρ : Type} (F : CM ρ) (E : ρ → (Nat → Int64) → Prop) (kc : Nat → Nat) (u : SV) (r : Int32) (v : (Nat → Int64) × SV) : Prop := (∃ a, F u = (.ok a, v.2) ∧ r = nI 0 ∧ E a v.1) ∨ (∃ k, k < 4 ∧ F u = (.error k, v.2) ∧ r = nI (kc k))
section LX
variable {p : Program} {l : Launch} {e : Env} {R : Room} {s : State} {m : MethodId} {args : Array Value} {below : List Frame} {meth : Method} {c : Code} {H : Heap} {locs : List Loc} {cells slots : Nat} {Q : State → Prop}
variable {cc bytes : ByteArray} {nL maxL n index pc sz qo : Nat} {ls : Array Slot} {avs rest st0 : List Value} {D : va_G} {cA : Nat → ClassId} {A : Nat → Prop} {h : Nat → Nat} {f : Nat → Int64} {u : SV} {y : MethodName} {ret : Option FieldType} {rm : Room} {own : String} {hh : List (Nat × Nat × Nat × Nat)}
theorem lx_m {post : Int32 → (Nat → Int64) × SV → Prop} (hy : plainName y.cls = true) (hys : y.cls = R_L) (hlen : (lg_sl avs).length ≤ maxL) (body : ∀ (p : Program) (e : Env) (s : State) (m : MethodId) (args : Array Value) (below : List Frame) (meth : Method) (c : Code), gC p s m args meth c cc maxL R_L → gW c s (va_A (wW cA h qo f u) sz) hh → meth.sig.returnType = ret → s.heap.size = sz → wI D cA (va_A (wW cA h qo f u) sz) s h qo f u s.heap [] → ∀ ls : Array Slot, lv_has ls maxL (lv_args 0 avs) → W p l e rm s m args below meth c s.heap [] 0 0 (MQ below (va_Qi post (wAt D cA (va_A (wW cA h qo f u) sz) h qo) (va_A (wW cA h qo f u) sz)) args s 1 6 (va_A (wW cA h qo f u) sz)) (F0 m 0 ls [])) : wMi l D cA h qo f u sz y (.codeWith y cc maxL ret hh) rm avs post := by
  refine va_MetW (cc := cc) (maxL := maxL) (ret := ret) (hh := hh) hy rfl ?_
  intro p e s m args below meth c s₁ B hml hv
  obtain ⟨rfl, hsz, hP, hK, hD0, hZ, hTx, hNc⟩ := hv
  subst hsz
  have hts := atoms_spec (ws := .codeWith y cc maxL ret hh :: wG) B.pre
  have hl := lv_entry avs (n := maxL) hlen
  rw [lg_entry_eq]
  obtain ⟨m9, meth9, c9, hn9, h1, h2, -, -, h6, -⟩ := Cond.codeWith_spec (hts _ List.mem_cons_self)
  cases hn9.symm.trans B.named
  cases h1.symm.trans B.method
  cases h2.symm.trans (Stand.of_body B).code
  exact body p e s m _ below meth c ⟨B.exec, B.bytes, hml, by rw [← hys]; exact findClass_of_methodNamed B.named, fun w hw => hts w (List.mem_cons_of_mem _ hw), B.notSynchronized⟩ ⟨hZ, hTx, hNc, tab_eq h6⟩ B.returns rfl ⟨hK, hP, hD0.self, va_S.rf, fun q hq => Or.inr hq⟩ _ hl
theorem lx_ret {post : Int32 → (Nat → Int64) × SV → Prop} {v : Int32} (C : gC p s m args meth c cc nL own) (hr : meth.sig.returnType = some .int) (I : wI D cA A s h qo f u H locs) (hc : cells ≤ 1) (hs : slots ≤ 6) (hp : post v (f, u)) (hdg : decode cc pc = .ok (.ireturn, 1)) : W p l e R s m args below meth c H locs cells slots (MQ below (va_Qi post (wAt D cA A h qo) A) args s 1 6 A) (F0 m pc ls [.int v]) :=
  W.widen (k := 1) (n := 6) hc hs (W.iret (v := v) C.1 C.2.1 hr (fun t ht hW => ⟨⟨v, (f, u), rfl, hp, by rw [ht]; exact I.2.1, va_K.moved hW.alike I.1, I.2.2.1⟩, I.2.2.2.1.F ht⟩) (fun q hq => I.2.2.2.1.2.2 q hq) hdg C.2.2.2.2.2)
theorem lx_last {x : Int64} (C : gC p s m args meth c cc nL own) (I : wI D cA A s h qo f u H locs) (hdg : decode cc pc = .ok (.lastore, 1)) (kk : ∀ (H1 : Heap) (locs1 : List Loc), wI D cA A s h qo (vp_updL f 0 x) u H1 locs1 → W p l e R s m args below meth c H1 locs1 cells slots Q (F0 m (pc + 1) ls rest)) : W p l e R s m args below meth c H locs cells slots Q (F0 m pc ls (.long x :: .int (nI 0) :: .ref qo :: rest)) :=
  va_last C.1 C.2.1 I.1 I.2.1 I.2.2.1 I.2.2.2.1 0 2 rfl rfl (vp_in_nI (by decide) (by decide)) hdg (fun H1 locs1 hP hD hS => kk H1 locs1 ⟨I.1, hP, hD, hS, I.2.2.2.2⟩)
theorem lx_call {post' : Option Value → SV → Prop} {pt' : Nat → SV → Prop} (C : gC p s m args meth c cc nL own) (G : gW c s A hh) (I : wI D cA A s h qo f u H locs) (hM : svX l D cA h u H.size y (.code y bytes maxL ret) rm avs post' pt') (k : lkV own index R_S y bytes maxL ret n) (hrc : rm.cells = 1) (hrs : rm.slots = 6) (hR : rm.frames + 1 ≤ R.frames ∧ 8 + (maxL + 11) + rm.locals ≤ R.locals) (hcl : 1 ≤ R.cells ∧ 6 ≤ R.slots) (hn : avs.length = n) (hl : ls.size = nL) (hst : st0 = avs.reverse ++ .ref (h 0) :: rest) (hrest : (rest.map fun v => v.category).sum ≤ 8) (hdg : decode cc pc = .ok (.invokevirtual index, 3))
    (kk : ∀ (v : Option Value) (u' : SV) (H1 : Heap) (locs1 : List Loc), post' v u' → wI D cA A s h qo f u' H1 locs1 → W p l e R s m args below meth c H1 locs1 0 0 Q (F0 m (pc + 3) ls (v.toList ++ rest)))
    (kt : ∀ (k x : Nat) (u' : SV) (H1 : Heap) (locs1 : List Loc), wx_E k x s.heap.size s H1 → pt' k u' → wI D cA A s h qo f u' H1 locs1 → wx_T p l e R s m args below meth c H1 locs1 1 6 Q (F0 m pc ls rest) x) : W p l e R s m args below meth c H locs 0 0 Q (F0 m pc ls st0) := by
  have cw := k.cw (R := R) (rm := rm) (args := args) (s := s) C.2.2.2.2.1 hR
  rw [hrc, hrs] at cw
  obtain ⟨bw, cwo, ts, tb, st, ro, mr, la, fu, dn, wr⟩ := u
  have hPc := I.2.1.sub (ws' := svW cA h (bw, cwo, ts, tb, st, ro, mr, la, fu, dn, wr)) [1, 2, 3, 4, 5, 6] rfl
  have hDc := I.2.2.1.sub (ws' := svW cA h (bw, cwo, ts, tb, st, ro, mr, la, fu, dn, wr)) [1, 2, 3, 4, 5, 6] (by decide) rfl
  have hF := va_free (wc := svW cA h (bw, cwo, ts, tb, st, ro, mr, la, fu, dn, wr)) I.2.2.1 I.2.2.2.1 I.2.2.2.2 [1, 2, 3, 4, 5, 6] rfl
  have back : ∀ (u' : SV) (t : State) (H1 : Heap) (locs1 : List Loc), t.heap = H1 → svAt D cA (svA cA h (bw, cwo, ts, tb, st, ro, mr, la, fu, dn, wr) H.size) h u' t → (∀ q : Nat, q < H.size → ¬ svA cA h (bw, cwo, ts, tb, st, ro, mr, la, fu, dn, wr) H.size q → H1[q]? = H[q]?) → va_S A s.heap H1 locs1 → wI D cA A s h qo f u' H1 locs1 := by
    intro u' t H1 locs1 ht hB hk hS
    have hJ := va_join (wr := [(qo, .inl (cA 2, 1, .inr (.inl f)))]) (w1 := svW cA h u') I.2.1 I.2.2.1 [1, 2, 3, 4, 5, 6] [0] rfl rfl (by decide) (by decide) hk hF (by rw [← ht]; exact hB.1) hB.2.2
    exact ⟨I.1, hJ.1, hJ.2, hS, I.2.2.2.2⟩
  refine wx_call (wx_runV (As := avs) (rest := rest) ⟨C.1, C.2.1, C.2.2.1, C.2.2.2.1, C.2.2.2.2.1⟩ hM cw ⟨fun a U g mk q => ⟨q.1, q.2.blind g mk a⟩, va_recv (q := (R_S, F_S, 11)) I.1 hPc (ci := 0) (q0 := 0) rfl rfl, fun U hU hW => ⟨rfl, ⟨by rw [hU], by rw [hU]; exact hPc, va_K.moved hW.alike I.1, hDc.weaken (fun _ _ _ _ => trivial)⟩, by rw [hU]; exact ((G.1.moved hW.alike).kept I.2.2.2.1.2.1).narrow hF, G.2.1.warm hW⟩⟩ rfl hn hl hst (lv_room hrest) hdg ⟨by omega, by omega⟩) I.2.2.2.1 (fun q _ hq => hF q hq) (fun q hq => hF q hq) (fun v u' t H1 locs1 ht hvm hw hB hk hS => ?_) (fun k' x u' t H1 locs1 ht hvm hE hw hB hk hS => ?_)
  · exact kk v u' H1 locs1 hw (back u' t H1 locs1 ht hB hk hS)
  · exact wx_widen (k := 1) (n := 6) (by omega) (by omega) (kt k' x u' H1 locs1 hE hw (back u' t H1 locs1 ht hB hk hS))
end LX
