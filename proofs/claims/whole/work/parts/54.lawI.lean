/-! ===== BEGIN a static call of a method with an exception table ===== -/
section VXS
variable {p : Program} {l : Launch} {e : Env} {R : Room} {s : State} {m : MethodId} {args : Array Value} {below : List Frame} {meth : Method} {c : Code} {T : State} {H : Heap} {locs : List Loc} {cells slots : Nat}
abbrev vx_CSW (R : Room) (s : State) (args : Array Value) (own : String) (index : Nat) (y : MethodName) (bytes : ByteArray) (maxL : Nat) (ret : Option FieldType) (hh : List (Nat × Nat × Nat × Nat)) (ws : List Cond) (rm : Room) (mc ms n : Nat) : Prop :=
  (rm.cells = mc ∧ rm.slots = ms ∧ rm.frames + 1 ≤ R.frames ∧ 8 + (maxL + 11) + rm.locals ≤ R.locals ∧ (∀ w ∈ ws, ∀ (a' : Array Value) (U : State), s.WarmedH U.vm → w.before a' U = true) ∧ Cond.codeWith y bytes maxL ret hh ∈ ws) ∧
  (Cond.codeWith y bytes maxL ret hh).before args s = true ∧ (Cond.initialized y.cls).before args s = true ∧ (y.cls ≠ "java/lang/invoke/MethodHandle" ∧ y.cls ≠ "java/lang/invoke/VarHandle") ∧
  (∀ sig, parseMethodDescriptor y.desc = some sig → n = sig.parameters.length) ∧ (Cond.methodLink own index y).before args s = true ∧ (Cond.static y).before args s = true
theorem vx_cwSW {own : String} {index maxL mc ms : Nat} {y : MethodName} {bytes : ByteArray} {ret : Option FieldType} {hh : List (Nat × Nat × Nat × Nat)} {Ts ws ws' : List Cond} {rm : Room} (n : Nat) (ht : ∀ w ∈ Ts, w.before args s = true) (hT : GoodIn Ts (va_wsS own index y ws)) (hw : ws = Cond.codeWith y bytes maxL ret hh :: ws') (hrc : rm.cells = mc) (hrs : rm.slots = ms)
    (hd : y.cls ≠ "java/lang/invoke/MethodHandle" ∧ y.cls ≠ "java/lang/invoke/VarHandle" ∧ (parseMethodDescriptor y.desc).map (fun d => d.parameters.length) = some n) (hR : rm.frames + 1 ≤ R.frames ∧ 8 + (maxL + 11) + rm.locals ≤ R.locals) :
    vx_CSW R s args own index y bytes maxL ret hh ws rm mc ms n := by
  have ok : ∀ w ∈ va_wsS own index y ws, w.before args s = true := fun w h => ht w (hT w h).1
  have hG : GoodIn Ts ws := fun w h => hT w (by unfold va_wsS; exact List.mem_append_right _ h)
  have hc : Cond.codeWith y bytes maxL ret hh ∈ ws := by rw [hw]; exact List.mem_cons_self
  refine ⟨⟨hrc, hrs, hR.1, hR.2, pay_in ht hG, hc⟩, ht _ (hG _ hc).1, ok _ (by simp [va_wsS]), ⟨hd.1, hd.2.1⟩, fun sig h => ?_, ok _ (by simp [va_wsS]), ok _ (by simp [va_wsS])⟩
  have h2 := hd.2.2
  rw [h] at h2
  exact (Option.some.inj h2).symm
theorem vx_callSW (X : Stand p l e R s m args below meth c T locs cells slots) (hexec : p.tables.exec = Jvm.exec) {own : String} {index : Nat} {y : MethodName} {bytes : ByteArray} {maxL : Nat} {ret : Option FieldType} {hh : List (Nat × Nat × Nat × Nat)}
    (hown : s.vm.findClass own = some m.cls) (hlink : (Cond.methodLink own index y).before args s = true) (hstat : (Cond.static y).before args s = true) (hinit : (Cond.initialized y.cls).before args s = true)
    (hcode : (Cond.codeWith y bytes maxL ret hh).before args s = true) (hy : y.cls ≠ "java/lang/invoke/MethodHandle" ∧ y.cls ≠ "java/lang/invoke/VarHandle")
    {W9 : Nat} {Pre : Pt → Array Value → Prop} {Post : Pt → Array Value → Option Value → Pt → Prop} (hK : Back l R p e below s args y 3 W9 Pre Post)
    {g : JFrame} (hg : g.method = m) (hsize : g.locals.size = c.maxLocals) {argsL rest : List Value} (hlen : ∀ sig, parseMethodDescriptor y.desc = some sig → argsL.length = sig.parameters.length)
    (hstack : g.stack = argsL.reverse ++ rest) (hW : 2 * g.monitorRoom + (rest.map fun v => v.category).sum ≤ W9) (hdg : decode c.code g.pc = .ok (.invokestatic index, 3))
    (hpre : ∀ vm₁, s.WarmedH vm₁ → Pre ⟨T.setVm vm₁, locs, cells, slots⟩ argsL.toArray) :
    ∃ (v : Option Value) (vm₁ : Vm) (B : Pt), s.WarmedH vm₁ ∧ Stand p l e R s m args below meth c B.U B.locs B.cells B.slots ∧ Post ⟨T.setVm vm₁, locs, cells, slots⟩ argsL.toArray v B ∧
      ∀ target, Steps p.tables e below (B.U.setTop { g with pc := g.pc + 3, stack := v.toList ++ rest }) target → Steps p.tables e below (T.setTop g) target := by
  obtain ⟨mk, methM, cM, hnamed, hmethM, -, -, -, -, -, -, hsigM⟩ := Cond.codeWith_spec hcode
  have hstatic : methM.isStatic = true := Cond.static_spec hnamed hmethM hstat
  obtain ⟨kP, hkP, -⟩ := className_of_methodNamed hnamed
  have hinitP : kP.init = .initialized := Cond.initialized_spec (findClass_of_methodNamed hnamed) hkP hinit
  obtain ⟨vm₁, X₁, hstep₁⟩ := X.invokestatic hexec hown hlink hnamed hmethM hstatic hkP hinitP hy (g := g) hg (argsL := argsL) (rest := rest) (hlen _ hsigM) hstack hdg
  obtain ⟨v, B, X', hpost, hsteps⟩ := hK m meth c ⟨T.setVm vm₁, locs, cells, slots⟩ { g with stack := rest } (.invokestatic index) mk argsL.toArray X₁ hg hsize hdg hW (X₁.named hnamed) (hpre vm₁ X₁.warmed)
  exact ⟨v, vm₁, B, X₁.warmed, X', hpost, fun target h => hstep₁ _ fun acts => by rw [doInvoke_state]; exact hsteps.trans h⟩
theorem vx_runSW {y : MethodName} {bytes cc : ByteArray} {maxL nL mc ms n index : Nat} {ret : Option FieldType} {hh : List (Nat × Nat × Nat × Nat)} {ws : List Cond} {rm : Room} {Pc : Array Value → State → Prop} {Qc : Array Value → State → Outcome → State → Prop} {free : Addr → Prop} {Ts : List Cond} {own : String} {As rest : List Value} {g : JFrame}
    (S : CallFix p m c cc nL s args Ts own) (hM : Met l y ws rm Pc Qc mc ms free) (cw : vx_CSW R s args own index y bytes maxL ret hh ws rm mc ms n) (hp : PreS s H Pc As)
    (hg : g.method = m) (hn : As.length = n) (hsize : g.locals.size = nL) (hstack : g.stack = As.reverse ++ rest) (hW : 2 * g.monitorRoom + (rest.map fun v => v.category).sum ≤ 8) (hdg : decode cc g.pc = .ok (.invokestatic index, 3)) (hf : cells + mc ≤ R.cells ∧ slots + ms ≤ R.slots) :
    va_Run p l e R s m args below meth c H locs cells slots mc ms g rest (Qc As.toArray) (free) := by
  obtain ⟨⟨hrc, hrs, hfr, hlo, hws, hcw⟩, hcode, hini, hy, hlen, hl, hstt⟩ := cw
  have hK : Back l R p e below s args y 3 8 (PreOf R mc ms Pc) (PostOf Qc mc ms free) := va_backW (hh := hh) (bytes := bytes) (maxL := maxL) (ret := ret) hM hp.1 hrc hrs hfr hlo hws hcw (fun a' U hW => word_at hW (Or.inl (by first | rfl | simp [Cond.onTables, Cond.keeps, Cond.steady])) hini)
  obtain ⟨hx, hb, hml, ho, -⟩ := S
  intro T hT X
  obtain ⟨v, vm₁, ⟨U', l2, c2, s2⟩, hW₁, X', ⟨g', mk, t, L, e1, e2, hq, h1, hL, h2, h3⟩, st⟩ := vx_callSW X hx (hh := hh) (bytes := bytes) (maxL := maxL) (ret := ret) ho hl hstt hini hcode hy hK hg (hsize.trans hml.symm) (argsL := As) (rest := rest) (fun sig h => hn.trans (hlen sig h)) hstack hW (by rw [hb]; exact hdg)
    (fun vm₁ hW₁ => ⟨hf.1, hf.2, hp.2 (T.setVm vm₁) hT hW₁⟩)
  dsimp only [Pt.U, Pt.locs, Pt.cells, Pt.slots] at X' e1 e2 h1 h2 h3 st
  subst h1; subst h2; subst h3
  exact ⟨v, (T.setVm vm₁).calling g' mk As.toArray, t, U', L, hT, X', hL, e1, e2, hq, st⟩
end VXS
def lkW (own : String) (idx : Nat) (y : MethodName) (b : ByteArray) (maxL : Nat) (ret : Option FieldType) (hh : List (Nat × Nat × Nat × Nat)) (n : Nat) : Prop :=
  Cond.methodLink own idx y ∈ wG ∧ Cond.static y ∈ wG ∧ Cond.initialized y.cls ∈ wG ∧ Cond.codeWith y b maxL ret hh ∈ wG ∧
  (y.cls ≠ "java/lang/invoke/MethodHandle" ∧ y.cls ≠ "java/lang/invoke/VarHandle" ∧ (parseMethodDescriptor y.desc).map (fun d => d.parameters.length) = some n)
theorem lkW.cw {own : String} {idx : Nat} {y : MethodName} {b : ByteArray} {maxL : Nat} {ret : Option FieldType} {hh : List (Nat × Nat × Nat × Nat)} {n : Nat} (k : lkW own idx y b maxL ret hh n) {R rm : Room} {s : State} {args : Array Value} (hG : ∀ w ∈ wG, w.before args s = true) (hR : rm.frames + 1 ≤ R.frames ∧ 8 + (maxL + 11) + rm.locals ≤ R.locals) :
    vx_CSW R s args own idx y b maxL ret hh (.codeWith y b maxL ret hh :: wG) rm rm.cells rm.slots n := by
  obtain ⟨k1, k2, k3, k4, k6⟩ := k
  refine vx_cwSW n hG (wg_sub (fun w h => h) fun w hw => ?_) rfl rfl rfl k6 hR
  simp only [va_wsS, List.mem_append, List.mem_cons, List.not_mem_nil, or_false] at hw
  rcases hw with (rfl | rfl | rfl) | rfl | hw
  · exact k1
  · exact k2
  · exact k3
  · exact k4
  · exact hw
/-- the law's world: the reference, 'out', the class's object -/
def lW (cA : Nat → ClassId) (hS hM : Nat → Nat) (qo : Nat) (f : Nat → Int64) (u : SV) (w : SM) : va_W := smW cA hM w ++ wW cA hS qo f u
abbrev lA (s : State) : Nat → Prop := fun q => s.heap.size ≤ q
def lI (D : va_G) (cA : Nat → ClassId) (s : State) (hS hM : Nat → Nat) (qo : Nat) (f : Nat → Int64) (u : SV) (w : SM) (H : Heap) (locs : List Loc) : Prop := va_K D vcl (ty3 cA) s ∧ va_P D vcl (lW cA hS hM qo f u w) H ∧ va_D (lA s) (lW cA hS hM qo f u w) ∧ va_S (lA s) s.heap H locs
def gL (l : Launch) (s : State) : Prop := l.stackTraces = false ∧ wx_Z (lA s) s s.heap ∧ svTx s ∧ lNc s
section LL
variable {p : Program} {l : Launch} {e : Env} {R : Room} {s : State} {m : MethodId} {args : Array Value} {below : List Frame} {meth : Method} {c : Code} {H : Heap} {locs : List Loc} {cells slots : Nat} {Q : State → Prop}
variable {cc bytes : ByteArray} {nL maxL n index pc qo : Nat} {ls : Array Slot} {avs rest st0 : List Value} {D : va_G} {cA : Nat → ClassId} {hS hM : Nat → Nat} {f : Nat → Int64} {u : SV} {w : SM} {y : MethodName} {ret : Option FieldType} {rm : Room} {own : String} {hh : List (Nat × Nat × Nat × Nat)}
theorem ll_wrap {post : Int32 → (Nat → Int64) × SV → Prop} (C : gC p s m args meth c cc nL own) (G : gL l s) (I : lI D cA s hS hM qo f u w H locs) (hW : wMi l D cA hS qo f u H.size y (.codeWith y bytes maxL ret hh) rm avs post) (k : lkW own index y bytes maxL ret hh n) (hrc : rm.cells = 1) (hrs : rm.slots = 6) (hR : rm.frames + 1 ≤ R.frames ∧ 8 + (maxL + 11) + rm.locals ≤ R.locals) (hcl : cells + 1 ≤ R.cells ∧ slots + 6 ≤ R.slots) (hn : avs.length = n) (hl : ls.size = nL) (hst : st0 = avs.reverse ++ rest) (hrest : (rest.map fun v => v.category).sum ≤ 8) (hdg : decode cc pc = .ok (.invokestatic index, 3))
    (kk : ∀ (r : Int32) (f' : Nat → Int64) (u' : SV) (H1 : Heap) (locs1 : List Loc), post r (f', u') → lI D cA s hS hM qo f' u' w H1 locs1 → W p l e R s m args below meth c H1 locs1 (cells + 1) (slots + 6) Q (F0 m (pc + 3) ls (.int r :: rest))) : W p l e R s m args below meth c H locs cells slots Q (F0 m pc ls st0) := by
  have cw := k.cw (R := R) (rm := rm) (args := args) (s := s) C.2.2.2.2.1 hR
  rw [hrc, hrs] at cw
  obtain ⟨bw, cwo, ts, tb, st, ro, mr, la, fu, dn, wr⟩ := u
  obtain ⟨co, dn', fu', ct, vo, wo, th, ow, ba, mr'⟩ := w
  have hPc := I.2.1.sub (ws' := wW cA hS qo f (bw, cwo, ts, tb, st, ro, mr, la, fu, dn, wr)) [5, 6, 7, 8, 9, 10, 11] rfl
  have hDc := I.2.2.1.sub (ws' := wW cA hS qo f (bw, cwo, ts, tb, st, ro, mr, la, fu, dn, wr)) [5, 6, 7, 8, 9, 10, 11] (by decide) rfl
  have hF := va_free (wc := wW cA hS qo f (bw, cwo, ts, tb, st, ro, mr, la, fu, dn, wr)) I.2.2.1 I.2.2.2 (fun _ h => h) [5, 6, 7, 8, 9, 10, 11] rfl
  refine va_calli (vx_runSW (As := avs) (rest := rest) ⟨C.1, C.2.1, C.2.2.1, C.2.2.2.1, C.2.2.2.2.1⟩ hW cw ⟨fun a U g mk q => ⟨q.1, q.2.blind g mk a⟩, fun U hU hW => ⟨rfl, by rw [hU], by rw [hU]; exact hPc, va_K.moved hW.alike I.1, hDc.weaken (fun _ _ _ _ => trivial), by rw [hU]; exact ((G.2.1.moved hW.alike).kept I.2.2.2.2.1).narrow hF, G.2.2.1.warm hW, G.2.2.2.moved hW.alike⟩⟩ rfl hn hl hst (lv_room hrest) hdg hcl) I.2.2.2 (fun q _ hq => hF q hq) (fun q hq => hF q hq) (fun r v t H1 locs1 ht hvm hw hB hz hk hS1 => ?_)
  have hJ := va_join (wr := smW cA hM (co, dn', fu', ct, vo, wo, th, ow, ba, mr')) (w1 := wW cA hS qo v.1 v.2) I.2.1 I.2.2.1 [5, 6, 7, 8, 9, 10, 11] [0, 1, 2, 3, 4] rfl rfl (by decide) (by decide) hk hF (by rw [← ht]; exact hB.1) hB.2.2
  exact kk r v.1 v.2 H1 locs1 hw ⟨I.1, hJ.1, hJ.2, hS1⟩
theorem ll_mi {post : Int32 → SM → Prop} (C : gC p s m args meth c cc nL own) (I : lI D cA s hS hM qo f u w H locs) (hK : smMi l D cA hM w H.size y (.code y bytes maxL ret) rm avs post) (k : lkV own index R_M y bytes maxL ret n) (hrc : rm.cells = 0) (hrs : rm.slots = 0) (hR : rm.frames + 1 ≤ R.frames ∧ 8 + (maxL + 11) + rm.locals ≤ R.locals) (hcl : cells ≤ R.cells ∧ slots ≤ R.slots) (hn : avs.length = n) (hl : ls.size = nL) (hst : st0 = avs.reverse ++ .ref (hM 0) :: rest) (hrest : (rest.map fun v => v.category).sum ≤ 8) (hdg : decode cc pc = .ok (.invokevirtual index, 3))
    (kk : ∀ (r : Int32) (w' : SM) (H1 : Heap) (locs1 : List Loc), post r w' → lI D cA s hS hM qo f u w' H1 locs1 → W p l e R s m args below meth c H1 locs1 cells slots Q (F0 m (pc + 3) ls (.int r :: rest))) : W p l e R s m args below meth c H locs cells slots Q (F0 m pc ls st0) := by
  have cw := k.cw (R := R) (rm := rm) (args := args) (s := s) C.2.2.2.2.1 hR
  rw [hrc, hrs] at cw
  obtain ⟨bw, cwo, ts, tb, st, ro, mr, la, fu, dn, wr⟩ := u
  obtain ⟨co, dn', fu', ct, vo, wo, th, ow, ba, mr'⟩ := w
  have hPc := I.2.1.sub (ws' := smW cA hM (co, dn', fu', ct, vo, wo, th, ow, ba, mr')) [0, 1, 2, 3, 4] rfl
  have hDc := I.2.2.1.sub (ws' := smW cA hM (co, dn', fu', ct, vo, wo, th, ow, ba, mr')) [0, 1, 2, 3, 4] (by decide) rfl
  have hF := va_free (wc := smW cA hM (co, dn', fu', ct, vo, wo, th, ow, ba, mr')) I.2.2.1 I.2.2.2 (fun _ h => h) [0, 1, 2, 3, 4] rfl
  refine va_calli (va_runV (As := avs) (rest := rest) ⟨C.1, C.2.1, C.2.2.1, C.2.2.2.1, C.2.2.2.2.1⟩ hK cw ⟨fun a U g mk q => ⟨q.1, q.2.blind g mk a⟩, va_recv (q := (R_M, F_M, 10)) I.1 hPc (ci := 1) (q0 := 0) rfl rfl, fun U hU hW => ⟨rfl, by rw [hU], by rw [hU]; exact hPc, va_K.moved hW.alike I.1, hDc.weaken (fun _ _ _ _ => trivial)⟩⟩ rfl hn hl hst (lv_room hrest) hdg hcl) I.2.2.2 (fun q _ hq => hF q hq) (fun q hq => hF q hq) (fun r v t H1 locs1 ht hvm hw hB hz hk hS1 => ?_)
  obtain ⟨co2, dn2, fu2, ct2, vo2, wo2, th2, ow2, ba2, mr2⟩ := v
  have hJ := va_join (wr := wW cA hS qo f (bw, cwo, ts, tb, st, ro, mr, la, fu, dn, wr)) (w1 := smW cA hM (co2, dn2, fu2, ct2, vo2, wo2, th2, ow2, ba2, mr2)) I.2.1 I.2.2.1 [0, 1, 2, 3, 4] [5, 6, 7, 8, 9, 10, 11] rfl rfl (by decide) (by decide) hk hF (by rw [← ht]; exact hB.1) hB.2.2
  exact kk r _ H1 locs1 hw ⟨I.1, hJ.1.sub (ws' := lW cA hS hM qo f (bw, cwo, ts, tb, st, ro, mr, la, fu, dn, wr) (co2, dn2, fu2, ct2, vo2, wo2, th2, ow2, ba2, mr2)) [7, 8, 9, 10, 11, 0, 1, 2, 3, 4, 5, 6] rfl, hJ.2.sub (ws' := lW cA hS hM qo f (bw, cwo, ts, tb, st, ro, mr, la, fu, dn, wr) (co2, dn2, fu2, ct2, vo2, wo2, th2, ow2, ba2, mr2)) [7, 8, 9, 10, 11, 0, 1, 2, 3, 4, 5, 6] (by decide) rfl, hS1⟩
theorem ll_mv {post : SM → Prop} (C : gC p s m args meth c cc nL own) (I : lI D cA s hS hM qo f u w H locs) (hK : smMv l D cA hM w H.size y (.code y bytes maxL ret) rm avs post) (k : lkV own index R_M y bytes maxL ret n) (hrc : rm.cells = 0) (hrs : rm.slots = 0) (hR : rm.frames + 1 ≤ R.frames ∧ 8 + (maxL + 11) + rm.locals ≤ R.locals) (hcl : cells ≤ R.cells ∧ slots ≤ R.slots) (hn : avs.length = n) (hl : ls.size = nL) (hst : st0 = avs.reverse ++ .ref (hM 0) :: rest) (hrest : (rest.map fun v => v.category).sum ≤ 8) (hdg : decode cc pc = .ok (.invokevirtual index, 3))
    (kk : ∀ (w' : SM) (H1 : Heap) (locs1 : List Loc), post w' → lI D cA s hS hM qo f u w' H1 locs1 → W p l e R s m args below meth c H1 locs1 cells slots Q (F0 m (pc + 3) ls rest)) : W p l e R s m args below meth c H locs cells slots Q (F0 m pc ls st0) := by
  have cw := k.cw (R := R) (rm := rm) (args := args) (s := s) C.2.2.2.2.1 hR
  rw [hrc, hrs] at cw
  obtain ⟨bw, cwo, ts, tb, st, ro, mr, la, fu, dn, wr⟩ := u
  obtain ⟨co, dn', fu', ct, vo, wo, th, ow, ba, mr'⟩ := w
  have hPc := I.2.1.sub (ws' := smW cA hM (co, dn', fu', ct, vo, wo, th, ow, ba, mr')) [0, 1, 2, 3, 4] rfl
  have hDc := I.2.2.1.sub (ws' := smW cA hM (co, dn', fu', ct, vo, wo, th, ow, ba, mr')) [0, 1, 2, 3, 4] (by decide) rfl
  have hF := va_free (wc := smW cA hM (co, dn', fu', ct, vo, wo, th, ow, ba, mr')) I.2.2.1 I.2.2.2 (fun _ h => h) [0, 1, 2, 3, 4] rfl
  refine va_callv (va_runV (As := avs) (rest := rest) ⟨C.1, C.2.1, C.2.2.1, C.2.2.2.1, C.2.2.2.2.1⟩ hK cw ⟨fun a U g mk q => ⟨q.1, q.2.blind g mk a⟩, va_recv (q := (R_M, F_M, 10)) I.1 hPc (ci := 1) (q0 := 0) rfl rfl, fun U hU hW => ⟨rfl, by rw [hU], by rw [hU]; exact hPc, va_K.moved hW.alike I.1, hDc.weaken (fun _ _ _ _ => trivial)⟩⟩ rfl hn hl hst (lv_room hrest) hdg hcl) I.2.2.2 (fun q _ hq => hF q hq) (fun q hq => hF q hq) (fun v t H1 locs1 ht hvm hw hB hz hk hS1 => ?_)
  obtain ⟨co2, dn2, fu2, ct2, vo2, wo2, th2, ow2, ba2, mr2⟩ := v
  have hJ := va_join (wr := wW cA hS qo f (bw, cwo, ts, tb, st, ro, mr, la, fu, dn, wr)) (w1 := smW cA hM (co2, dn2, fu2, ct2, vo2, wo2, th2, ow2, ba2, mr2)) I.2.1 I.2.2.1 [0, 1, 2, 3, 4] [5, 6, 7, 8, 9, 10, 11] rfl rfl (by decide) (by decide) hk hF (by rw [← ht]; exact hB.1) hB.2.2
  exact kk _ H1 locs1 hw ⟨I.1, hJ.1.sub (ws' := lW cA hS hM qo f (bw, cwo, ts, tb, st, ro, mr, la, fu, dn, wr) (co2, dn2, fu2, ct2, vo2, wo2, th2, ow2, ba2, mr2)) [7, 8, 9, 10, 11, 0, 1, 2, 3, 4, 5, 6] rfl, hJ.2.sub (ws' := lW cA hS hM qo f (bw, cwo, ts, tb, st, ro, mr, la, fu, dn, wr) (co2, dn2, fu2, ct2, vo2, wo2, th2, ow2, ba2, mr2)) [7, 8, 9, 10, 11, 0, 1, 2, 3, 4, 5, 6] (by decide) rfl, hS1⟩
theorem ll_si {post : Int32 → SV → Prop} (C : gC p s m args meth c cc nL own) (I : lI D cA s hS hM qo f u w H locs) (hK : svMi l D cA hS u H.size y (.code y bytes maxL ret) rm avs post) (k : lkV own index R_S y bytes maxL ret n) (hrc : rm.cells = 0) (hrs : rm.slots = 0) (hR : rm.frames + 1 ≤ R.frames ∧ 8 + (maxL + 11) + rm.locals ≤ R.locals) (hcl : cells ≤ R.cells ∧ slots ≤ R.slots) (hn : avs.length = n) (hl : ls.size = nL) (hst : st0 = avs.reverse ++ .ref (hS 0) :: rest) (hrest : (rest.map fun v => v.category).sum ≤ 8) (hdg : decode cc pc = .ok (.invokevirtual index, 3))
    (kk : ∀ (r : Int32) (u' : SV) (H1 : Heap) (locs1 : List Loc), post r u' → lI D cA s hS hM qo f u' w H1 locs1 → W p l e R s m args below meth c H1 locs1 cells slots Q (F0 m (pc + 3) ls (.int r :: rest))) : W p l e R s m args below meth c H locs cells slots Q (F0 m pc ls st0) := by
  have cw := k.cw (R := R) (rm := rm) (args := args) (s := s) C.2.2.2.2.1 hR
  rw [hrc, hrs] at cw
  obtain ⟨bw, cwo, ts, tb, st, ro, mr, la, fu, dn, wr⟩ := u
  obtain ⟨co, dn', fu', ct, vo, wo, th, ow, ba, mr'⟩ := w
  have hPc := I.2.1.sub (ws' := svW cA hS (bw, cwo, ts, tb, st, ro, mr, la, fu, dn, wr)) [6, 7, 8, 9, 10, 11] rfl
  have hDc := I.2.2.1.sub (ws' := svW cA hS (bw, cwo, ts, tb, st, ro, mr, la, fu, dn, wr)) [6, 7, 8, 9, 10, 11] (by decide) rfl
  have hF := va_free (wc := svW cA hS (bw, cwo, ts, tb, st, ro, mr, la, fu, dn, wr)) I.2.2.1 I.2.2.2 (fun _ h => h) [6, 7, 8, 9, 10, 11] rfl
  refine va_calli (va_runV (As := avs) (rest := rest) ⟨C.1, C.2.1, C.2.2.1, C.2.2.2.1, C.2.2.2.2.1⟩ hK cw ⟨fun a U g mk q => ⟨q.1, q.2.blind g mk a⟩, va_recv (q := (R_S, F_S, 11)) I.1 hPc (ci := 0) (q0 := 0) rfl rfl, fun U hU hW => ⟨rfl, by rw [hU], by rw [hU]; exact hPc, va_K.moved hW.alike I.1, hDc.weaken (fun _ _ _ _ => trivial)⟩⟩ rfl hn hl hst (lv_room hrest) hdg hcl) I.2.2.2 (fun q _ hq => hF q hq) (fun q hq => hF q hq) (fun r v t H1 locs1 ht hvm hw hB hz hk hS1 => ?_)
  have hJ := va_join (wr := smW cA hM (co, dn', fu', ct, vo, wo, th, ow, ba, mr') ++ [(qo, .inl (cA 2, 1, .inr (.inl f)))]) (w1 := svW cA hS v) I.2.1 I.2.2.1 [6, 7, 8, 9, 10, 11] [0, 1, 2, 3, 4, 5] rfl rfl (by decide) (by decide) hk hF (by rw [← ht]; exact hB.1) hB.2.2
  exact kk r v H1 locs1 hw ⟨I.1, hJ.1, hJ.2, hS1⟩
theorem ll_sv {post : SV → Prop} (C : gC p s m args meth c cc nL own) (I : lI D cA s hS hM qo f u w H locs) (hK : svMv l D cA hS u H.size y (.code y bytes maxL ret) rm avs post) (k : lkV own index R_S y bytes maxL ret n) (hrc : rm.cells = 0) (hrs : rm.slots = 0) (hR : rm.frames + 1 ≤ R.frames ∧ 8 + (maxL + 11) + rm.locals ≤ R.locals) (hcl : cells ≤ R.cells ∧ slots ≤ R.slots) (hn : avs.length = n) (hl : ls.size = nL) (hst : st0 = avs.reverse ++ .ref (hS 0) :: rest) (hrest : (rest.map fun v => v.category).sum ≤ 8) (hdg : decode cc pc = .ok (.invokevirtual index, 3))
    (kk : ∀ (u' : SV) (H1 : Heap) (locs1 : List Loc), post u' → lI D cA s hS hM qo f u' w H1 locs1 → W p l e R s m args below meth c H1 locs1 cells slots Q (F0 m (pc + 3) ls rest)) : W p l e R s m args below meth c H locs cells slots Q (F0 m pc ls st0) := by
  have cw := k.cw (R := R) (rm := rm) (args := args) (s := s) C.2.2.2.2.1 hR
  rw [hrc, hrs] at cw
  obtain ⟨bw, cwo, ts, tb, st, ro, mr, la, fu, dn, wr⟩ := u
  obtain ⟨co, dn', fu', ct, vo, wo, th, ow, ba, mr'⟩ := w
  have hPc := I.2.1.sub (ws' := svW cA hS (bw, cwo, ts, tb, st, ro, mr, la, fu, dn, wr)) [6, 7, 8, 9, 10, 11] rfl
  have hDc := I.2.2.1.sub (ws' := svW cA hS (bw, cwo, ts, tb, st, ro, mr, la, fu, dn, wr)) [6, 7, 8, 9, 10, 11] (by decide) rfl
  have hF := va_free (wc := svW cA hS (bw, cwo, ts, tb, st, ro, mr, la, fu, dn, wr)) I.2.2.1 I.2.2.2 (fun _ h => h) [6, 7, 8, 9, 10, 11] rfl
  refine va_callv (va_runV (As := avs) (rest := rest) ⟨C.1, C.2.1, C.2.2.1, C.2.2.2.1, C.2.2.2.2.1⟩ hK cw ⟨fun a U g mk q => ⟨q.1, q.2.blind g mk a⟩, va_recv (q := (R_S, F_S, 11)) I.1 hPc (ci := 0) (q0 := 0) rfl rfl, fun U hU hW => ⟨rfl, by rw [hU], by rw [hU]; exact hPc, va_K.moved hW.alike I.1, hDc.weaken (fun _ _ _ _ => trivial)⟩⟩ rfl hn hl hst (lv_room hrest) hdg hcl) I.2.2.2 (fun q _ hq => hF q hq) (fun q hq => hF q hq) (fun v t H1 locs1 ht hvm hw hB hz hk hS1 => ?_)
  have hJ := va_join (wr := smW cA hM (co, dn', fu', ct, vo, wo, th, ow, ba, mr') ++ [(qo, .inl (cA 2, 1, .inr (.inl f)))]) (w1 := svW cA hS v) I.2.1 I.2.2.1 [6, 7, 8, 9, 10, 11] [0, 1, 2, 3, 4, 5] rfl rfl (by decide) (by decide) hk hF (by rw [← ht]; exact hB.1) hB.2.2
  exact kk v H1 locs1 hw ⟨I.1, hJ.1, hJ.2, hS1⟩
/-- an int of the script -/
theorem ll_ld (C : gC p s m args meth c cc nL own) (I : lI D cA s hS hM qo f u w H locs) {b L : Nat} {xs : Nat → Int32} (hX : va_X b L xs s s.heap) (hbl : b < s.heap.size) {k : Nat} (hk : k < L) (hL : L < 2 ^ 31) (hdg : decode cc pc = .ok (.iaload, 1)) (kk : W p l e R s m args below meth c H locs cells slots Q (F0 m (pc + 1) ls (.int (xs k) :: rest))) : W p l e R s m args below meth c H locs cells slots Q (F0 m pc ls (.int (nI k) :: .ref b :: rest)) := by
  refine va_sld C.1 C.2.1 hX hbl (Nat.not_le.mpr hbl) I.2.2.2 (vp_in_nI hk hL) hdg ?_
  rw [nI_clamp (Nat.lt_trans hk hL)]
  exact kk
theorem ll_out (C : gC p s m args meth c cc nL own) (I : lI D cA s hS hM qo f u w H locs) (hdg : decode cc pc = .ok (.laload, 1)) (kk : W p l e R s m args below meth c H locs cells slots Q (F0 m (pc + 1) ls (.long (f 0) :: rest))) : W p l e R s m args below meth c H locs cells slots Q (F0 m pc ls (.int (nI 0) :: .ref qo :: rest)) := by
  obtain ⟨co, dn', fu', ct, vo, wo, th, ow, ba, mr'⟩ := w
  exact va_lald C.1 C.2.1 I.1 I.2.1 5 2 rfl rfl (vp_in_nI (by decide) (by decide)) hdg kk
/-- two longs that are equal -/
theorem ll_cmp (C : gC p s m args meth c cc nL own) {x y : Int64} (h : x = y) (hdg : decode cc pc = .ok (.lcmp, 1)) (kk : W p l e R s m args below meth c H locs cells slots Q (F0 m (pc + 1) ls (.int (nI 0) :: rest))) : W p l e R s m args below meth c H locs cells slots Q (F0 m pc ls (.long y :: .long x :: rest)) := by
  subst h
  refine W.lcmp C.1 C.2.1 hdg ?_
  have e0 : lg_cmp x x = nI 0 := by simp [lg_cmp]; rfl
  rw [e0]
  exact kk
end LL
