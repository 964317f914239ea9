/-! My own rows: an exception is caught where its class's entry stands behind entries of other classes; their pool entries cold or warm. -/
theorem wx_go {Q : Handler → Pre} {E : CtlPost} {e : Env} {d : Bool} {acts : List Action} {S : State} {g : JFrame} {x : Addr} {y : ExceptionTableEntry} {t : List ExceptionTableEntry} {cT : ClassId} {cell : Cell} (hx : covers y g.pc = true) (h0 : y.catchType ≠ 0)
    (hl : S.vm.ClassLinks e.platform g.method.cls y.catchType cT) (hcell : S.heap[x]? = some cell) (hobj : ∀ k, cell.vm ≠ .statics k) (hk : ∃ k, S.vm.classes[cell.cls]? = some k) (hc : ∃ k, S.vm.classes[cT]? = some k) :
    wp (findHandler.go g x (y :: t)) Q E e d acts S ↔ if S.vm.assignable cell.cls cT = true then Q (.found y.handlerPc) d acts (S.setVm (S.vm.noted g.method.cls y.catchType (.cls cT))) else wp (findHandler.go g x t) Q E e d acts (S.setVm (S.vm.noted g.method.cls y.catchType (.cls cT))) := by
  simp only [covers] at hx
  obtain ⟨ha, ht⟩ := (resolveClass_links e.toSetting hl).op (op := VmOp.resolveClass g.method.cls y.catchType) rfl
  have hal : S.vm.Alike (S.vm.noted g.method.cls y.catchType (.cls cT)) := (Vm.Alike.refl S.vm).noted _ _ _
  obtain ⟨k1, hk1⟩ := hk
  obtain ⟨k2, hk2⟩ := hc
  obtain ⟨k1', hk1', -⟩ := hal.2.2 _ _ hk1
  obtain ⟨k2', hk2', -⟩ := hal.2.2 _ _ hk2
  have hasg := hal.assignable cell.cls cT
  cases hfit : S.vm.assignable cell.cls cT
  · rw [hfit] at hasg
    simp [findHandler.go, hx, h0, ha, ht, hcell, hobj, hk1', hk2', hasg, VmOp.dirties, VmOp.acts]
  · rw [hfit] at hasg
    simp [findHandler.go, hx, h0, ha, ht, hcell, hobj, hk1', hk2', hasg, VmOp.dirties, VmOp.acts]
section WXC
variable {p : Program} {l : Launch} {e : Env} {R : Room} {s : State} {m : MethodId} {args : Array Value} {below : List Frame} {meth : Method} {c : Code} {H : Heap} {locs : List Loc} {cells slots : Nat} {Q : State → Prop}
theorem wx_find {S : State} {g : JFrame} (hg : g.method = m) (hpl : e.platform.magicAccessors = ({} : Platform).magicAccessors) {own : String} (hown : s.vm.findClass own = some m.cls) {x : Addr} {cell : Cell} (hcell : S.heap[x]? = some cell) (hobj : cell.vm.isStatics = false) {C : String} (hC : s.vm.findClass C = some cell.cls)
    (ent : ExceptionTableEntry) (rest : List ExceptionTableEntry) (hent : covers ent g.pc = true ∧ ent.catchType ≠ 0 ∧ (Cond.classLink own ent.catchType C).before args s = true) :
    ∀ (pre : List ExceptionTableEntry) (vm₁ : Vm), s.WarmedH vm₁ → (∀ y ∈ pre, covers y g.pc = true ∧ y.catchType ≠ 0 ∧ ∃ nm, (Cond.classLink own y.catchType nm).before args s = true ∧ va_Nc C nm s) →
      ∃ vm', s.WarmedH vm' ∧ ∀ (Q : Handler → Pre) (E : CtlPost) (d : Bool) (acts : List Action), wp (findHandler.go g x (pre ++ ent :: rest)) Q E e d acts (S.setVm vm₁) ↔ Q (.found ent.handlerPc) d acts (S.setVm vm') := by
  subst hg
  have st : ∀ (y : ExceptionTableEntry) (nm : String) (vm₁ : Vm), s.WarmedH vm₁ → (Cond.classLink own y.catchType nm).before args s = true → ∃ cT, s.vm.findClass nm = some cT ∧ vm₁.ClassLinks e.platform g.method.cls y.catchType cT ∧ s.WarmedH (vm₁.noted g.method.cls y.catchType (.cls cT)) ∧ (∃ k, vm₁.classes[cT]? = some k) := by
    intro y nm vm₁ hW hlk
    obtain ⟨cT, hcT, hcl⟩ := Cond.classLink_spec hown hlk e.platform hpl
    obtain ⟨dk, _, _, kt, hd, _, _, _, _, hkt, _, hopen⟩ := hcl.here
    obtain ⟨kt', hkt', -⟩ := hW.alike.2.2 _ _ hkt
    exact ⟨cT, hcT, hW.classLinks hcl, hW.noted hd hopen (State.rightAt_cls hcl), kt', hkt'⟩
  obtain ⟨kC, hkC⟩ := Vm.classAt_of_findClass hC
  intro pre
  induction pre with
  | nil =>
    intro vm₁ hW _
    obtain ⟨cT, h1, h2, h3, h4⟩ := st ent C vm₁ hW hent.2.2
    cases hC.symm.trans h1
    obtain ⟨k', hk', -⟩ := hW.alike.2.2 _ _ hkC
    refine ⟨_, h3, fun Q E d acts => ?_⟩
    rw [List.nil_append, wx_go (S := S.setVm vm₁) hent.1 hent.2.1 h2 hcell (VmData.ne_statics_of hobj) ⟨k', hk'⟩ h4, if_pos (va_asg _ _)]
    exact Iff.rfl
  | cons y t ih =>
    intro vm₁ hW hpre
    obtain ⟨q1, q2, nm, q3, cc, tt, f1, f2, f3⟩ := hpre y List.mem_cons_self
    obtain ⟨cT, h1, h2, h3, h4⟩ := st y nm vm₁ hW q3
    cases hC.symm.trans f1
    cases h1.symm.trans f2
    obtain ⟨k', hk', -⟩ := hW.alike.2.2 _ _ hkC
    obtain ⟨vm', hW', hQ⟩ := ih _ h3 (fun z hz => hpre z (List.mem_cons_of_mem _ hz))
    refine ⟨vm', hW', fun Q E d acts => ?_⟩
    have hno : ¬ (S.setVm vm₁).vm.assignable cell.cls tt = true := by
      show ¬ vm₁.assignable cell.cls tt = true
      rw [hW.alike.assignable, f3]
      decide
    rw [List.cons_append, wx_go (S := S.setVm vm₁) q1 q2 h2 hcell (VmData.ne_statics_of hobj) ⟨k', hk'⟩ h4, if_neg hno]
    exact hQ Q E d acts
theorem wx_step {S : State} {x : Addr} {g : JFrame} {r : List Frame} {pc : Nat} {vm' : Vm} (hfind : ∀ (Q : Handler → Pre) (E : CtlPost) (d : Bool) (acts : List Action), wp (findHandler g x) Q E e d acts S ↔ Q (.found pc) d acts (S.setVm vm')) :
    (stepThrowing e S x (.java g :: r)).Is ((S.setVm vm').setFrames (.java { g with pc := pc, stack := [.ref x] } :: r)) [] := by
  simp only [stepThrowing, searchFrame, vmDo]
  generalize hr : Sem.go _ e false [] S = res
  obtain ⟨as, rfl, ha⟩ := Sem.eq_ok_of hr (a := Handler.found pc) (s' := S.setVm vm') (acts' := []) (by simp [hfind _ _ _ _])
  exact ⟨rfl, ha⟩
/-- the exception x of kind k is caught by the entry ent -/
theorem wx_catch {own : String} (hown : s.vm.findClass own = some m.cls) {k x z pc : Nat} {ls : Array Slot} {st : List Value} (hE : wx_E k x z s H) (pre : List ExceptionTableEntry) (ent : ExceptionTableEntry) (rest : List ExceptionTableEntry) (hsplit : c.exceptionTable.toList = pre ++ ent :: rest)
    (hpre : ∀ y ∈ pre, covers y pc = true ∧ y.catchType ≠ 0 ∧ ∃ nm, (Cond.classLink own y.catchType nm).before args s = true ∧ va_Nc (wx_N k) nm s) (hent : covers ent pc = true ∧ ent.catchType ≠ 0 ∧ (Cond.classLink own ent.catchType (wx_N k)).before args s = true)
    (kk : W p l e R s m args below meth c H locs cells slots Q (F0 m ent.handlerPc ls [.ref x])) : wx_T p l e R s m args below meth c H locs cells slots Q (F0 m pc ls st) x := by
  intro T hT X
  have hpl : e.platform.magicAccessors = ({} : Platform).magicAccessors := by rw [X.admits.platform]
  obtain ⟨-, cell, h1, h2, h3⟩ := hE
  obtain ⟨vm', hW', hQ⟩ := wx_find (e := e) (S := (T.setTop (F0 m pc ls st)).pushFrame (.throwing x)) (g := F0 m pc ls st) rfl hpl hown (x := x) (cell := cell) (by rw [Stand.throwing_heap, hT]; exact h1) h2 h3 ent rest hent pre T.vm X.warmed hpre
  have hfind : ∀ (Q : Handler → Pre) (E : CtlPost) (d : Bool) (acts : List Action), wp (findHandler (F0 m pc ls st) x) Q E e d acts ((T.setTop (F0 m pc ls st)).pushFrame (.throwing x)) ↔ Q (.found ent.handlerPc) d acts (((T.setTop (F0 m pc ls st)).pushFrame (.throwing x)).setVm vm') := by
    intro Q E d acts
    rw [W.findHandler_eq (meth := meth) (code := c) (by rw [Stand.throwing_vm]; exact X.method') X.code, hsplit]
    exact hQ Q E d acts
  have X' := X.noted hW'
  obtain ⟨t, a1, b1⟩ := kk (T.setVm vm') hT X'
  refine ⟨t, ?_, b1⟩
  have h : At T (F0 m pc ls st).method c below := X.here
  obtain ⟨hgo, hw⟩ := h.throwing x
  refine Steps.head hgo hw ?_
  rw [stepThread_throwing (frames_entered h.top _), (wx_step hfind).1]
  obtain ⟨g₀, hr⟩ := X.frames_eq
  have hr' : (T.setVm vm').frames = .java g₀ :: below := hr
  rw [State.setTop_of_frames _ hr'] at a1
  rw [hr, List.tail_cons]
  have e1 : (((T.setTop (F0 m pc ls st)).pushFrame (.throwing x)).setVm vm').setFrames (.java { F0 m pc ls st with pc := ent.handlerPc, stack := [.ref x] } :: below) = (T.setVm vm').setFrames (.java (F0 m ent.handlerPc ls [.ref x]) :: below) := by
    have e2 : ∀ (U : State) (F G : List Frame), ((U.setFrames F).setVm vm').setFrames G = (U.setVm vm').setFrames G := fun U F G => by
      rw [show (U.setFrames F).setVm vm' = (U.setVm vm').setFrames F from rfl, State.setFrames_setFrames]
    rw [State.pushFrame, e2, State.setTop_of_frames _ hr, e2]
  rw [e1]
  exact a1
end WXC
