/-! My own rows: methods that may throw (no traces kept), and the catching of what they throw. A contract wx_Met says both ends; wx_T is the machine with a thrown object over the frame. -/
/-- what may be new: nothing where it returned, n where it threw -/
def wx_k (o : Outcome) (n : Nat) : Nat := match o with
  | .returned _ => 0
  | .threw _ => n
def wx_End (s : State) (o : Outcome) (t : State) (L : List Loc) (k n : Nat) : Prop := s.WarmedH t.vm ∧ s.sameButNew ({ t with vm := s.vm } : State) L (wx_k o k) (wx_k o n)
def wx_Met (l : Launch) (y : MethodName) (ws : List Cond) (rm : Room) (Pc : Array Value → State → Prop) (Qc : Array Value → State → Outcome → State → Prop) (mc ms : Nat) (free : Addr → Prop) : Prop :=
  MetFree l y (headSpec ws rm) Pc (fun _ _ _ _ _ => True) (fun a st o t => Qc a st o t ∧ ∃ L, wx_End st o t L mc ms ∧ ∀ q ∈ L, free q.base)
def wx_MQ (below : List Frame) (Qc : Array Value → State → Outcome → State → Prop) (a : Array Value) (s : State) (mc ms : Nat) (free : Addr → Prop) : State → Prop := fun t =>
  ∃ o, t.status = .running ∧ Ended t below o ∧ Qc a s o t ∧ ∃ L, wx_End s o t L mc ms ∧ ∀ q ∈ L, free q.base
def wx_T (p : Program) (l : Launch) (e : Env) (R : Room) (s : State) (m : MethodId) (args : Array Value) (below : List Frame) (meth : Method) (c : Code) (H : Heap) (locs : List Loc) (cells slots : Nat) (Q : State → Prop) (g : JFrame) (x : Addr) : Prop :=
  ∀ T : State, T.heap = H → Stand p l e R s m args below meth c T locs cells slots → ∃ t, Steps p.tables e below ((T.setTop g).pushFrame (.throwing x)) t ∧ Q t
/-- the kinds of exceptions of this class -/
def wx_N (k : Nat) : String := match k with
  | 0 => "java/lang/UnsupportedOperationException"
  | 1 => "java/lang/IllegalArgumentException"
  | 2 => "java/lang/IllegalStateException"
  | _ => "java/util/NoSuchElementException"
/-- at x, made since the heap was of size z, lies an exception of kind k -/
def wx_E (k x z : Nat) (U : State) (H : Heap) : Prop := z ≤ x ∧ ∃ ce : Cell, H[x]? = some ce ∧ ce.vm.isStatics = false ∧ U.vm.findClass (wx_N k) = some ce.cls
/-- a method's ends: an answer, or an exception of a kind -/
def wx_Q {S : Type} (post : Option Value → S → Prop) (pt : Nat → S → Prop) (B : S → State → Prop) (A : Nat → Prop) : Array Value → State → Outcome → State → Prop := fun _ st oc t =>
  ((∃ (v : Option Value) (u : S), oc = .returned v ∧ post v u ∧ B u t) ∨ (∃ (k x : Nat) (u : S), oc = .threw x ∧ wx_E k x st.heap.size t t.heap ∧ pt k u ∧ B u t)) ∧ va_F A st t
section WX
variable {p : Program} {l : Launch} {e : Env} {R : Room} {s : State} {m : MethodId} {args : Array Value} {below : List Frame} {meth : Method} {c : Code} {H : Heap} {locs : List Loc} {cells slots : Nat} {Q : State → Prop}
theorem wx_MQ.of {Qc : Array Value → State → Outcome → State → Prop} {a : Array Value} {mc ms : Nat} {free : Addr → Prop} (t : State) (h : MQ below Qc a s 0 0 free t) : wx_MQ below Qc a s mc ms free t := by
  obtain ⟨o, h1, h2, h3, L, ⟨⟨v, hv⟩, hW, hs⟩, hL⟩ := h
  subst hv
  exact ⟨.returned v, h1, h2, h3, L, ⟨hW, hs⟩, hL⟩
theorem wx_mono {Q' : State → Prop} {g : JFrame} (h : ∀ t, Q t → Q' t) (k : W p l e R s m args below meth c H locs cells slots Q g) : W p l e R s m args below meth c H locs cells slots Q' g := by
  intro T hT X
  obtain ⟨t, a, b⟩ := k T hT X
  exact ⟨t, a, h t b⟩
theorem wx_ofW {y : MethodName} {ws ws' : List Cond} {rm : Room} {Pc : Array Value → State → Prop} {Qc : Array Value → State → Outcome → State → Prop} {mc ms : Nat} {free : Addr → Prop} {cc : ByteArray} {maxL : Nat} {ret : Option FieldType}
    (hy : plainName y.cls = true) (hw : ws = Cond.code y cc maxL ret :: ws')
    (body : ∀ p e s m args below meth c s₁, BodyLoose p l y (headSpec ws rm) cc maxL ret e s m args below meth c s₁ → c.maxLocals = maxL → c.exceptionTable.toList = [] → Pc args s →
      W p l e (headSpec ws rm).room s m args below meth c s.heap [] 0 0 (wx_MQ below Qc args s mc ms free) (entryFrame m args maxL)) : wx_Met l y ws rm Pc Qc mc ms free := by
  refine MetFree.of_bodyS (code := cc) (maxLocals := maxL) (ret := ret) hy ?_ ?_
  · intro args s m h hn
    obtain ⟨meth, c, h1, h2, h3, h4, h5, h6, -, -⟩ := Cond.code_spec hn (atoms_spec (ws := ws) h _ (by rw [hw]; exact List.mem_cons_self))
    exact ⟨meth, c, h1, h2, h3, h4, h5, h6⟩
  · intro p e s m args below meth c s₁ B hml hP _
    have hh0 : s₁.heap = s.heap := by rw [B.state]; rfl
    have hno : c.exceptionTable.toList = [] := by
      have h1 := B.noHandlers (atoms_spec (ws := ws) B.pre _ (by rw [hw]; exact List.mem_cons_self))
      have h2 : c.exceptionTable.size = 0 := by simpa [Array.isEmpty] using h1
      exact List.eq_nil_of_length_eq_zero (by simpa using h2)
    obtain ⟨t, a1, o, b1, b2, b3⟩ := body p e s m args below meth c s₁ B hml hno hP s₁ hh0 (Stand.of_body B)
    exact ⟨t, o, a1, b1, b2, ⟨b3.1, b3.2⟩⟩
/-- a thrown object leaves a method without handlers -/
theorem wx_out {Qc : Array Value → State → Outcome → State → Prop} {free : Addr → Prop} {g : JFrame} {x : Addr} (hno : c.exceptionTable.toList = []) (hlocks : meth.locks = false) (hg : g.method = m) (hgl : g.locked = none) (hge : g.entered = [])
    (hq : ∀ t : State, t.heap = H → s.WarmedH t.vm → Qc args s (.threw x) t) (hf : ∀ q ∈ locs, free q.base) {mc ms : Nat} (hc : cells ≤ mc) (hs : slots ≤ ms) :
    wx_T p l e R s m args below meth c H locs cells slots (wx_MQ below Qc args s mc ms free) g x := by
  intro T hT X
  obtain ⟨h1, h2, h3, h4, h5⟩ := X.leaveThrown x (g := g) hg hgl hge (fun y hy => by rw [hno] at hy; cases hy) hlocks
  exact ⟨_, h1, .threw x, h2, h3, hq _ hT h4, locs, ⟨h4, h5.mono hc hs⟩, hf⟩
theorem wx_widen {g : JFrame} {x : Addr} {k n : Nat} (h1 : cells ≤ k) (h2 : slots ≤ n) (kk : wx_T p l e R s m args below meth c H locs k n Q g x) : wx_T p l e R s m args below meth c H locs cells slots Q g x := fun T hT X => kk T hT (stand_widen X h1 h2)
/-- a call by a contract of both ends -/
theorem wx_back {T : State} (X : Stand p l e R s m args below meth c T locs cells slots) {own : String} {index n : Nat} {y : MethodName} {bytes : ByteArray} {maxL : Nat} {ret : Option FieldType} {ws : List Cond} {rm : Room} {mc ms : Nat} {Pc : Array Value → State → Prop} {Qc : Array Value → State → Outcome → State → Prop} {free : Addr → Prop}
    (cb : CallB R s args own index y bytes maxL ret ws rm mc ms n) (hM : wx_Met l y ws rm Pc Qc mc ms free) (hbl : FrameBlind Pc)
    {g : JFrame} (hg : g.method = m) (hsize : g.locals.size = c.maxLocals) {ig : Instr} (hdg : decode c.code g.pc = .ok (ig, 3)) (hW : 2 * g.monitorRoom + (g.stack.map fun v => v.category).sum ≤ 8) {mk : MethodId} (hn : T.methodNamed? y = some mk) {a : Array Value} (hp : cells + mc ≤ R.cells ∧ slots + ms ≤ R.slots ∧ Pc a T) :
    ∃ (o : Outcome) (st₀ t T' : State) (L : List Loc), st₀.heap = T.heap ∧ Stand p l e R s m args below meth c T' (locs ++ L) (cells + wx_k o mc) (slots + wx_k o ms) ∧ (∀ q ∈ L, free q.base) ∧ T'.heap = t.heap ∧ T'.vm = t.vm ∧ Qc a st₀ o t ∧
      ((∃ v, o = .returned v ∧ Steps p.tables e below (doInvoke e (T.setTop g) [] mk a).1 (T'.setTop { g with pc := g.pc + 3, stack := v.toList ++ g.stack })) ∨ (∃ x, o = .threw x ∧ Steps p.tables e below (doInvoke e (T.setTop g) [] mk a).1 ((T'.setTop g).pushFrame (.throwing x)))) := by
  obtain ⟨hrc, hrs, hfr, hlo, hws, hcw, -, hini, -⟩ := cb
  have hcode : (Cond.code y bytes maxL ret).before a T = true := hws _ hcw _ _ X.warmed
  have hini' : (Cond.initialized y.cls).before a T = true := word_at X.warmed (Or.inl (by first | rfl | simp [Cond.onTables, Cond.keeps, Cond.steady])) hini
  obtain ⟨methY, cY, hmY, hcY, -, hlY, -⟩ := Cond.code_spec hn hcode
  obtain ⟨kY, hkY, -⟩ := className_of_methodNamed hn
  have hinitY : kY.init = .initialized := Cond.initialized_spec (findClass_of_methodNamed hn) hkY hini'
  have h : At T g.method c below := by rw [hg]; exact X.here
  have happ : (headSpec ws rm).appliesLoose y e.platform (T.calling g mk a) = true :=
    Spec.appliesLoose_calling (g := g) h hdg hn hkY hinitY
      (X.room_calling (g := g) (R' := (headSpec ws rm).room) hsize hmY hcY hfr (by rw [hlY]; show _ + _ + _ + rm.locals ≤ _; omega) (by show _ + rm.cells ≤ _; rw [hrc]; exact hp.1) (by show _ + rm.slots ≤ _; rw [hrs]; exact hp.2.1)) (atoms_intro fun w hw => hws w hw _ _ X.warmed)
  obtain ⟨mid, hmid⟩ := h.above
  have hfr2 : (T.setTop g).frames = (.java g :: mid) ++ below := by rw [State.frames_setTop' g h.top, hmid]; rfl
  obtain ⟨o, s₂, hsteps, -, hend, hq⟩ := Steps.callFree hM p X.admits X.cas X.clock (acts := []) hfr2 happ (hbl _ _ _ _ hp.2.2) trivial
  have hq' : Qc a (T.calling g mk a) o s₂ ∧ ∃ L, wx_End (T.calling g mk a) o s₂ L mc ms ∧ ∀ q ∈ L, free q.base := hq
  obtain ⟨hqc, L, ⟨hW₂, hsame⟩, hL⟩ := hq'
  rw [State.frames_setTop' g h.top, X.tail] at hend
  cases o with
  | returned v =>
    obtain ⟨T', X', hTW, hTs, ht⟩ := X.outOf hg hdg hend hW₂ hsame
    refine ⟨.returned v, T.calling g mk a, s₂, T', L, rfl, X', hL, ?_, ?_, hqc, Or.inl ⟨v, rfl, ?_⟩⟩
    · rw [ht]; simp
    · rw [ht]; simp
    · rw [← ht]; exact hsteps
  | threw x =>
    obtain ⟨T', X', hTW, hTs, ht⟩ := X.outOfThrown hg hend hW₂ hsame
    refine ⟨.threw x, T.calling g mk a, s₂, T', L, rfl, X', hL, ?_, ?_, hqc, Or.inr ⟨x, rfl, ?_⟩⟩
    · rw [ht, Stand.throwing_heap]
    · rw [ht, Stand.throwing_vm]
    · rw [← ht]; exact hsteps
def wx_Run (p : Program) (l : Launch) (e : Env) (R : Room) (s : State) (m : MethodId) (args : Array Value) (below : List Frame) (meth : Method) (c : Code) (H : Heap) (locs : List Loc) (cells slots mc ms : Nat) (g : JFrame) (rest : List Value) (Qa : State → Outcome → State → Prop) (free : Addr → Prop) : Prop :=
  ∀ T : State, T.heap = H → Stand p l e R s m args below meth c T locs cells slots → ∃ (o : Outcome) (st₀ t T' : State) (L : List Loc), st₀.heap = H ∧ Stand p l e R s m args below meth c T' (locs ++ L) (cells + wx_k o mc) (slots + wx_k o ms) ∧ (∀ q ∈ L, free q.base) ∧ T'.heap = t.heap ∧ T'.vm = t.vm ∧ Qa st₀ o t ∧
    ((∃ v, o = .returned v ∧ Goes p e below T g T' { g with pc := g.pc + 3, stack := v.toList ++ rest }) ∨ (∃ x, o = .threw x ∧ ∀ target, Steps p.tables e below ((T'.setTop { g with stack := rest }).pushFrame (.throwing x)) target → Steps p.tables e below (T.setTop g) target))
theorem wx_runV {y : MethodName} {bytes cc : ByteArray} {maxL nL mc ms n index : Nat} {ret : Option FieldType} {ws : List Cond} {rm : Room} {Pc : Array Value → State → Prop} {Qc : Array Value → State → Outcome → State → Prop} {free : Addr → Prop} {Ts : List Cond} {own C : String} {b : Addr} {As rest : List Value} {g : JFrame}
    (S : CallFix p m c cc nL s args Ts own) (hM : wx_Met l y ws rm Pc Qc mc ms free) (cw : CallW R s args own C index y bytes maxL ret ws rm mc ms n) (hp : PreV s H C b Pc As)
    (hg : g.method = m) (hn : As.length = n) (hsize : g.locals.size = nL) (hstack : g.stack = As.reverse ++ .ref b :: rest) (hW : 2 * g.monitorRoom + (rest.map fun v => v.category).sum ≤ 8) (hdg : decode cc g.pc = .ok (.invokevirtual index, 3)) (hf : cells + mc ≤ R.cells ∧ slots + ms ≤ R.slots) :
    wx_Run p l e R s m args below meth c H locs cells slots mc ms g rest (Qc (Value.ref b :: As).toArray) free := by
  obtain ⟨hx, hb, hml, ho, -⟩ := S
  obtain ⟨hbl, ⟨cellB, hcB, hoB, hclB⟩, hPc⟩ := hp
  obtain ⟨cb, hinst, hsel⟩ := cw
  obtain ⟨-, -, -, -, -, -, hcode, -, hy, hlen, hlink⟩ := id cb
  intro T hT X
  obtain ⟨mk, methM, hnamed, hmethM, hstM, habM⟩ := Cond.instanceMethod_spec hinst
  obtain ⟨methM', cM, hmethM', -, -, -, -, -, -, hsigM⟩ := Cond.code_spec hnamed hcode
  cases hmethM.symm.trans hmethM'
  obtain ⟨c2, r2, m2, q1, q2, q3, q4, kP, hkP, hkPi⟩ := Cond.selects_spec hsel
  cases hclB.symm.trans q1
  cases (State.methodFound?_of_named hnamed hy).symm.trans q2
  cases hnamed.symm.trans q3
  have hselP : selectMethod e.platform s.vm cellB.cls mk = .method mk := by rw [Launch.admits_selectMethod X.admits]; exact q4
  obtain ⟨vm₁, X₁, hstep₁⟩ := X.invokevirtual hx ho hlink hnamed hmethM hstM hkP hkPi hy (a := b) (cell := cellB) (by rw [hT]; exact hcB)
    (fun z h => by rw [h] at hoB; cases hoB) hselP hmethM habM hkP hkPi (g := g) hg (argsL := As) (rest := rest) (hn.trans (hlen _ hsigM)) hstack (by rw [hb]; exact hdg)
  obtain ⟨o, st₀, t, T', L, e0, X', hL, e1, e2, hq, hend⟩ := wx_back X₁ cb hM hbl (g := { g with stack := rest }) hg (hsize.trans hml.symm) (ig := .invokevirtual index) (by rw [hb]; exact hdg) hW (X₁.named hnamed) (a := (Value.ref b :: As).toArray) ⟨hf.1, hf.2, hPc _ hT X₁.warmed⟩
  refine ⟨o, st₀, t, T', L, e0.trans hT, X', hL, e1, e2, hq, ?_⟩
  rcases hend with ⟨v, ho', st⟩ | ⟨x, ho', st⟩
  · exact Or.inl ⟨v, ho', fun target h => hstep₁ _ fun acts => by rw [doInvoke_state]; exact st.trans h⟩
  · exact Or.inr ⟨x, ho', fun target h => hstep₁ _ fun acts => by rw [doInvoke_state]; exact st.trans h⟩
section CALL
variable {pc : Nat} {ls : Array Slot} {rest st0 : List Value} {a : Array Value} {A0 A1 : Nat → Prop} {mc ms : Nat} {free : Addr → Prop}
theorem wx_call {S : Type} {post : Option Value → S → Prop} {pt : Nat → S → Prop} {B : S → State → Prop} (hr : wx_Run p l e R s m args below meth c H locs cells slots mc ms (F0 m pc ls st0) rest (wx_Q post pt B A1 a) free) (hS : va_S A0 s.heap H locs) (hA : ∀ q, q < H.size → A1 q → A0 q) (hf : ∀ q, free q → A0 q)
    (kk : ∀ (v : Option Value) (u : S) (t : State) (H1 : Heap) (locs1 : List Loc), t.heap = H1 → s.vm.Alike t.vm → post v u → B u t → (∀ q : Nat, q < H.size → ¬ A1 q → H1[q]? = H[q]?) → va_S A0 s.heap H1 locs1 → W p l e R s m args below meth c H1 locs1 cells slots Q (F0 m (pc + 3) ls (v.toList ++ rest)))
    (kt : ∀ (k x : Nat) (u : S) (t : State) (H1 : Heap) (locs1 : List Loc), t.heap = H1 → s.vm.Alike t.vm → wx_E k x s.heap.size s H1 → pt k u → B u t → (∀ q : Nat, q < H.size → ¬ A1 q → H1[q]? = H[q]?) → va_S A0 s.heap H1 locs1 → wx_T p l e R s m args below meth c H1 locs1 (cells + mc) (slots + ms) Q (F0 m pc ls rest) x) :
    W p l e R s m args below meth c H locs cells slots Q (F0 m pc ls st0) := by
  intro T hT X
  obtain ⟨o, st₀, t, T', L, h0, X', hL, e1, e2, ⟨hq, hz, hk⟩, hend⟩ := hr T hT X
  rw [h0] at hz hk
  have hal : s.vm.Alike t.vm := by rw [← e2]; exact X'.warmed.alike
  have hS' : va_S A0 s.heap T'.heap (locs ++ L) := ⟨Nat.le_trans hS.1 (by rw [e1]; exact hz), fun q h1 h2 => by rw [e1, hk q (Nat.lt_of_lt_of_le h1 hS.1) (fun z => h2 (hA q (Nat.lt_of_lt_of_le h1 hS.1) z))]; exact hS.2.1 q h1 h2, fun q hq => by
      rcases List.mem_append.mp hq with h | h
      · exact hS.2.2 q h
      · exact hf _ (hL q h)⟩
  rcases hq with ⟨v, u, ho, hp, hb⟩ | ⟨k, x, u, ho, ⟨hx0, ce, hx1, hx2, hx3⟩, hp, hb⟩
  · subst ho
    rcases hend with ⟨v', ho', st⟩ | ⟨x, ho', st⟩
    · cases ho'
      obtain ⟨t2, a1, b1⟩ := kk v u t T'.heap (locs ++ L) e1.symm hal hp hb (fun q h1 h2 => by rw [e1]; exact hk q h1 h2) hS' T' rfl X'
      exact ⟨t2, st t2 a1, b1⟩
    · cases ho'
  · subst ho
    rcases hend with ⟨v, ho', st⟩ | ⟨x', ho', st⟩
    · cases ho'
    · cases ho'
      obtain ⟨t2, a1, b1⟩ := kt k x u t T'.heap (locs ++ L) e1.symm hal ⟨Nat.le_trans hS.1 (by rw [h0] at hx0; exact hx0), ce, by rw [e1]; exact hx1, hx2, by rw [← hal.findClass]; exact hx3⟩ hp hb (fun q h1 h2 => by rw [e1]; exact hk q h1 h2) hS' T' rfl X'
      exact ⟨t2, st t2 a1, b1⟩
end CALL
/-- the same point of the walk, seen as a start of its own: nothing written or made yet -/
theorem wx_rebase {T : State} (X : Stand p l e R s m args below meth c T locs cells slots) {R' : Room} (h1 : R'.frames ≤ R.frames) (h2 : R'.locals ≤ R.locals) (h3 : cells + R'.cells ≤ R.cells) (h4 : slots + R'.slots ≤ R.slots) :
    Stand p l e R' (T.setFrames (.invoking m args :: below)) m args below meth c T [] 0 0 := by
  obtain ⟨g₀, hfr⟩ := X.frames_eq
  obtain ⟨th, hth, -⟩ := State.frames_cons hfr
  have hcur : T.cur < T.threads.size := State.cur_lt_of_frames hfr
  have hF : (T.setFrames (.invoking m args :: below)).frames = .invoking m args :: below := State.frames_setFrames _ hcur
  have hm : (T.setFrames (.invoking m args :: below)).vm.method? m = some meth := X.method'
  refine ⟨X.admits, X.cas, X.clock, hF, ?_, ?_, hm, X.code, X.here, X.tail, State.WarmedH.refl _, ?_, ?_, ?_⟩
  · obtain ⟨r1, r2, r3, r4⟩ := State.hasRoom_stack X.room
    have r5 := State.hasRoom_real X.room
    have h := X.room
    simp only [State.hasRoom, Bool.and_eq_true, decide_eq_true_eq] at h
    rw [State.localsInUse_invoking X.frames X.method X.code] at r3 r4 r5
    rw [X.frames, List.length_cons] at r1 r2
    have hU := State.localsInUse_invoking hF hm X.code
    have z1 := X.heapSize
    have z2 := X.used
    simp only [State.hasRoom, Bool.and_eq_true, decide_eq_true_eq, hF, hU, List.length_cons, State.stackLimits_setFrames, State.stackBytes_setFrames, X.limits, X.bytes]
    refine ⟨⟨⟨⟨by omega, by omega, by omega, by omega, by omega, h.1.1.1.2.2.2.2.2⟩, ?_⟩, ?_⟩, X.book⟩
    · have := h.1.1.2
      show T.heap.size + R'.cells ≤ _
      omega
    · have := h.1.2
      show T.slotsUsed + R'.slots ≤ _
      omega
  · have hh := X.hears
    have e1 : (T.setFrames (.invoking m args :: below)).hears m below = s.hears m below := by
      rcases below with _ | ⟨y, r⟩
      · simp [State.hears, State.setFrames, X.warmed.alike.method?]
      · cases y <;> simp [State.hears, State.setFrames, State.code?_eq, X.warmed.alike.method?]
    rw [e1]
    exact hh
  · rw [State.stackLimits_setFrames]
  · rw [State.stackBytes_setFrames]
  · obtain ⟨t2, ht2, -⟩ := State.frames_cons hF
    have h := (State.sameButNew.refl (T.setFrames (.invoking m args :: below)) ht2).setFrames T.frames (State.cur_lt_of_frames hF)
    have e2 : ((T.setFrames (.invoking m args :: below)).setFrames T.frames) = T := by rw [State.setFrames_setFrames, State.setFrames_self hth]
    rw [e2] at h
    exact h
/-- the four words of a throw that speak of the heap -/
def wx_four : List Cond := [.isRef (.static Bundle.tN "UNASSIGNED_STACK" Bundle.steD), .isRef (.static Bundle.tN "SUPPRESSED_SENTINEL" Bundle.listD), .laysStatic Bundle.tN "UNASSIGNED_STACK" Bundle.steD, .laysStatic Bundle.tN "SUPPRESSED_SENTINEL" Bundle.listD]
/-- the words of a throw that are true of the tables, but that the walk's own lists do not carry -/
def wx_B : List Cond := [.castable (wx_N 0) (wx_N 0), .castable (wx_N 1) (wx_N 1), .castable (wx_N 2) (wx_N 2), .castable (wx_N 3) (wx_N 3), .declares (Bundle.initS "java/lang/RuntimeException"), .declares (Bundle.initS "java/lang/Exception"), .declares (Bundle.initS "java/lang/Throwable")]
def wx_Bs (U : State) : Prop := ∀ w ∈ wx_B, w.before #[] U = true
theorem wx_B_at {u U : State} {a a' : Array Value} {w : Cond} (hw : w ∈ wx_B) (hvm : u.vm.Alike U.vm) (h : w.before a u = true) : w.before a' U = true := by
  have h1 : w.faceAtom = true ∧ w.onTables = true := by
    simp only [wx_B, List.mem_cons, List.not_mem_nil, or_false] at hw
    rcases hw with rfl | rfl | rfl | rfl | rfl | rfl | rfl <;> exact ⟨rfl, rfl⟩
  have h2 := Cond.faceAtom_setVm hvm w h1.1 h
  rw [Cond.onTables_vm (A' := a') (U' := U) U.vm w h1.2] at h2
  exact h2
theorem wx_Bs.moved {u U : State} (hvm : u.vm.Alike U.vm) (h : wx_Bs u) : wx_Bs U := fun w hw => wx_B_at hw hvm (h w hw)
/-- a static's place, outside A -/
def wx_L (C n d : String) (A : Nat → Prop) (U : State) (H : Heap) : Prop := ∃ (c : ClassId) (k : Class) (i : Nat) (f : Field) (a : Nat) (cell : Cell), (U.vm.findClass C = some c ∧ U.fieldFound? C n d = some (c, k, i, f)) ∧ (f.isStatic = true ∧ k.statics = some a) ∧ H[a]? = some cell ∧ cell.vm.isStatics = true ∧ cell.cls = c ∧ f.slot < cell.slots.size ∧ k.staticTypes[f.slot]? = some f.type ∧ ¬ A a
theorem wx_L.moved {C n d : String} {A : Nat → Prop} {u U : State} {H : Heap} (hvm : u.vm.Alike U.vm) (h : wx_L C n d A u H) : wx_L C n d A U H := by
  obtain ⟨c, k, i, f, a, cell, ⟨h1, h2⟩, ⟨h3, h4⟩, h5, h6, h7, h8, h9, h10⟩ := h
  obtain ⟨k', hi', he⟩ := State.fieldFound?_setVm hvm h2
  exact ⟨c, k', i, f, a, cell, ⟨by rw [hvm.findClass]; exact h1, hi'⟩, ⟨h3, by rw [he]; exact h4⟩, h5, h6, h7, h8, by rw [he]; exact h9, h10⟩
theorem wx_L.kept {C n d : String} {A : Nat → Prop} {U : State} {H H1 : Heap} (h : wx_L C n d A U H) (hq : ∀ a : Nat, a < H.size → ¬ A a → H1[a]? = H[a]?) : wx_L C n d A U H1 := by
  obtain ⟨c, k, i, f, a, cell, h1, h2, h5, h6, h7, h8, h9, h10⟩ := h
  exact ⟨c, k, i, f, a, cell, h1, h2, by rw [hq a (Array.getElem?_eq_some_iff.mp h5).1 h10]; exact h5, h6, h7, h8, h9, h10⟩
theorem wx_L.narrow {C n d : String} {A B : Nat → Prop} {U : State} {H : Heap} (h : wx_L C n d A U H) (hAB : ∀ q, B q → A q) : wx_L C n d B U H := by
  obtain ⟨c, k, i, f, a, cell, h1, h2, h5, h6, h7, h8, h9, h10⟩ := h
  exact ⟨c, k, i, f, a, cell, h1, h2, h5, h6, h7, h8, h9, fun z => h10 (hAB _ z)⟩
theorem wx_L.word {C n d : String} {A : Nat → Prop} {U : State} (h : wx_L C n d A U U.heap) (args : Array Value) : (Cond.laysStatic C n d).before args U = true := by
  obtain ⟨c, k, i, f, a, cell, ⟨h1, h2⟩, ⟨h3, h4⟩, h5, h6, h7, h8, h9, -⟩ := h
  show (Cond.laysStatic C n d).holds args U none U [] = true
  exact Cond.laysStatic_of h1 h2 h3 h4 h5 h6 h7 h8 h9
theorem wx_L.of {C n d : String} {A : Nat → Prop} {U : State} {args : Array Value} (h : (Cond.laysStatic C n d).before args U = true) (hA : ∀ a : Nat, a < U.heap.size → ¬ A a) : wx_L C n d A U U.heap := by
  obtain ⟨c, k, i, f, a, cell, h1, h2, h3, h4, h5, h6, h7, h8, h9⟩ := Cond.laysStatic_spec h
  exact ⟨c, k, i, f, a, cell, ⟨h1, h2⟩, ⟨h3, h4⟩, h5, h6, h7, h8, h9, hA a (Array.getElem?_eq_some_iff.mp h5).1⟩
/-- what the two statics of Throwable hold, outside A -/
def wx_Y (n d : String) (A : Nat → Prop) (U : State) (H : Heap) : Prop := (∃ v : Value, v.isRef = true ∧ va_Z Bundle.tN n d v A U H) ∧ wx_L Bundle.tN n d A U H
def wx_Z (A : Nat → Prop) (U : State) (H : Heap) : Prop := wx_Y "UNASSIGNED_STACK" Bundle.steD A U H ∧ wx_Y "SUPPRESSED_SENTINEL" Bundle.listD A U H
theorem wx_Z.moved {A : Nat → Prop} {u U : State} {H : Heap} (hvm : u.vm.Alike U.vm) (h : wx_Z A u H) : wx_Z A U H := by
  obtain ⟨⟨⟨v, h1, h2⟩, l1⟩, ⟨w, h3, h4⟩, l2⟩ := h
  exact ⟨⟨⟨v, h1, h2.moved hvm⟩, l1.moved hvm⟩, ⟨w, h3, h4.moved hvm⟩, l2.moved hvm⟩
theorem wx_Z.kept {A : Nat → Prop} {U : State} {H H1 : Heap} (h : wx_Z A U H) (hq : ∀ a : Nat, a < H.size → ¬ A a → H1[a]? = H[a]?) : wx_Z A U H1 := by
  obtain ⟨⟨⟨v, h1, h2⟩, l1⟩, ⟨w, h3, h4⟩, l2⟩ := h
  exact ⟨⟨⟨v, h1, h2.kept hq⟩, l1.kept hq⟩, ⟨w, h3, h4.kept hq⟩, l2.kept hq⟩
theorem wx_Z.narrow {A B : Nat → Prop} {U : State} {H : Heap} (h : wx_Z A U H) (hAB : ∀ q, B q → A q) : wx_Z B U H := by
  obtain ⟨⟨⟨v, h1, h2⟩, l1⟩, ⟨w, h3, h4⟩, l2⟩ := h
  exact ⟨⟨⟨v, h1, h2.narrow hAB⟩, l1.narrow hAB⟩, ⟨w, h3, h4.narrow hAB⟩, l2.narrow hAB⟩
theorem wx_isRef {C n d : String} {v : Value} {A : Nat → Prop} {U : State} (hv : v.isRef = true) (h : va_Z C n d v A U U.heap) (a : Array Value) : (Cond.isRef (.static C n d)).before a U = true := by
  obtain ⟨cf, kf, fi, f, q, cell, h1, h2, h3, h4, h5, h6, h7, h8⟩ := h
  have hev : (Term.static C n d).eval a U none [] U = some v := by
    simp [Term.eval, State.fieldNamed?, h1, h2, h4, h5, h6, h7]
  cases v <;> simp_all [Cond.before, Cond.holds, Cond.value, Value.isRef]
theorem wx_own {L : List Cond} {A : Nat → Prop} {U : State} {a : Array Value} (h : ∀ w ∈ L, w ∉ wx_four → w.before a U = true) (hZ : wx_Z A U U.heap) : ∀ w ∈ L, w.before a U = true := by
  obtain ⟨⟨⟨v, h1, h2⟩, l1⟩, ⟨w', h3, h4⟩, l2⟩ := hZ
  intro w hw
  by_cases g : w ∈ wx_four
  · simp only [wx_four, List.mem_cons, List.not_mem_nil, or_false] at g
    rcases g with rfl | rfl | rfl | rfl
    · exact wx_isRef h1 h2 a
    · exact wx_isRef h3 h4 a
    · exact l1.word a
    · exact l2.word a
  · exact h w hw g
set_option maxHeartbeats 1000000 in
/-- the constructor with a text, whose first link may have any index, and the throw; no trace kept -/
theorem wx_ctor {T0 : State} (X : Stand p l e R s m args below meth c T0 locs cells slots) (hexec : p.tables.exec = Jvm.exec) (htr : e.platform.stackTraces = false) {own cls : String} {names : List String} {ic ix : Nat} {rx : ByteArray}
    (hr : decode rx 0 = .ok (.aload_n 0, 1) ∧ decode rx 1 = .ok (.aload_n 1, 1) ∧ decode rx 2 = .ok (.invokespecial ix, 3) ∧ decode rx 5 = .ok (.return_, 1))
    (hown : s.vm.findClass own = some m.cls) (hcls : Bundle.fit cls = true) (hnames : ∀ n ∈ names, Bundle.fit n = true) (h : ∀ w ∈ Bundle.ownAtomsX own ic cls ix rx names, w.before args s = true) (hlocs : locs = [])
    {a : Addr} {cX : ClassId} {kX : Class} (hfX : s.vm.findClass cls = some cX) (hkX : s.vm.classes[cX]? = some kX) (hcell : T0.heap[a]? = some (freshCell cX kX)) (hnew : s.heap.size ≤ a) {msg : Value} (hmsg : msg.isRef = true)
    {g : JFrame} (hg : g.method = m) (hsize : g.locals.size = c.maxLocals) (hlk : g.locked = none) (hen : g.entered = []) {rest : List Value} (hst : g.stack = msg :: .ref a :: .ref a :: rest)
    (hd6 : decode c.code g.pc = .ok (.invokespecial ic, 3)) (hd9 : decode c.code (g.pc + 3) = .ok (.athrow, 1)) (hout : ∀ x ∈ c.exceptionTable.toList, covers x (g.pc + 3) = false)
    (hfr : names.length + 3 < R.frames) (hlo : 2 * g.monitorRoom + ((Value.ref a :: rest).map fun v => v.category).sum + (13 * (names.length + 1) + 42) ≤ R.locals) (hlocks : meth.locks = false) :
    ∃ U : State, Steps p.tables e below (T0.setTop g) U ∧ U.status = .running ∧ Ended U below (.threw a) ∧ s.WarmedH U.vm ∧ s.sameButNew ({ U with vm := s.vm } : State) locs cells slots ∧ ∃ ce, U.heap[a]? = some ce ∧ ce.vm = .none ∧ s.vm.findClass cls = some ce.cls := by
  have hom : e.platform.frameOwnsMonitors = true := by rw [X.admits.platform]
  have hfi : e.platform.finalization = false := by rw [X.admits.platform]
  have hpl : e.platform.magicAccessors = ({} : Platform).magicAccessors := by rw [X.admits.platform]
  have in1 : ∀ w ∈ Bundle.throwableAtoms, w.before args s = true := fun w hw => h w (by simp [Bundle.ownAtomsX, hw])
  have in2 : ∀ w ∈ Bundle.throwableSAtoms, w.before args s = true := fun w hw => h w (by simp [Bundle.ownAtomsX, hw])
  have in3 : ∀ w ∈ Bundle.chainSAtomsX cls ix rx names, w.before args s = true := fun w hw => h w (by simp [Bundle.ownAtomsX, hw])
  have in4 : ∀ w : Cond, w ∈ Bundle.ownAtomsX own ic cls ix rx names → w.holds args s none s [] = true := fun w hw => h w hw
  obtain ⟨T, Z0, L, -, Y⟩ := ThrowableC.of_atoms (args := args) hom hfi hpl in1
  obtain ⟨Z, M, LZ, LM, hnZ⟩ := Init0T.ofS_atoms (args := args) hpl L Y in2
  obtain ⟨P1, Ps, hlen, L1, hL, hP1, hlink1, hlink⟩ := Bundle.chainSX (args := args) hpl hnZ hr.1 hr.2.1 hr.2.2.1 hr.2.2.2 names cls hcls hnames in3
  have hfc : s.vm.findClass cls = some P1.m.cls := findClass_of_methodNamed hP1
  cases hfX.symm.trans hfc
  obtain ⟨c1, k1, hc1, hk, hord, -, -, -⟩ := Cond.instantiable_spec (in4 (.instantiable cls 6) (by simp [Bundle.ownAtomsX]))
  cases hc1.symm.trans hfc
  cases hkX.symm.trans hk
  have sel : ∀ (y : MethodName) (my : MethodId), s.methodNamed? y = some my → (y.cls ≠ "java/lang/invoke/MethodHandle" ∧ y.cls ≠ "java/lang/invoke/VarHandle") → (Cond.selects cls y y).holds args s none s [] = true → selectMethod e.platform s.vm P1.m.cls my = .method my := by
    intro y my hy hyp hw
    obtain ⟨c2, r2, m2, q1, q2, q3, q4, -⟩ := Cond.selects_spec hw
    cases q1.symm.trans hfc
    cases q2.symm.trans (State.methodFound?_of_named hy hyp)
    cases q3.symm.trans hy
    rw [Launch.admits_selectMethod X.admits]; exact q4
  have hsel0 := sel Bundle.tFill0 _ Y.fill0 (by decide) (in4 _ (by simp [Bundle.ownAtomsX]))
  have hselF := sel Bundle.tFill _ Y.fill (by decide) (in4 _ (by simp [Bundle.ownAtomsX]))
  obtain ⟨cS0, hcS0, hiss⟩ := Y.statics
  obtain ⟨u0, hu0⟩ := Cond.staticRefV Y.unassigned L.unassignedStatic L.statics hcS0 hiss (in4 (.isRef (.static Bundle.tN "UNASSIGNED_STACK" Bundle.steD)) (by simp [Bundle.ownAtomsX]))
  obtain ⟨sen, hsen⟩ := Cond.staticRefV Y.sentinel L.sentinelStatic L.statics hcS0 hiss (in4 (.isRef (.static Bundle.tN "SUPPRESSED_SENTINEL" Bundle.listD)) (by simp [Bundle.ownAtomsX]))
  obtain ⟨ci, i198, fB, b1, b2, b3, b4, -, hnB, htB, hffB⟩ := Cond.ownField (t := .object "java/lang/Object") Y.found L.cls (by decide +kernel) (in4 (.fieldLink Bundle.tN 198 Bundle.tN "backtrace" "Ljava/lang/Object;") (by simp [Bundle.ownAtomsX])) (in4 (.lays Bundle.tN Bundle.tN "backtrace" "Ljava/lang/Object;") (by simp [Bundle.ownAtomsX])) e.platform hpl
  obtain ⟨cS, hcS, heS, -, hkeep⟩ := X.same.2.2.2.2.2 T.aS cS0 hcS0
  have hcellS : T0.heap[T.aS]? = some cS := hcS
  have hnl : ∀ i, (⟨T.aS, i⟩ : Loc) ∉ locs := fun i hm => by rw [hlocs] at hm; cases hm
  have hkn : cS.vm ≠ .unknown := by
    rw [heS]
    intro hu
    rw [show cS0.vm = .unknown from hu] at hiss
    cases hiss
  have hne : T.aS ≠ a := Nat.ne_of_lt (Nat.lt_of_lt_of_le (Array.getElem?_eq_some_iff.mp hcS0).1 hnew)
  obtain ⟨iM, hffM⟩ := Y.msg
  obtain ⟨tyC, dC, hdC, hnC⟩ := Cond.laysAt hfc hk Y.cause (in4 (.lays cls Bundle.tN "cause" "Ljava/lang/Throwable;") (by simp [Bundle.ownAtomsX]))
  obtain ⟨tyS, dS, hdS, hnS⟩ := Cond.laysAt hfc hk Y.stack (in4 (.lays cls Bundle.tN "stackTrace" Bundle.steD) (by simp [Bundle.ownAtomsX]))
  obtain ⟨tyP, dP, hdP, hnP⟩ := Cond.laysAt hfc hk Y.supp (in4 (.lays cls Bundle.tN "suppressedExceptions" Bundle.listD) (by simp [Bundle.ownAtomsX]))
  obtain ⟨tyM, dM, hdM, hnM⟩ := Cond.laysAt hfc hk hffM (in4 (.lays cls Bundle.tN "detailMessage" "Ljava/lang/String;") (by simp [Bundle.ownAtomsX]))
  obtain ⟨tyB, dB, hdB, hnBB⟩ := Cond.laysAt hfc hk hffB (in4 (.lays cls Bundle.tN "backtrace" "Ljava/lang/Object;") (by simp [Bundle.ownAtomsX]))
  have bC := Cond.laysApart hdB hdC hnBB hnC (by rw [hnB, Y.causeName]; decide)
  have bS := Cond.laysApart hdB hdS hnBB hnS (by rw [hnB, Y.stackName]; decide)
  have bP := Cond.laysApart hdB hdP hnBB hnP (by rw [hnB, Y.suppName]; decide)
  have hskip : SkipFacts T e.platform s (fun u => u) u0 ((preparedCellV T.toThrowableT (freshCell P1.m.cls kX) a u0 sen).withEntry T0.cur) :=
    ⟨{ ci198 := ci, i198 := i198, fBack := fB }, ⟨b1, b2, b3, b4⟩, by
      have := fresh_default (c := P1.m.cls) tyB
      rw [htB] at this
      simpa [preparedCellV, Cell.setSlot, Cell.withEntry, Array.getElem?_setIfInBounds, bC, bS, bP, bC.symm, bS.symm, bP.symm, defaultValue] using this, fun _ _ => rfl⟩
  obtain ⟨tm, mC, cC, kC, vm₁, hnCt, -, -, -, -, -, -, -, hW₁, st1⟩ := Steps.initColdS (tb := p.tables) (e := e) (below := below) (s := s) (U := T0) X.here hexec X.warmed hpl hown (t := Bundle.initS cls) rfl rfl (Bundle.fit_spec hcls).2
    (in4 (.methodLink own ic (Bundle.initS cls)) (by simp [Bundle.ownAtomsX])) (h (.instanceMethod (Bundle.initS cls)) (by cases names <;> simp [Bundle.ownAtomsX, Bundle.chainSAtomsX, Bundle.passSAtoms])) (bytes := rx) (maxL := 2) (h (.code (Bundle.initS cls) rx 2 none) (by cases names <;> simp [Bundle.ownAtomsX, Bundle.chainSAtomsX, Bundle.passSAtoms]))
    (f := g) hg (a := a) (msg := msg) (rest := .ref a :: rest) hst hd6
  cases hnCt.symm.trans hP1
  have X₁ := X.noted hW₁
  obtain ⟨vm₂, X₂, st2⟩ := X₁.ctorMessageOffV hexec (g := { g with stack := .ref a :: rest }) hg hsize T L Z LZ M LM (P1 :: Ps)
    (fun P hP => by rcases List.mem_cons.mp hP with rfl | hP; exact L1; exact hL P hP) ⟨hlink1, hlink⟩ (u0 := u0) (sen := sen) (self := a) hmsg (cell := freshCell P1.m.cls kX) (cellS := cS)
    hcell (fun _ => by simp) (by simp) rfl rfl hsel0 hselF hcellS hne hkn (by rw [hkeep _ (hnl _)]; exact hu0) (by rw [hkeep _ (hnl _)]; exact hsen)
    (Takes.of_laid hk hord tyC (by rw [Y.causeType]; rfl)) (Takes.of_laid hk hord tyS (by rw [Y.stackType]; exact fits_refV_array _ u0)) (Takes.of_laid hk hord tyP (by rw [Y.suppType]; exact fits_refV_object _ sen))
    (Takes.of_laid hk hord tyM (by rw [Y.msgType]; exact fits_refV_object _ ⟨msg, hmsg⟩)) Y.objLocals hskip htr [] hd6
    (by simp only [List.length_cons, hlen]; omega) (by simp only [List.length_cons, hlen]; exact hlo)
  obtain ⟨hwalk, hrun, hended, hWU, hsame⟩ := X₂.athrowLeaves hexec (g := { g with stack := .ref a :: rest, pc := g.pc + 3 }) hg hlk hen hout (a := a) (rest := rest) rfl hd9
  have hlt : a < ((T0.setVm vm₁).setVm vm₂).heap.size := (Array.getElem?_eq_some_iff.mp hcell).1
  have hU := heapAt_setCell_self (s := (T0.setVm vm₁).setVm vm₂) (plainBareV T.toThrowableT (freshCell P1.m.cls kX) a u0 sen msg) hlt
  refine ⟨_, st1 _ (fun acts => ?_), hrun, hended, hWU, hsame.weaken (fun y hy hy' => ?_) (Nat.le_refl _) (Nat.le_refl _), _, hU, rfl, hfc⟩
  · rw [doInvoke_state]
    exact st2 _ hwalk
  · rcases List.mem_append.mp hy with h1 | h1
    · exact h1
    · exfalso
      have hb : y.base = a := by
        simp only [List.mem_cons, List.not_mem_nil, or_false] at h1
        rcases h1 with rfl | rfl | rfl | rfl | rfl <;> rfl
      rw [hb] at hy'
      exact Nat.not_lt.mpr hnew hy'
set_option maxHeartbeats 4000000 in
/-- throw new X(".."): five instructions, and out of the method -/
theorem wx_throw {cc : ByteArray} {own tx : String} {kd : Nat} {names : List String} {i0 i1 i2 ix q : Nat} {rx : ByteArray} {A : Nat → Prop} {pc : Nat} {ls : Array Slot} {rest : List Value} {Qc : Array Value → State → Outcome → State → Prop} {free : Addr → Prop} {mc ms : Nat}
    (hx : p.tables.exec = Jvm.exec) (hb : c.code = cc) (hml : c.maxLocals = ls.size) (hlt : l.stackTraces = false) (hown : s.vm.findClass own = some m.cls) (hfX : Bundle.fit (wx_N kd) = true) (hfn : ∀ n ∈ names, Bundle.fit n = true)
    (hr : decode rx 0 = .ok (.aload_n 0, 1) ∧ decode rx 1 = .ok (.aload_n 1, 1) ∧ decode rx 2 = .ok (.invokespecial ix, 3) ∧ decode rx 5 = .ok (.return_, 1)) (hT : ∀ w ∈ Bundle.ownAtomsX own i2 (wx_N kd) ix rx names, w ∉ wx_four → ((w.onTables && w.keeps) = true ∧ w.before args s = true) ∨ w ∈ wx_B) (hBs : wx_Bs s)
    (hcl : (Cond.classLink own i0 (wx_N kd)).before args s = true) (hini : (Cond.initialized (wx_N kd)).before args s = true) (hins : (Cond.instantiable (wx_N kd) 6).before args s = true)
    (hZ : wx_Z A s s.heap) (hR : vk_R own i1 tx q s) (hS : va_S A s.heap H locs) (hno : c.exceptionTable.toList = []) (hlocks : meth.locks = false)
    (hd0 : decode cc pc = .ok (.new i0, 3)) (hd3 : decode cc (pc + 3) = .ok (.dup, 1)) (hd4 : decode cc (pc + 3 + 1) = .ok (.ldc i1, 2)) (hd6 : decode cc (pc + 3 + 1 + 2) = .ok (.invokespecial i2, 3)) (hd9 : decode cc (pc + 3 + 1 + 2 + 3) = .ok (.athrow, 1))
    (hfr : names.length + 3 < R.frames) (hlo : 1 + (rest.map fun v => v.category).sum + (13 * (names.length + 1) + 42) ≤ R.locals) (hc1 : cells + 1 ≤ R.cells) (hs1 : slots + 6 ≤ R.slots) (hc2 : cells + 1 ≤ mc) (hs2 : slots + 6 ≤ ms)
    (hq : ∀ (U : State) (x : Nat), s.WarmedH U.vm → (∀ a : Nat, a < H.size → U.heap[a]? = H[a]?) → H.size ≤ U.heap.size → wx_E kd x H.size U U.heap → Qc args s (.threw x) U) (hf : ∀ a ∈ locs, free a.base) :
    W p l e R s m args below meth c H locs cells slots (wx_MQ below Qc args s mc ms free) (F0 m pc ls rest) := by
  intro T hT0 X
  have htr : e.platform.stackTraces = false := by rw [X.admits.platform]; exact hlt
  have X' := wx_rebase X (R' := { frames := R.frames, locals := R.locals, cells := 1, slots := 6 }) (Nat.le_refl _) (Nat.le_refl _) hc1 hs1
  have hW0 : s.WarmedH (T.setFrames (.invoking m args :: below)).vm := X.warmed
  have hal := X.warmed.alike
  have hown' : (T.setFrames (.invoking m args :: below)).vm.findClass own = some m.cls := by rw [show (T.setFrames (.invoking m args :: below)).vm = T.vm from rfl, hal.findClass]; exact hown
  have wd : ∀ w : Cond, (w.onTables && w.keeps) = true → w.before args s = true → w.before args (T.setFrames (.invoking m args :: below)) = true := fun w hg hw => word_at hW0 (Or.inl hg) hw
  have hZ' : wx_Z A (T.setFrames (.invoking m args :: below)) (T.setFrames (.invoking m args :: below)).heap := by
    have h1 := (hZ.moved (U := T.setFrames (.invoking m args :: below)) hal).kept (H1 := H) hS.2.1
    rw [← hT0] at h1
    exact h1
  have hat := wx_own (L := Bundle.ownAtomsX own i2 (wx_N kd) ix rx names) (a := args) (fun w hw h4 => (hT w hw h4).elim (fun q => wd w q.1 q.2) (fun q => wx_B_at q hal (hBs w q))) hZ'
  have hR' : vk_R own i1 tx q (T.setFrames (.invoking m args :: below)) := hR.warm hW0
  have key : W p l e { frames := R.frames, locals := R.locals, cells := 1, slots := 6 } (T.setFrames (.invoking m args :: below)) m args below meth c T.heap [] 0 0
      (fun U => ∃ x : Nat, U.status = .running ∧ Ended U below (.threw x) ∧ T.heap.size ≤ x ∧ (T.setFrames (.invoking m args :: below)).WarmedH U.vm ∧ (T.setFrames (.invoking m args :: below)).sameButNew ({ U with vm := (T.setFrames (.invoking m args :: below)).vm } : State) [] 1 6 ∧
        ∃ ce, U.heap[x]? = some ce ∧ ce.vm = .none ∧ (T.setFrames (.invoking m args :: below)).vm.findClass (wx_N kd) = some ce.cls) (F0 m pc ls rest) := by
    refine W.newc (C := wx_N kd) (n := 6) hx hb hown' (wd _ (by rfl) hcl) (wd _ (by rfl) hins) (wd _ (by rfl) hini) rfl hd0 (Nat.le_refl 1) (Nat.le_refl 6) fun cC kC h1 h2 h3 h4 => ?_
    refine lv_dup hx hb hd3 rfl ?_
    refine va_ldcS hx hb hown' hR' hd4 ?_
    intro T2 hT2 X2
    obtain ⟨U, g1, g2, g3, g4, g5, ce, g6, g7⟩ := wx_ctor X2 hx htr (own := own) (cls := wx_N kd) (names := names) (ic := i2) hr hown' hfX hfn hat rfl (a := T.heap.size) (cX := cC) (kX := kC) h1 h2
      (by rw [hT2]; show (Array.push _ _)[_]? = _; rw [Array.getElem?_push]; simp [freshCell]) (Nat.le_refl _) (msg := .ref q) rfl (g := F0 m (pc + 3 + 1 + 2) ls (.ref q :: .ref T.heap.size :: .ref T.heap.size :: rest)) rfl (by rw [hml]) rfl rfl rfl (by rw [hb]; exact hd6) (by rw [hb]; exact hd9)
      (fun y hy => by rw [hno] at hy; cases hy) hfr (by show 2 * 0 + _ + _ ≤ _; simp only [List.map_cons, List.sum_cons]; have e1 : (Value.ref T.heap.size).category = 1 := rfl; omega) hlocks
    exact ⟨U, g1, T.heap.size, g2, g3, Nat.le_refl _, g4, g5, ce, g6, g7⟩
  obtain ⟨U, st, x, h1, h2, h3, h4, h5, ce, h6, h7, h7'⟩ := key T rfl X'
  have hWU : s.WarmedH U.vm := State.WarmedH.trans hW0 h4
  refine ⟨U, st, .threw x, h1, h2, hq U x hWU (fun a ha => ?_) ?_ ⟨by rw [← hT0]; exact h3, ce, h6, ?_, ?_⟩, locs, ⟨hWU, ?_⟩, hf⟩
  · rw [← hT0] at ha ⊢
    have e1 : T.heap[a]? = some T.heap[a] := Array.getElem?_eq_getElem ha
    rw [e1]
    exact h5.old_cell (a := a) (c := T.heap[a]) e1
  · rw [← hT0]
    exact h5.2.1
  · rw [h7]; rfl
  · rw [h4.alike.findClass]; exact h7'
  · have h8 : T.sameButNew (({ U with vm := s.vm } : State).setVm T.vm) [] 1 6 := by
      obtain ⟨q1, q2⟩ := h5
      rw [State.setFrames_setFrames] at q1
      exact ⟨q1, q2⟩
    have h9 := X.same.trans (h8.setVm s.vm)
    rw [List.append_nil] at h9
    exact h9.mono hc2 hs2
end WX
