/-! ===== the class as functions of its state; an answer is Except.ok, an exception of kind k is Except.error k ===== -/
def ixI (x : Int32) (n : Nat) : Option Nat := if x < 0 ∨ nI n ≤ x then none else some x.toNatClampNeg
theorem ixI_nI {j n : Nat} (hj : j < n) (hn : n < 2 ^ 31) : ixI (nI j) n = some j := by
  unfold ixI
  have h1 : ¬ nI j < 0 := nI_pos (Nat.lt_trans hj hn)
  have h2 : ¬ nI n ≤ nI j := nI_ge hj hn
  rw [if_neg (by intro h; rcases h with h | h; exact h1 h; exact h2 h), nI_clamp (Nat.lt_trans hj hn)]
theorem ixI_lo {x : Int32} {n : Nat} (h : x < 0) : ixI x n = none := if_pos (Or.inl h)
theorem ixI_hi {x : Int32} {n : Nat} (h : nI n ≤ x) : ixI x n = none := if_pos (Or.inr h)
theorem ixI_of {x : Int32} {n : Nat} (hn : n < 2 ^ 31) (h1 : ¬ x < 0) (h2 : ¬ nI n ≤ x) : ∃ j, j < n ∧ x = nI j := by
  rcases pk_ix x hn with h | h | h
  · exact absurd h h1
  · exact absurd h h2
  · exact h
theorem ixI_some {x : Int32} {n j : Nat} (hn : n < 2 ^ 31) (h : ixI x n = some j) : j < n ∧ x = nI j := by
  by_cases h1 : x < 0
  · rw [ixI_lo h1] at h; cases h
  · by_cases h2 : nI n ≤ x
    · rw [ixI_hi h2] at h; cases h
    · obtain ⟨k, hk, rfl⟩ := ixI_of hn h1 h2
      rw [ixI_nI hk hn] at h
      cases h
      exact ⟨hk, rfl⟩
def cHas (st : Nat → Int32) (x : Int32) : Bool := match ixI x 3 with
  | none => false
  | some k => decide (st k ≠ 0)
theorem cHas_n (st : Nat → Int32) {k : Nat} (hk : k < 3) : cHas st (nI k) = decide (st k ≠ 0) := by
  unfold cHas
  rw [ixI_nI hk (by decide)]
theorem cHas_none {st : Nat → Int32} {x : Int32} (h : ixI x 3 = none) : cHas st x = false := by
  unfold cHas
  rw [h]
def cFree (ts st : Nat → Int32) (c : Nat) : Bool := (List.range 3).all fun j => decide (ts c ≠ st j)
def cTag (ts tb st : Nat → Int32) (s b c : Nat) : Bool := decide (ts c = st s ∧ tb c = nI b)
def cFind (ts tb st : Nat → Int32) (s b : Nat) : Option Nat := if st s = 0 then none else fst (cTag ts tb st s b) 9 0
def cWord (bw cw ts tb st : Nat → Int32) (s b i : Nat) : Int32 := match cFind ts tb st s b with
  | none => bw (b * 4 + i)
  | some c => cw (c * 4 + i)
def cDiff (bw cw ts tb st : Nat → Int32) (s b : Nat) : Bool := ! (List.range 4).all fun i => decide (cWord bw cw ts tb st s b i = bw (b * 4 + i))
def cShares (ts tb st : Nat → Int32) (b s : Nat) : Bool := decide (st s ≠ 0) && (cFind ts tb st s b).isNone
def cNS (ts tb st : Nat → Int32) (b : Nat) : Nat := cnt (cShares ts tb st b) 3
def cNF (ts st : Nat → Int32) : Nat := cnt (cFree ts st) 9
def cLF (ts st : Nat → Int32) : Option Nat := fst (cFree ts st) 9 0
def cLE (st : Nat → Int32) : Option Nat := fst (fun s => decide (st s = 0)) 3 0
def sm (f : Nat → Nat) : Nat → Nat
  | 0 => 0
  | n + 1 => sm f n + f n
def cNM (ts tb st : Nat → Int32) (s : Nat) : Nat := sm (fun b => if (cFind ts tb st s b).isSome then cNS ts tb st b else 0) 6
def cPl (st : Nat → Int32) : Nat := sm (fun s => if st s = 0 then 0 else 2 ^ s) 3
def cCh (bw cw ts tb st : Nat → Int32) (s : Nat) : Nat := cnt (cDiff bw cw ts tb st s) 6
/-! programs over the class's state -/
abbrev CM (ρ : Type) : Type := SV → Except Nat ρ × SV
def cOk {ρ : Type} (r : ρ) : CM ρ := fun σ => (.ok r, σ)
def cErr {ρ : Type} (k : Nat) : CM ρ := fun σ => (.error k, σ)
def cB {ρ τ : Type} (m : CM ρ) (f : ρ → CM τ) : CM τ := fun σ => match m σ with
  | (.ok r, σ') => f r σ'
  | (.error k, σ') => (.error k, σ')
theorem cB_ok {ρ τ : Type} {m : CM ρ} {f : ρ → CM τ} {σ σ' : SV} {r : ρ} (h : m σ = (.ok r, σ')) : cB m f σ = f r σ' := by
  unfold cB
  rw [h]
theorem cB_err {ρ τ : Type} {m : CM ρ} {f : ρ → CM τ} {σ σ' : SV} {k : Nat} (h : m σ = (.error k, σ')) : cB m f σ = (.error k, σ') := by
  unfold cB
  rw [h]
def cFor (f : Nat → CM Unit) : Nat → Nat → CM Unit
  | 0, _ => cOk ()
  | n + 1, k => cB (f k) (fun _ => cFor f n (k + 1))
def cSum (f : Nat → CM Nat) : Nat → Nat → Nat → CM Nat
  | 0, _, a => cOk a
  | n + 1, k, a => cB (f k) (fun d => cSum f n (k + 1) (a + d))
def cTick : CM Unit := fun σ => match σ with
  | (bw, cw, ts, tb, st, ro, mr, la, fu, dn, wr) => match fu with
    | none => (.ok (), (bw, cw, ts, tb, st, ro, mr, la, none, dn, wr + 1))
    | some 0 => (.error 0, (bw, cw, ts, tb, st, ro, mr, la, none, true, wr))
    | some (k + 1) => (.ok (), (bw, cw, ts, tb, st, ro, mr, la, some k, dn, wr + 1))
def cPutB (b i : Nat) (w : Int32) : CM Unit := cB cTick fun _ σ => match σ with
  | (bw, cw, ts, tb, st, ro, mr, la, fu, dn, wr) => (.ok (), (upd bw (b * 4 + i) w, cw, ts, tb, st, ro, mr, la, fu, dn, wr))
def cPutC (c i : Nat) (w : Int32) : CM Unit := cB cTick fun _ σ => match σ with
  | (bw, cw, ts, tb, st, ro, mr, la, fu, dn, wr) => (.ok (), (bw, upd cw (c * 4 + i) w, ts, tb, st, ro, mr, la, fu, dn, wr))
def cPutT (c : Nat) (x y : Int32) : CM Unit := cB cTick fun _ σ => match σ with
  | (bw, cw, ts, tb, st, ro, mr, la, fu, dn, wr) => (.ok (), (bw, cw, upd ts c x, upd tb c y, st, ro, mr, la, fu, dn, wr))
def cPutS (s : Nat) (x : Int32) : CM Unit := cB cTick fun _ σ => match σ with
  | (bw, cw, ts, tb, st, ro, mr, la, fu, dn, wr) => (.ok (), (bw, cw, ts, tb, upd st s x, ro, mr, la, fu, dn, wr))
def cPutR (v : Nat) : CM Unit := cB cTick fun _ σ => match σ with
  | (bw, cw, ts, tb, st, _, mr, la, fu, dn, wr) => (.ok (), (bw, cw, ts, tb, st, v, mr, la, fu, dn, wr))
def cPutM (v : Nat) : CM Unit := cB cTick fun _ σ => match σ with
  | (bw, cw, ts, tb, st, ro, _, la, fu, dn, wr) => (.ok (), (bw, cw, ts, tb, st, ro, v, la, fu, dn, wr))
def cCopy (s b : Nat) (rep : Option Nat) (w : Int32) : CM Unit := fun σ => match σ with
  | (bw, cw, ts, tb, st, ro, mr, la, fu, dn, wr) => match cLF ts st with
    | none => (.ok (), (bw, cw, ts, tb, st, ro, mr, la, fu, dn, wr))
    | some c => cB (cFor (fun i => cPutC c i (if rep = some i then w else bw (b * 4 + i))) 4 0) (fun _ => cPutT c (st s) (nI b)) (bw, cw, ts, tb, st, ro, mr, la, fu, dn, wr)
def cCopyIf (b s : Nat) : CM Nat := fun σ => match σ with
  | (bw, cw, ts, tb, st, ro, mr, la, fu, dn, wr) => if cShares ts tb st b s then cB (cCopy s b none 0) (fun _ => cOk 1) (bw, cw, ts, tb, st, ro, mr, la, fu, dn, wr) else (.ok 0, (bw, cw, ts, tb, st, ro, mr, la, fu, dn, wr))
def cCopies (b : Nat) : CM Nat := cSum (cCopyIf b) 3 0 0
def cBack (b c : Nat) : CM Unit := cFor (fun i σ => match σ with
  | (bw, cw, ts, tb, st, ro, mr, la, fu, dn, wr) => cPutB b i (cw (c * 4 + i)) (bw, cw, ts, tb, st, ro, mr, la, fu, dn, wr)) 4 0
def cMerge1 (s b : Nat) : CM Nat := fun σ => match σ with
  | (bw, cw, ts, tb, st, ro, mr, la, fu, dn, wr) => match cFind ts tb st s b with
    | none => (.ok 0, (bw, cw, ts, tb, st, ro, mr, la, fu, dn, wr))
    | some c => cB (cCopies b) (fun _ => cB (cBack b c) (fun _ => cB (cPutM (b + 1)) (fun _ => cOk 1))) (bw, cw, ts, tb, st, ro, mr, la, fu, dn, wr)
def cMerge (s : Nat) : CM Nat := fun σ => match σ with
  | (bw, cw, ts, tb, st, ro, mr, la, fu, dn, wr) => cB (cSum (cMerge1 s) (6 - mr) mr 0) (fun n => cB (cPutR 0) (fun _ => cOk n)) (bw, cw, ts, tb, st, ro, mr, la, fu, dn, wr)
def cUp : CM Unit := fun σ => match σ with
  | (bw, cw, ts, tb, st, ro, mr, la, fu, dn, wr) => if dn then (.error 0, (bw, cw, ts, tb, st, ro, mr, la, fu, dn, wr)) else (.ok (), (bw, cw, ts, tb, st, ro, mr, la, fu, dn, wr))
def cReqS (x : Int32) : CM Unit := fun σ => match σ with
  | (bw, cw, ts, tb, st, ro, mr, la, fu, dn, wr) => if cHas st x then (.ok (), (bw, cw, ts, tb, st, ro, mr, la, fu, dn, wr)) else (.error 3, (bw, cw, ts, tb, st, ro, mr, la, fu, dn, wr))
def cReqB (x : Int32) : CM Unit := fun σ => if (ixI x 6).isSome then (.ok (), σ) else (.error 1, σ)
def cReqW (x i : Int32) : CM Unit := cB (cReqB x) fun _ σ => if (ixI i 4).isSome then (.ok (), σ) else (.error 1, σ)
def cReqF (n : Nat) : CM Unit := fun σ => match σ with
  | (bw, cw, ts, tb, st, ro, mr, la, fu, dn, wr) => if cNF ts st < n then (.error 2, (bw, cw, ts, tb, st, ro, mr, la, fu, dn, wr)) else (.ok (), (bw, cw, ts, tb, st, ro, mr, la, fu, dn, wr))
/-- the number behind an int that has been found in range -/
def cN (x : Int32) : Nat := x.toNatClampNeg
theorem cN_nI {k : Nat} (h : k < 2 ^ 31) : cN (nI k) = k := nI_clamp h
def cWrite (b i w : Int32) : CM Nat := cB cUp fun _ => cB (cReqW b i) fun _ σ => match σ with
  | (bw, cw, ts, tb, st, ro, mr, la, fu, dn, wr) => cB (cReqF (cNS ts tb st (cN b))) (fun _ => cB (cCopies (cN b)) fun n => cB (cPutB (cN b) (cN i) w) fun _ => cOk n) (bw, cw, ts, tb, st, ro, mr, la, fu, dn, wr)
def cRead (b i : Int32) : CM Int32 := cB cUp fun _ => cB (cReqW b i) fun _ σ => match σ with
  | (bw, cw, ts, tb, st, ro, mr, la, fu, dn, wr) => (.ok (bw (cN b * 4 + cN i)), (bw, cw, ts, tb, st, ro, mr, la, fu, dn, wr))
def cSnap : CM Nat := cB cUp fun _ σ => match σ with
  | (bw, cw, ts, tb, st, ro, mr, la, fu, dn, wr) => match cLE st with
    | none => (.error 2, (bw, cw, ts, tb, st, ro, mr, la, fu, dn, wr))
    | some s => cB (cPutS s (nI (la + 1))) (fun _ σ' => match σ' with
      | (bw, cw, ts, tb, st, ro, mr, la, fu, dn, wr) => (.ok s, (bw, cw, ts, tb, st, ro, mr, la + 1, fu, dn, wr))) (bw, cw, ts, tb, st, ro, mr, la, fu, dn, wr)
def cDrop (s : Int32) : CM Unit := cB cUp fun _ => cB (cReqS s) fun _ => cPutS (cN s) 0
def cReadS (s b i : Int32) : CM Int32 := cB cUp fun _ => cB (cReqS s) fun _ => cB (cReqW b i) fun _ σ => match σ with
  | (bw, cw, ts, tb, st, ro, mr, la, fu, dn, wr) => (.ok (cWord bw cw ts tb st (cN s) (cN b) (cN i)), (bw, cw, ts, tb, st, ro, mr, la, fu, dn, wr))
def cWriteS (s b i w : Int32) : CM Bool := cB cUp fun _ => cB (cReqS s) fun _ => cB (cReqW b i) fun _ σ => match σ with
  | (bw, cw, ts, tb, st, ro, mr, la, fu, dn, wr) => match cFind ts tb st (cN s) (cN b) with
    | some c => cB (cPutC c (cN i) w) (fun _ => cOk false) (bw, cw, ts, tb, st, ro, mr, la, fu, dn, wr)
    | none => cB (cReqF 1) (fun _ => cB (cCopy (cN s) (cN b) (some (cN i)) w) fun _ => cOk true) (bw, cw, ts, tb, st, ro, mr, la, fu, dn, wr)
def cRoll (s : Int32) : CM Nat := cB cUp fun _ => cB (cReqS s) fun _ σ => match σ with
  | (bw, cw, ts, tb, st, ro, mr, la, fu, dn, wr) => cB (cReqF (cNM ts tb st (cN s))) (fun _ => cB (cPutM 0) fun _ => cB (cPutR (1 + cN s)) fun _ => cMerge (cN s)) (bw, cw, ts, tb, st, ro, mr, la, fu, dn, wr)
def cFuse (n : Int32) : SV → Bool × SV := fun σ => match σ with
  | (bw, cw, ts, tb, st, ro, mr, la, fu, dn, wr) => if dn ∨ n < -1 then (false, (bw, cw, ts, tb, st, ro, mr, la, fu, dn, wr)) else (true, (bw, cw, ts, tb, st, ro, mr, la, (if n < 0 then none else some n.toNatClampNeg), dn, wr))
def cRec : CM Nat := fun σ => match σ with
  | (bw, cw, ts, tb, st, ro, mr, la, fu, dn, wr) => if dn then (match ro with
    | 0 => (.ok 0, (bw, cw, ts, tb, st, 0, mr, la, fu, false, wr))
    | r + 1 => cMerge r (bw, cw, ts, tb, st, r + 1, mr, la, fu, false, wr)) else (.error 2, (bw, cw, ts, tb, st, ro, mr, la, fu, dn, wr))
def cUsed : CM Nat := cB cUp fun _ σ => match σ with
  | (bw, cw, ts, tb, st, ro, mr, la, fu, dn, wr) => (.ok (9 - cNF ts st), (bw, cw, ts, tb, st, ro, mr, la, fu, dn, wr))
def cCopyOf (s b : Int32) : CM (Option Nat) := cB cUp fun _ => cB (cReqS s) fun _ => cB (cReqB b) fun _ σ => match σ with
  | (bw, cw, ts, tb, st, ro, mr, la, fu, dn, wr) => (.ok (cFind ts tb st (cN s) (cN b)), (bw, cw, ts, tb, st, ro, mr, la, fu, dn, wr))
def cPlaces : CM Nat := cB cUp fun _ σ => match σ with
  | (bw, cw, ts, tb, st, ro, mr, la, fu, dn, wr) => (.ok (cPl st), (bw, cw, ts, tb, st, ro, mr, la, fu, dn, wr))
def cChanged (s : Int32) : CM Nat := cB cUp fun _ => cB (cReqS s) fun _ σ => match σ with
  | (bw, cw, ts, tb, st, ro, mr, la, fu, dn, wr) => (.ok (cCh bw cw ts tb st (cN s)), (bw, cw, ts, tb, st, ro, mr, la, fu, dn, wr))
def cClear : SV → SV := fun _ => (fun _ => 0, fun _ => 0, fun _ => -1, fun _ => 0, fun _ => 0, 0, 0, 0, none, false, 0)
