/-! ===== which kinds a call of the class may throw ===== -/
def erK {ρ : Type} (S : Nat → Prop) (m : CM ρ) : Prop := ∀ σ k σ', m σ = (.error k, σ') → S k
section ERK
variable {ρ τ : Type} {S : Nat → Prop}
theorem erK.b {m : CM ρ} {f : ρ → CM τ} (h1 : erK S m) (h2 : ∀ r, erK S (f r)) : erK S (cB m f) := by
  intro σ k σ' h
  cases hm : m σ with
  | mk r u =>
    cases r with
    | error e =>
      rw [cB_err hm] at h
      cases h
      exact h1 σ _ _ hm
    | ok r =>
      rw [cB_ok hm] at h
      exact h2 r u k σ' h
theorem erK.ok {r : ρ} : erK S (cOk r) := fun σ k σ' h => by cases h
theorem erK.of {m : CM ρ} (h : ∀ bw cw ts tb st ro mr la fu dn wr k σ', m (bw, cw, ts, tb, st, ro, mr, la, fu, dn, wr) = (.error k, σ') → S k) : erK S m := by
  intro σ k σ' hk
  obtain ⟨bw, cw, ts, tb, st, ro, mr, la, fu, dn, wr⟩ := σ
  exact h _ _ _ _ _ _ _ _ _ _ _ _ _ hk
theorem erK.for {f : Nat → CM Unit} (h : ∀ i, erK S (f i)) : ∀ n k, erK S (cFor f n k) := by
  intro n
  induction n with
  | zero => intro k; exact erK.ok
  | succ n ih => intro k; exact erK.b (h k) (fun _ => ih (k + 1))
theorem erK.sum {f : Nat → CM Nat} (h : ∀ i, erK S (f i)) : ∀ n k a, erK S (cSum f n k a) := by
  intro n
  induction n with
  | zero => intro k a; exact erK.ok
  | succ n ih => intro k a; exact erK.b (h k) (fun d => ih (k + 1) (a + d))
theorem er_tick (h0 : S 0) : erK S cTick := erK.of (fun bw cw ts tb st ro mr la fu dn wr k σ' h => by
  cases fu with
  | none => cases h
  | some j =>
    cases j with
    | zero => cases h; exact h0
    | succ j => cases h)
theorem er_noerr {f : Unit → CM Unit} (h : ∀ u σ, ∃ σ', f u σ = (.ok (), σ')) (u : Unit) : erK S (f u) := fun σ k σ' hk => by
  obtain ⟨u', e⟩ := h u σ
  rw [e] at hk
  cases hk
theorem er_putB (h0 : S 0) (b i : Nat) (w : Int32) : erK S (cPutB b i w) := erK.b (er_tick h0) (fun _ => fun σ k σ' h => by cases h)
theorem er_putC (h0 : S 0) (b i : Nat) (w : Int32) : erK S (cPutC b i w) := erK.b (er_tick h0) (fun _ => fun σ k σ' h => by cases h)
theorem er_putT (h0 : S 0) (c : Nat) (x y : Int32) : erK S (cPutT c x y) := erK.b (er_tick h0) (fun _ => fun σ k σ' h => by cases h)
theorem er_putS (h0 : S 0) (s : Nat) (x : Int32) : erK S (cPutS s x) := erK.b (er_tick h0) (fun _ => fun σ k σ' h => by cases h)
theorem er_putR (h0 : S 0) (v : Nat) : erK S (cPutR v) := erK.b (er_tick h0) (fun _ => fun σ k σ' h => by cases h)
theorem er_putM (h0 : S 0) (v : Nat) : erK S (cPutM v) := erK.b (er_tick h0) (fun _ => fun σ k σ' h => by cases h)
theorem er_copy (h0 : S 0) (s b : Nat) (rep : Option Nat) (w : Int32) : erK S (cCopy s b rep w) := erK.of (fun bw cw ts tb st ro mr la fu dn wr k σ' h => by
  cases hc : cLF ts st with
  | none => rw [cCopy_none hc] at h; cases h
  | some c =>
    rw [cCopy_some hc] at h
    exact (erK.b (erK.for (fun i => er_putC h0 _ _ _) _ _) (fun _ => er_putT h0 _ _ _)) _ _ _ h)
theorem er_copyIf (h0 : S 0) (b s : Nat) : erK S (cCopyIf b s) := erK.of (fun bw cw ts tb st ro mr la fu dn wr k σ' h => by
  cases hc : cShares ts tb st b s with
  | false => rw [cCopyIf_no hc] at h; cases h
  | true =>
    rw [cCopyIf_yes hc] at h
    exact (erK.b (er_copy h0 _ _ _ _) (fun _ => erK.ok)) _ _ _ h)
theorem er_copies (h0 : S 0) (b : Nat) : erK S (cCopies b) := erK.sum (fun i => er_copyIf h0 b i) 3 0 0
theorem er_bk (h0 : S 0) (b c i : Nat) : erK S (cBk b c i) := erK.of (fun bw cw ts tb st ro mr la fu dn wr k σ' h => er_putB h0 b i (cw (c * 4 + i)) _ _ _ h)
theorem er_back (h0 : S 0) (b c : Nat) : erK S (cBack b c) := by
  rw [cBack_eq]
  exact erK.for (fun i => er_bk h0 b c i) 4 0
theorem er_merge1 (h0 : S 0) (s b : Nat) : erK S (cMerge1 s b) := erK.of (fun bw cw ts tb st ro mr la fu dn wr k σ' h => by
  cases hc : cFind ts tb st s b with
  | none => rw [cMerge1_none hc] at h; cases h
  | some c =>
    rw [cMerge1_some hc] at h
    exact (erK.b (er_copies h0 _) (fun _ => erK.b (er_back h0 _ _) (fun _ => erK.b (er_putM h0 _) (fun _ => erK.ok)))) _ _ _ h)
theorem er_merge (h0 : S 0) (s : Nat) : erK S (cMerge s) := erK.of (fun bw cw ts tb st ro mr la fu dn wr k σ' h => (erK.b (erK.sum (fun i => er_merge1 h0 s i) _ _ _) (fun _ => erK.b (er_putR h0 _) (fun _ => erK.ok))) _ _ _ h)
theorem er_up (h0 : S 0) : erK S cUp := erK.of (fun bw cw ts tb st ro mr la fu dn wr k σ' h => by
  cases dn with
  | true => cases h; exact h0
  | false => cases h)
theorem er_reqS (h3 : S 3) (x : Int32) : erK S (cReqS x) := erK.of (fun bw cw ts tb st ro mr la fu dn wr k σ' h => by
  cases hx : cHas st x with
  | false => rw [reqS_no hx] at h; cases h; exact h3
  | true => rw [reqS_ok hx] at h; cases h)
theorem er_reqB (h1 : S 1) (x : Int32) : erK S (cReqB x) := fun σ k σ' h => by
  cases hx : ixI x 6 with
  | none => rw [reqB_no hx] at h; cases h; exact h1
  | some j =>
    obtain ⟨hj, rfl⟩ := ixI_some (by decide) hx
    rw [reqB_yes hj] at h; cases h
theorem er_reqW (h1 : S 1) (x y : Int32) : erK S (cReqW x y) := fun σ k σ' h => by
  cases hx : ixI x 6 with
  | none => rw [reqW_no (Or.inl hx)] at h; cases h; exact h1
  | some j =>
    cases hy : ixI y 4 with
    | none => rw [reqW_no (Or.inr hy)] at h; cases h; exact h1
    | some i => rw [reqW_ok hx hy] at h; cases h
theorem er_reqF (h2 : S 2) (n : Nat) : erK S (cReqF n) := erK.of (fun bw cw ts tb st ro mr la fu dn wr k σ' h => by
  by_cases hx : cNF ts st < n
  · rw [show cReqF n (bw, cw, ts, tb, st, ro, mr, la, fu, dn, wr) = (.error 2, _) from if_pos hx] at h; cases h; exact h2
  · rw [show cReqF n (bw, cw, ts, tb, st, ro, mr, la, fu, dn, wr) = (.ok (), _) from if_neg hx] at h; cases h)
theorem er_write (h0 : S 0) (h1 : S 1) (h2 : S 2) (x y w : Int32) : erK S (cWrite x y w) := erK.b (er_up h0) (fun _ => erK.b (er_reqW h1 x y) (fun _ => erK.of (fun bw cw ts tb st ro mr la fu dn wr k σ' h => (erK.b (er_reqF h2 _) (fun _ => erK.b (er_copies h0 _) (fun _ => erK.b (er_putB h0 _ _ _) (fun _ => erK.ok)))) _ _ _ h)))
theorem er_read (h0 : S 0) (h1 : S 1) (x y : Int32) : erK S (cRead x y) := erK.b (er_up h0) (fun _ => erK.b (er_reqW h1 x y) (fun _ => erK.of (fun bw cw ts tb st ro mr la fu dn wr k σ' h => by cases h)))
theorem er_snap (h0 : S 0) (h2 : S 2) : erK S cSnap := erK.b (er_up h0) (fun _ => erK.of (fun bw cw ts tb st ro mr la fu dn wr k σ' h => by
  cases hc : cLE st with
  | none => simp only [hc] at h; cases h; exact h2
  | some s =>
    simp only [hc] at h
    exact (erK.b (er_putS h0 _ _) (fun _ => erK.of (fun bw cw ts tb st ro mr la fu dn wr k σ' h => by cases h))) _ _ _ h))
theorem er_drop (h0 : S 0) (h3 : S 3) (x : Int32) : erK S (cDrop x) := erK.b (er_up h0) (fun _ => erK.b (er_reqS h3 x) (fun _ => er_putS h0 _ _))
theorem er_readS (h0 : S 0) (h1 : S 1) (h3 : S 3) (x y z : Int32) : erK S (cReadS x y z) := erK.b (er_up h0) (fun _ => erK.b (er_reqS h3 x) (fun _ => erK.b (er_reqW h1 y z) (fun _ => erK.of (fun bw cw ts tb st ro mr la fu dn wr k σ' h => by cases h))))
theorem er_writeS (h0 : S 0) (h1 : S 1) (h2 : S 2) (h3 : S 3) (x y z w : Int32) : erK S (cWriteS x y z w) := erK.b (er_up h0) (fun _ => erK.b (er_reqS h3 x) (fun _ => erK.b (er_reqW h1 y z) (fun _ => erK.of (fun bw cw ts tb st ro mr la fu dn wr k σ' h => by
  cases hc : cFind ts tb st (cN x) (cN y) with
  | none =>
    simp only [hc] at h
    exact (erK.b (er_reqF h2 _) (fun _ => erK.b (er_copy h0 _ _ _ _) (fun _ => erK.ok))) _ _ _ h
  | some c =>
    simp only [hc] at h
    exact (erK.b (er_putC h0 _ _ _) (fun _ => erK.ok)) _ _ _ h))))
theorem er_roll (h0 : S 0) (h2 : S 2) (h3 : S 3) (x : Int32) : erK S (cRoll x) := erK.b (er_up h0) (fun _ => erK.b (er_reqS h3 x) (fun _ => erK.of (fun bw cw ts tb st ro mr la fu dn wr k σ' h => (erK.b (er_reqF h2 _) (fun _ => erK.b (er_putM h0 _) (fun _ => erK.b (er_putR h0 _) (fun _ => er_merge h0 _)))) _ _ _ h)))
theorem er_used (h0 : S 0) : erK S cUsed := erK.b (er_up h0) (fun _ => erK.of (fun bw cw ts tb st ro mr la fu dn wr k σ' h => by cases h))
theorem er_copyOf (h0 : S 0) (h1 : S 1) (h3 : S 3) (x y : Int32) : erK S (cCopyOf x y) := erK.b (er_up h0) (fun _ => erK.b (er_reqS h3 x) (fun _ => erK.b (er_reqB h1 y) (fun _ => erK.of (fun bw cw ts tb st ro mr la fu dn wr k σ' h => by cases h))))
theorem er_places (h0 : S 0) : erK S cPlaces := erK.b (er_up h0) (fun _ => erK.of (fun bw cw ts tb st ro mr la fu dn wr k σ' h => by cases h))
theorem er_changed (h0 : S 0) (h3 : S 3) (x : Int32) : erK S (cChanged x) := erK.b (er_up h0) (fun _ => erK.b (er_reqS h3 x) (fun _ => erK.of (fun bw cw ts tb st ro mr la fu dn wr k σ' h => by cases h)))
end ERK
/-! without a fuse nothing is cut -/
def fN (u : SV) : Prop := match u with
  | (_, _, _, _, _, _, _, _, fu, _, _) => fu = none
def nfK {ρ : Type} (m : CM ρ) : Prop := ∀ σ, fN σ → ∃ r σ', m σ = (.ok r, σ') ∧ fN σ'
section NFK
variable {ρ τ : Type}
theorem nfK.b {m : CM ρ} {f : ρ → CM τ} (h1 : nfK m) (h2 : ∀ r, nfK (f r)) : nfK (cB m f) := by
  intro σ hσ
  obtain ⟨r, u, e, hu⟩ := h1 σ hσ
  obtain ⟨r2, u2, e2, hu2⟩ := h2 r u hu
  exact ⟨r2, u2, (cB_ok e).trans e2, hu2⟩
theorem nfK.ok {r : ρ} : nfK (cOk r) := fun σ h => ⟨r, σ, rfl, h⟩
theorem nfK.of {m : CM ρ} (h : ∀ bw cw ts tb st ro mr la dn wr, ∃ r σ', m (bw, cw, ts, tb, st, ro, mr, la, none, dn, wr) = (.ok r, σ') ∧ fN σ') : nfK m := by
  intro σ hσ
  obtain ⟨bw, cw, ts, tb, st, ro, mr, la, fu, dn, wr⟩ := σ
  have e : fu = none := hσ
  subst e
  exact h _ _ _ _ _ _ _ _ _ _
theorem nfK.for {f : Nat → CM Unit} (h : ∀ i, nfK (f i)) : ∀ n k, nfK (cFor f n k) := by
  intro n
  induction n with
  | zero => intro k; exact nfK.ok
  | succ n ih => intro k; exact nfK.b (h k) (fun _ => ih (k + 1))
theorem nfK.sum {f : Nat → CM Nat} (h : ∀ i, nfK (f i)) : ∀ n k a, nfK (cSum f n k a) := by
  intro n
  induction n with
  | zero => intro k a; exact nfK.ok
  | succ n ih => intro k a; exact nfK.b (h k) (fun d => ih (k + 1) (a + d))
theorem nf_putB (b i : Nat) (w : Int32) : nfK (cPutB b i w) := nfK.of (fun bw cw ts tb st ro mr la dn wr => ⟨_, _, rfl, rfl⟩)
theorem nf_putC (b i : Nat) (w : Int32) : nfK (cPutC b i w) := nfK.of (fun bw cw ts tb st ro mr la dn wr => ⟨_, _, rfl, rfl⟩)
theorem nf_putT (c : Nat) (x y : Int32) : nfK (cPutT c x y) := nfK.of (fun bw cw ts tb st ro mr la dn wr => ⟨_, _, rfl, rfl⟩)
theorem nf_putR (v : Nat) : nfK (cPutR v) := nfK.of (fun bw cw ts tb st ro mr la dn wr => ⟨_, _, rfl, rfl⟩)
theorem nf_putM (v : Nat) : nfK (cPutM v) := nfK.of (fun bw cw ts tb st ro mr la dn wr => ⟨_, _, rfl, rfl⟩)
theorem nf_copy (s b : Nat) (rep : Option Nat) (w : Int32) : nfK (cCopy s b rep w) := nfK.of (fun bw cw ts tb st ro mr la dn wr => by
  cases hc : cLF ts st with
  | none => exact ⟨_, _, cCopy_none hc, rfl⟩
  | some c =>
    rw [cCopy_some hc]
    exact (nfK.b (nfK.for (fun i => nf_putC _ _ _) _ _) (fun _ => nf_putT _ _ _)) _ rfl)
theorem nf_copyIf (b s : Nat) : nfK (cCopyIf b s) := nfK.of (fun bw cw ts tb st ro mr la dn wr => by
  cases hc : cShares ts tb st b s with
  | false => exact ⟨_, _, cCopyIf_no hc, rfl⟩
  | true =>
    rw [cCopyIf_yes hc]
    exact (nfK.b (nf_copy _ _ _ _) (fun _ => nfK.ok)) _ rfl)
theorem nf_bk (b c i : Nat) : nfK (cBk b c i) := nfK.of (fun bw cw ts tb st ro mr la dn wr => nf_putB b i (cw (c * 4 + i)) _ rfl)
theorem nf_back (b c : Nat) : nfK (cBack b c) := by
  rw [cBack_eq]
  exact nfK.for (fun i => nf_bk b c i) 4 0
theorem nf_merge1 (s b : Nat) : nfK (cMerge1 s b) := nfK.of (fun bw cw ts tb st ro mr la dn wr => by
  cases hc : cFind ts tb st s b with
  | none => exact ⟨_, _, cMerge1_none hc, rfl⟩
  | some c =>
    rw [cMerge1_some hc]
    exact (nfK.b (show nfK (cCopies b) from nfK.sum (fun i => nf_copyIf b i) 3 0 0) (fun _ => nfK.b (nf_back _ _) (fun _ => nfK.b (nf_putM _) (fun _ => nfK.ok)))) _ rfl)
theorem nf_merge (s : Nat) : nfK (cMerge s) := nfK.of (fun bw cw ts tb st ro mr la dn wr => (nfK.b (nfK.sum (fun i => nf_merge1 s i) _ _ _) (fun _ => nfK.b (nf_putR _) (fun _ => nfK.ok))) _ rfl)
end NFK
theorem er_rec {bw cw ts tb st : Nat → Int32} {ro mr la : Nat} {fu : Option Nat} {dn : Bool} {wr k : Nat} {σ' : SV} (hf : dn = true → fu = none) (h : cRec (bw, cw, ts, tb, st, ro, mr, la, fu, dn, wr) = (.error k, σ')) : k = 2 := by
  cases dn with
  | false => cases h; rfl
  | true =>
    cases hf rfl
    cases ro with
    | zero => cases h
    | succ r =>
      obtain ⟨n, u, e, -⟩ := nf_merge r (bw, cw, ts, tb, st, r + 1, mr, la, none, false, wr) rfl
      have h' : cMerge r (bw, cw, ts, tb, st, r + 1, mr, la, none, false, wr) = (.error k, σ') := h
      rw [e] at h'
      cases h'
