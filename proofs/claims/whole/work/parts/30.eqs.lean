/-! ===== small rows for the walks of the class ===== -/
def rmL (d : Nat) : Room := { frames := 6 + d, cells := 0, slots := 0, locals := 90 + 30 * d }
def rmX (d : Nat) : Room := { frames := 6 + d, cells := 1, slots := 6, locals := 90 + 30 * d }
theorem oI_n {i : Nat} {o : Option Nat} (hi : i < 2 ^ 31) (ho : ∀ j, o = some j → j < 2 ^ 31) : nI i = oI o ↔ o = some i := by
  cases o with
  | none =>
    constructor
    · intro h
      have h1 : nI i = -1 := h
      have := congrArg Int32.toInt h1
      rw [nI_toInt hi] at this
      have e2 : (-1 : Int32).toInt = -1 := by decide
      rw [e2] at this
      omega
    · intro h; cases h
  | some j =>
    constructor
    · intro h
      rw [(nI_eq hi (ho j rfl)).mp h]
    · intro h
      cases h
      rfl
theorem oI_none {o : Option Nat} (ho : ∀ j, o = some j → j < 2 ^ 31) : oI o = oI none ↔ o = none := by
  cases o with
  | none => exact ⟨fun _ => rfl, fun _ => rfl⟩
  | some j =>
    constructor
    · intro h
      have := (oI_n (o := none) (ho j rfl) (fun _ e => by cases e)).mp h
      cases this
    · intro h; cases h
theorem cLF_lt {ts st : Nat → Int32} {c : Nat} (h : cLF ts st = some c) : c < 9 := by
  have := (fst_some (show fst (cFree ts st) 9 0 = some c from h)).2.1
  omega
theorem cLE_lt {st : Nat → Int32} {c : Nat} (h : cLE st = some c) : c < 3 := by
  have := (fst_some (show fst (fun s => decide (st s = 0)) 3 0 = some c from h)).2.1
  omega
theorem cFind_lt {ts tb st : Nat → Int32} {s b c : Nat} (h : cFind ts tb st s b = some c) : c < 9 := (find_some h).2.1
theorem fst_z (p : Nat → Bool) (k : Nat) : fst p 0 k = none := rfl
theorem fst_y {p : Nat → Bool} {n k : Nat} (h : p k = true) : fst p (n + 1) k = some k := by unfold fst; rw [if_pos h]
theorem fst_s {p : Nat → Bool} {n k : Nat} (h : p k = false) : fst p (n + 1) k = fst p n (k + 1) := by
  show (if p k = true then some k else fst p n (k + 1)) = _
  rw [h]; rfl
theorem cnt_y {p : Nat → Bool} {n : Nat} (h : p n = true) : cnt p (n + 1) = cnt p n + 1 := by
  show cnt p n + (if p n = true then 1 else 0) = _
  rw [if_pos h]
theorem cnt_s {p : Nat → Bool} {n : Nat} (h : p n = false) : cnt p (n + 1) = cnt p n := by
  show cnt p n + (if p n = true then 1 else 0) = _
  rw [h]; rfl
/-! loops of programs -/
theorem cFor_ok {f : Nat → CM Unit} {n k : Nat} {σ σ' : SV} (h : f k σ = (.ok (), σ')) : cFor f (n + 1) k σ = cFor f n (k + 1) σ' := cB_ok h
theorem cFor_err {f : Nat → CM Unit} {n k e : Nat} {σ σ' : SV} (h : f k σ = (.error e, σ')) : cFor f (n + 1) k σ = (.error e, σ') := cB_err h
theorem cSum_ok {f : Nat → CM Nat} {n k a d : Nat} {σ σ' : SV} (h : f k σ = (.ok d, σ')) : cSum f (n + 1) k a σ = cSum f n (k + 1) (a + d) σ' := cB_ok h
theorem cSum_err {f : Nat → CM Nat} {n k a e : Nat} {σ σ' : SV} (h : f k σ = (.error e, σ')) : cSum f (n + 1) k a σ = (.error e, σ') := cB_err h
theorem cB_eq {ρ τ : Type} {m m' : CM ρ} {f : ρ → CM τ} {σ σ' : SV} (h : m σ = m' σ') : cB m f σ = cB m' f σ' := by
  unfold cB
  rw [h]
/-! what a put leaves -/
section PUT
variable {bw cw ts tb st : Nat → Int32} {ro mr la : Nat} {fu : Option Nat} {dn : Bool} {wr : Nat} {u' : SV}
theorem tick_inv (h : cTick (bw, cw, ts, tb, st, ro, mr, la, fu, dn, wr) = (.ok (), u')) : ∃ fu', u' = (bw, cw, ts, tb, st, ro, mr, la, fu', dn, wr + 1) ∧ (∀ k, fu' = some k → ∃ j, fu = some j ∧ k ≤ j) := by
  cases fu with
  | none => cases h; exact ⟨none, rfl, fun k e => by cases e⟩
  | some k =>
    cases k with
    | zero => cases h
    | succ k => cases h; exact ⟨some k, rfl, fun j e => by cases e; exact ⟨_, rfl, by omega⟩⟩
theorem putC_inv {c i : Nat} {w : Int32} (h : cPutC c i w (bw, cw, ts, tb, st, ro, mr, la, fu, dn, wr) = (.ok (), u')) : ∃ fu', u' = (bw, upd cw (c * 4 + i) w, ts, tb, st, ro, mr, la, fu', dn, wr + 1) := by
  unfold cPutC at h
  cases ht : cTick (bw, cw, ts, tb, st, ro, mr, la, fu, dn, wr) with
  | mk r u1 =>
    cases r with
    | error e => rw [cB_err ht] at h; cases h
    | ok r =>
      obtain ⟨fu', rfl, -⟩ := tick_inv ht
      rw [cB_ok ht] at h
      cases h
      exact ⟨fu', rfl⟩
theorem putS_inv {s : Nat} {w : Int32} (h : cPutS s w (bw, cw, ts, tb, st, ro, mr, la, fu, dn, wr) = (.ok (), u')) : ∃ fu', u' = (bw, cw, ts, tb, upd st s w, ro, mr, la, fu', dn, wr + 1) := by
  unfold cPutS at h
  cases ht : cTick (bw, cw, ts, tb, st, ro, mr, la, fu, dn, wr) with
  | mk r u1 =>
    cases r with
    | error e => rw [cB_err ht] at h; cases h
    | ok r =>
      obtain ⟨fu', rfl, -⟩ := tick_inv ht
      rw [cB_ok ht] at h
      cases h
      exact ⟨fu', rfl⟩
theorem putM_inv {v : Nat} (h : cPutM v (bw, cw, ts, tb, st, ro, mr, la, fu, dn, wr) = (.ok (), u')) : ∃ fu', u' = (bw, cw, ts, tb, st, ro, v, la, fu', dn, wr + 1) := by
  unfold cPutM at h
  cases ht : cTick (bw, cw, ts, tb, st, ro, mr, la, fu, dn, wr) with
  | mk r u1 =>
    cases r with
    | error e => rw [cB_err ht] at h; cases h
    | ok r =>
      obtain ⟨fu', rfl, -⟩ := tick_inv ht
      rw [cB_ok ht] at h
      cases h
      exact ⟨fu', rfl⟩
theorem putR_inv {v : Nat} (h : cPutR v (bw, cw, ts, tb, st, ro, mr, la, fu, dn, wr) = (.ok (), u')) : ∃ fu', u' = (bw, cw, ts, tb, st, v, mr, la, fu', dn, wr + 1) := by
  unfold cPutR at h
  cases ht : cTick (bw, cw, ts, tb, st, ro, mr, la, fu, dn, wr) with
  | mk r u1 =>
    cases r with
    | error e => rw [cB_err ht] at h; cases h
    | ok r =>
      obtain ⟨fu', rfl, -⟩ := tick_inv ht
      rw [cB_ok ht] at h
      cases h
      exact ⟨fu', rfl⟩
theorem cCopy_none {s b : Nat} {rep : Option Nat} {w : Int32} (h : cLF ts st = none) : cCopy s b rep w (bw, cw, ts, tb, st, ro, mr, la, fu, dn, wr) = (.ok (), (bw, cw, ts, tb, st, ro, mr, la, fu, dn, wr)) := by
  simp only [cCopy, h]
theorem cCopy_some {s b c : Nat} {rep : Option Nat} {w : Int32} (h : cLF ts st = some c) : cCopy s b rep w (bw, cw, ts, tb, st, ro, mr, la, fu, dn, wr) = cB (cFor (fun i => cPutC c i (if rep = some i then w else bw (b * 4 + i))) 4 0) (fun _ => cPutT c (st s) (nI b)) (bw, cw, ts, tb, st, ro, mr, la, fu, dn, wr) := by
  simp only [cCopy, h]
theorem cCopyIf_no {b s : Nat} (h : cShares ts tb st b s = false) : cCopyIf b s (bw, cw, ts, tb, st, ro, mr, la, fu, dn, wr) = (.ok 0, (bw, cw, ts, tb, st, ro, mr, la, fu, dn, wr)) := by
  simp [cCopyIf, h]
theorem cCopyIf_yes {b s : Nat} (h : cShares ts tb st b s = true) : cCopyIf b s (bw, cw, ts, tb, st, ro, mr, la, fu, dn, wr) = cB (cCopy s b none 0) (fun _ => cOk 1) (bw, cw, ts, tb, st, ro, mr, la, fu, dn, wr) := by
  simp [cCopyIf, h]
theorem cMerge1_none {s b : Nat} (h : cFind ts tb st s b = none) : cMerge1 s b (bw, cw, ts, tb, st, ro, mr, la, fu, dn, wr) = (.ok 0, (bw, cw, ts, tb, st, ro, mr, la, fu, dn, wr)) := by
  simp only [cMerge1, h]
theorem cMerge1_some {s b c : Nat} (h : cFind ts tb st s b = some c) : cMerge1 s b (bw, cw, ts, tb, st, ro, mr, la, fu, dn, wr) = cB (cCopies b) (fun _ => cB (cBack b c) (fun _ => cB (cPutM (b + 1)) (fun _ => cOk 1))) (bw, cw, ts, tb, st, ro, mr, la, fu, dn, wr) := by
  simp only [cMerge1, h]
end PUT
/-- the fuse is a number of Java's -/
def fB (u : SV) : Prop := match u with
  | (_, _, _, _, _, _, _, _, fu, _, _) => ∀ k, fu = some k → k < 2 ^ 31
section INV2
variable {bw cw ts tb st : Nat → Int32} {ro mr la : Nat} {fu : Option Nat} {dn : Bool} {wr : Nat} {u' : SV}
theorem putB_inv {b i : Nat} {w : Int32} (h : cPutB b i w (bw, cw, ts, tb, st, ro, mr, la, fu, dn, wr) = (.ok (), u')) : ∃ fu', u' = (upd bw (b * 4 + i) w, cw, ts, tb, st, ro, mr, la, fu', dn, wr + 1) := by
  unfold cPutB at h
  cases ht : cTick (bw, cw, ts, tb, st, ro, mr, la, fu, dn, wr) with
  | mk r u1 =>
    cases r with
    | error e => rw [cB_err ht] at h; cases h
    | ok r =>
      obtain ⟨fu', rfl, -⟩ := tick_inv ht
      rw [cB_ok ht] at h
      cases h
      exact ⟨fu', rfl⟩
theorem up_inv (h : cUp (bw, cw, ts, tb, st, ro, mr, la, fu, dn, wr) = (.ok (), u')) : u' = (bw, cw, ts, tb, st, ro, mr, la, fu, dn, wr) ∧ dn = false := by
  cases dn with
  | true => cases h
  | false => cases h; exact ⟨rfl, rfl⟩
theorem reqS_inv {x : Int32} (h : cReqS x (bw, cw, ts, tb, st, ro, mr, la, fu, dn, wr) = (.ok (), u')) : u' = (bw, cw, ts, tb, st, ro, mr, la, fu, dn, wr) ∧ cHas st x = true := by
  cases hx : cHas st x with
  | false => rw [reqS_no hx] at h; cases h
  | true => rw [reqS_ok hx] at h; cases h; exact ⟨rfl, rfl⟩
theorem reqB_inv {x : Int32} {u : SV} (h : cReqB x u = (.ok (), u')) : u' = u ∧ ∃ k, k < 6 ∧ x = nI k := by
  unfold cReqB at h
  cases hx : ixI x 6 with
  | none => rw [hx] at h; cases h
  | some k => rw [hx] at h; cases h; exact ⟨rfl, k, ixI_some (by decide) hx⟩
theorem reqB_yes {k : Nat} (hk : k < 6) (u : SV) : cReqB (nI k) u = (.ok (), u) := by
  unfold cReqB
  rw [ixI_nI hk (by decide)]
  rfl
theorem reqB_no {x : Int32} (h : ixI x 6 = none) (u : SV) : cReqB x u = (.error 1, u) := by
  unfold cReqB
  rw [h]
  rfl
theorem reqW_inv {x y : Int32} {u : SV} (h : cReqW x y u = (.ok (), u')) : u' = u ∧ (∃ k, k < 6 ∧ x = nI k) ∧ ∃ i, i < 4 ∧ y = nI i := by
  cases hx : ixI x 6 with
  | none => rw [reqW_no (Or.inl hx)] at h; cases h
  | some k =>
    cases hy : ixI y 4 with
    | none => rw [reqW_no (Or.inr hy)] at h; cases h
    | some i => rw [reqW_ok hx hy] at h; cases h; exact ⟨rfl, ⟨k, ixI_some (by decide) hx⟩, i, ixI_some (by decide) hy⟩
theorem reqF_inv {n : Nat} (h : cReqF n (bw, cw, ts, tb, st, ro, mr, la, fu, dn, wr) = (.ok (), u')) : u' = (bw, cw, ts, tb, st, ro, mr, la, fu, dn, wr) ∧ n ≤ cNF ts st := by
  by_cases hx : cNF ts st < n
  · rw [show cReqF n (bw, cw, ts, tb, st, ro, mr, la, fu, dn, wr) = (.error 2, _) from if_pos hx] at h; cases h
  · rw [show cReqF n (bw, cw, ts, tb, st, ro, mr, la, fu, dn, wr) = (.ok (), _) from if_neg hx] at h; cases h; exact ⟨rfl, by omega⟩
end INV2
def exN : List String := ["java/lang/RuntimeException", "java/lang/Exception"]
theorem cFor_z {τ : Type} {f : Nat → CM Unit} {k : Nat} {g : Unit → CM τ} {σ : SV} : cB (cFor f 0 k) g σ = g () σ := rfl
theorem cSum_z {τ : Type} {f : Nat → CM Nat} {k a : Nat} {g : Nat → CM τ} {σ : SV} : cB (cSum f 0 k a) g σ = g a σ := rfl
/-- one word of a block put back -/
def cBk (b c i : Nat) : CM Unit := fun σ => match σ with
  | (bw, cw, ts, tb, st, ro, mr, la, fu, dn, wr) => cPutB b i (cw (c * 4 + i)) (bw, cw, ts, tb, st, ro, mr, la, fu, dn, wr)
theorem cBack_eq (b c : Nat) : cBack b c = cFor (cBk b c) 4 0 := rfl
theorem has_ix {st : Nat → Int32} {x : Int32} (h : cHas st x = true) : ∃ k, k < 3 ∧ x = nI k := by
  cases hx : ixI x 3 with
  | none => rw [cHas_none hx] at h; cases h
  | some k => exact ⟨k, ixI_some (by decide) hx⟩
theorem sm_bound {f : Nat → Nat} {B : Nat} (h : ∀ k, f k ≤ B) : ∀ n, sm f n ≤ n * B := by
  intro n
  induction n with
  | zero => exact Nat.zero_le _
  | succ n ih =>
    show sm f n + f n ≤ (n + 1) * B
    have := h n
    rw [Nat.add_mul, Nat.one_mul]
    omega
theorem cNS_le (ts tb st : Nat → Int32) (b : Nat) : cNS ts tb st b ≤ 3 := cnt_le _ 3
theorem cNM_le (ts tb st : Nat → Int32) (s : Nat) : cNM ts tb st s ≤ 18 := by
  refine Nat.le_trans (sm_bound (B := 3) (fun k => ?_) 6) (by decide)
  show (if _ then _ else _) ≤ 3
  split
  · exact cNS_le _ _ _ _
  · exact Nat.zero_le _
theorem sh_pow {i : Nat} (hi : i < 3) : nI 1 <<< (nI i &&& 31) = nI (2 ^ i) := by
  have : i = 0 ∨ i = 1 ∨ i = 2 := by omega
  rcases this with rfl | rfl | rfl <;> decide
theorem fuse_cases {x : Int32} (h : ¬ x < oI none) : x = oI none ∨ ∃ k, k < 2 ^ 31 ∧ x = nI k := by
  have h1 : ¬ x < -1 := h
  by_cases h0 : x < 0
  · left
    show x = -1
    have e1 := Int32.lt_iff_toInt_lt.mp h0
    have e2 : ¬ x.toInt < (-1 : Int32).toInt := fun z => h1 (Int32.lt_iff_toInt_lt.mpr z)
    have e3 : (-1 : Int32).toInt = -1 := by decide
    have e4 : (0 : Int32).toInt = 0 := by decide
    rw [e3] at e2
    rw [e4] at e1
    exact Int32.toInt_inj.mp (by rw [e3]; omega)
  · right
    have e1 : ¬ x.toInt < (0 : Int32).toInt := fun z => h0 (Int32.lt_iff_toInt_lt.mpr z)
    have e4 : (0 : Int32).toInt = 0 := by decide
    rw [e4] at e1
    have e5 := Int32.toInt_lt x
    refine ⟨x.toInt.toNat, by omega, ?_⟩
    refine Int32.toInt_inj.mp ?_
    rw [nI_toInt (by omega)]
    omega
section FUS
variable {bw cw ts tb st : Nat → Int32} {ro mr la : Nat} {fu : Option Nat} {dn : Bool} {wr : Nat} {u' : SV}
theorem cFuse_no {x : Int32} (h : dn = true ∨ x < -1) : cFuse x (bw, cw, ts, tb, st, ro, mr, la, fu, dn, wr) = (false, (bw, cw, ts, tb, st, ro, mr, la, fu, dn, wr)) := if_pos h
theorem cFuse_off (h : dn = false) : cFuse (oI none) (bw, cw, ts, tb, st, ro, mr, la, fu, dn, wr) = (true, (bw, cw, ts, tb, st, ro, mr, la, none, dn, wr)) := by
  subst h
  rfl
theorem cFuse_k (h : dn = false) {k : Nat} (hk : k < 2 ^ 31) : cFuse (nI k) (bw, cw, ts, tb, st, ro, mr, la, fu, dn, wr) = (true, (bw, cw, ts, tb, st, ro, mr, la, some k, dn, wr)) := by
  have h1 : ¬ nI k < 0 := nI_pos hk
  have h2 : ¬ nI k < -1 := fun z => h1 (Int32.lt_trans z (by decide))
  subst h
  show (if (false = true ∨ nI k < -1) then _ else _) = _
  rw [if_neg (fun z => z.elim (fun z => by cases z) h2), if_neg h1, nI_clamp hk]
end FUS
/-- as a new volume is -/
def sv0 (u : SV) : Prop := match u with
  | (bw, cw, ts, tb, st, ro, mr, la, fu, dn, wr) => (∀ k, k < 24 → bw k = nI 0) ∧ (∀ k, k < 36 → cw k = nI 0) ∧ (∀ k, k < 9 → ts k = oI none) ∧ (∀ k, k < 9 → tb k = nI 0) ∧ (∀ k, k < 3 → st k = nI 0) ∧ ro = 0 ∧ mr = 0 ∧ la = 0 ∧ fu = none ∧ dn = false ∧ wr = 0
theorem upd_pre {f : Nat → Int32} {i : Nat} {x : Int32} (h : ∀ k, k < i → f k = x) : ∀ k, k < i + 1 → upd f i x k = x := by
  intro k hk
  unfold upd
  split
  · rfl
  · exact h k (by omega)
