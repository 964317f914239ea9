/-! ===== the reference's calls: the answer (a natural, or an int), and the state behind it; the state's first part is the code ===== -/
def mWrite (b i w : Int32) : SM → Nat × SM := fun A => match A with
  | (_, dn, fu, ct, vo, wo, th, ow, ba, mr) => if dn then (0, (3, dn, fu, ct, vo, wo, th, ow, ba, mr)) else match ixI b 6, ixI i 4 with
    | some b, some i => if 9 - mUsed th ow < mShr th ow b none then (0, (2, dn, fu, ct, vo, wo, th, ow, ba, mr)) else match mLast fu ct dn (5 * mShr th ow b none + 1) with
      | (true, fu', ct', dn') => (mShr th ow b none, (0, dn', fu', ct', upd vo (4 * b + i) w, wo, th, mPart th ow b none (mShr th ow b none), ba, mr))
      | (false, fu', ct', dn') => (0, (3, dn', none, ct', vo, wo, th, mPart th ow b none (fu'.getD 0 / 5), ba, mr))
    | _, _ => (0, (1, dn, fu, ct, vo, wo, th, ow, ba, mr))
def mRead (b i : Int32) : SM → Int32 × SM := fun A => match A with
  | (_, dn, fu, ct, vo, wo, th, ow, ba, mr) => if dn then (0, (2, dn, fu, ct, vo, wo, th, ow, ba, mr)) else match ixI b 6, ixI i 4 with
    | some b, some i => (vo (4 * b + i), (0, dn, fu, ct, vo, wo, th, ow, ba, mr))
    | _, _ => (0, (1, dn, fu, ct, vo, wo, th, ow, ba, mr))
def mLE (th : Nat → Bool) : Nat := if th 0 then (if th 1 then (if th 2 then 3 else 2) else 1) else 0
def fillO (ow : Nat → Nat) (a n : Nat) : Nat → Nat := fun k => if a ≤ k ∧ k < a + n then 0 else ow k
def fillW (wo vo : Nat → Int32) (a n : Nat) : Nat → Int32 := fun k => if a ≤ k ∧ k < a + n then vo (k - a) else wo k
def mSnap : SM → Nat × SM := fun A => match A with
  | (_, dn, fu, ct, vo, wo, th, ow, ba, mr) => if dn then (0, (2, dn, fu, ct, vo, wo, th, ow, ba, mr)) else if mLE th = 3 then (0, (1, dn, fu, ct, vo, wo, th, ow, ba, mr)) else match mLast fu ct dn 1 with
    | (true, fu', ct', dn') => (mLE th, (0, dn', fu', ct', vo, fillW wo vo (24 * mLE th) 24, va_up th (mLE th) true, fillO ow (6 * mLE th) 6, ba, mr))
    | (false, _, ct', dn') => (0, (2, dn', none, ct', vo, wo, th, ow, ba, mr))
def mHasS (th : Nat → Bool) (s : Int32) : Option Nat := match ixI s 3 with
  | some k => if th k then some k else none
  | none => none
def mDrop (s : Int32) : SM → SM := fun A => match A with
  | (_, dn, fu, ct, vo, wo, th, ow, ba, mr) => if dn then (2, dn, fu, ct, vo, wo, th, ow, ba, mr) else match mHasS th s with
    | none => (1, dn, fu, ct, vo, wo, th, ow, ba, mr)
    | some s => match mLast fu ct dn 1 with
      | (true, fu', ct', dn') => (0, dn', fu', ct', vo, wo, va_up th s false, ow, ba, mr)
      | (false, _, ct', dn') => (2, dn', none, ct', vo, wo, th, ow, ba, mr)
def mReadS (s b i : Int32) : SM → Int32 × SM := fun A => match A with
  | (_, dn, fu, ct, vo, wo, th, ow, ba, mr) => if dn then (0, (3, dn, fu, ct, vo, wo, th, ow, ba, mr)) else match mHasS th s with
    | none => (0, (1, dn, fu, ct, vo, wo, th, ow, ba, mr))
    | some s => match ixI b 6, ixI i 4 with
      | some b, some i => (wo (24 * s + 4 * b + i), (0, dn, fu, ct, vo, wo, th, ow, ba, mr))
      | _, _ => (0, (2, dn, fu, ct, vo, wo, th, ow, ba, mr))
def mWriteS (s b i w : Int32) : SM → Bool × SM := fun A => match A with
  | (_, dn, fu, ct, vo, wo, th, ow, ba, mr) => if dn then (false, (4, dn, fu, ct, vo, wo, th, ow, ba, mr)) else match mHasS th s with
    | none => (false, (1, dn, fu, ct, vo, wo, th, ow, ba, mr))
    | some s => match ixI b 6, ixI i 4 with
      | some b, some i => if ow (6 * s + b) = 0 ∧ mUsed th ow = 9 then (false, (3, dn, fu, ct, vo, wo, th, ow, ba, mr)) else match mLast fu ct dn (if ow (6 * s + b) = 0 then 5 else 1) with
        | (true, fu', ct', dn') => (decide (ow (6 * s + b) = 0), (0, dn', fu', ct', vo, upd wo (24 * s + 4 * b + i) w, th, va_up ow (6 * s + b) (if ow (6 * s + b) = 0 then mLow th ow else ow (6 * s + b)), ba, mr))
        | (false, _, ct', dn') => (false, (4, dn', none, ct', vo, wo, th, ow, ba, mr))
      | _, _ => (false, (2, dn, fu, ct, vo, wo, th, ow, ba, mr))
def mNeed (th : Nat → Bool) (ow : Nat → Nat) (s : Nat) : Nat := sm (fun b => if mHas ow s b then mShr th ow b (some s) else 0) 6
def mRoll (s : Int32) : SM → Nat × SM := fun A => match A with
  | (_, dn, fu, ct, vo, wo, th, ow, ba, mr) => if dn then (0, (3, dn, fu, ct, vo, wo, th, ow, ba, mr)) else match mHasS th s with
    | none => (0, (1, dn, fu, ct, vo, wo, th, ow, ba, mr))
    | some s => if 9 - mUsed th ow < mNeed th ow s then (0, (2, dn, fu, ct, vo, wo, th, ow, ba, mr)) else match mLast fu ct dn (3 + mWF th ow s 6 0) with
      | (true, fu', ct', dn') => match mRest th wo s 6 0 0 vo ow with
        | (n, vo', ow') => (n, (0, dn', fu', ct', vo', wo, th, ow', ba, mr))
      | (false, fu', ct', dn') => if fu'.getD 0 < 2 then (0, (3, dn', none, ct', vo, wo, th, ow, ba, mr)) else match mCutL th wo s 6 0 (fu'.getD 0 - 2) 0 vo ow with
        | (mr', vo', ow') => (0, (3, dn', none, ct', vo', wo, th, ow', 1 + s, mr'))
def mRec : SM → Nat × SM := fun A => match A with
  | (_, dn, fu, ct, vo, wo, th, ow, ba, mr) => if dn then (match ba with
    | 0 => (0, (0, false, fu, ct, vo, wo, th, ow, 0, mr))
    | s + 1 => match mRest th wo s (6 - mr) mr 0 vo ow with
      | (n, vo', ow') => (n, (0, false, fu, ct + mWF th ow s (6 - mr) mr + 1, vo', wo, th, ow', 0, mr))) else (0, (1, dn, fu, ct, vo, wo, th, ow, ba, mr))
def mFuse (n : Int32) : SM → Bool × SM := fun A => match A with
  | (_, dn, fu, ct, vo, wo, th, ow, ba, mr) => if n < -1 ∨ dn = true then (false, (0, dn, fu, ct, vo, wo, th, ow, ba, mr)) else (true, (0, dn, (if n < 0 then none else some n.toNatClampNeg), ct, vo, wo, th, ow, ba, mr))
def mUsedC : SM → Nat × SM := fun A => match A with
  | (_, dn, fu, ct, vo, wo, th, ow, ba, mr) => if dn then (0, (1, dn, fu, ct, vo, wo, th, ow, ba, mr)) else (mUsed th ow, (0, dn, fu, ct, vo, wo, th, ow, ba, mr))
def mCopyOf (s b : Int32) : SM → Option Nat × SM := fun A => match A with
  | (_, dn, fu, ct, vo, wo, th, ow, ba, mr) => if dn then (some 0, (3, dn, fu, ct, vo, wo, th, ow, ba, mr)) else match mHasS th s with
    | none => (some 0, (1, dn, fu, ct, vo, wo, th, ow, ba, mr))
    | some s => match ixI b 6 with
      | some b => ((match ow (6 * s + b) with
        | 0 => none
        | c + 1 => some c), (0, dn, fu, ct, vo, wo, th, ow, ba, mr))
      | none => (some 0, (2, dn, fu, ct, vo, wo, th, ow, ba, mr))
def mPlaces : SM → Nat × SM := fun A => match A with
  | (_, dn, fu, ct, vo, wo, th, ow, ba, mr) => if dn then (0, (1, dn, fu, ct, vo, wo, th, ow, ba, mr)) else ((if th 0 then 1 else 0) + (if th 1 then 2 else 0) + (if th 2 then 4 else 0), (0, dn, fu, ct, vo, wo, th, ow, ba, mr))
def mSame (vo wo : Nat → Int32) (s b : Nat) : Bool := (List.range 4).all fun i => decide (wo (24 * s + 4 * b + i) = vo (4 * b + i))
def mChanged (s : Int32) : SM → Nat × SM := fun A => match A with
  | (_, dn, fu, ct, vo, wo, th, ow, ba, mr) => if dn then (0, (2, dn, fu, ct, vo, wo, th, ow, ba, mr)) else match mHasS th s with
    | none => (0, (1, dn, fu, ct, vo, wo, th, ow, ba, mr))
    | some s => (cnt (fun b => ! mSame vo wo s b) 6, (0, dn, fu, ct, vo, wo, th, ow, ba, mr))
/-! ===== what ties the two between calls ===== -/
def Rel (N : Nat) (σ : SV) (A : SM) : Prop := match σ, A with
  | (bw, cw, ts, tb, st, ro, mr, la, fu, dn, wr), (_, dn', fu', ct, vo, wo, th, ow, ba, mr') =>
    dn' = dn ∧ fu' = fu ∧ ct = wr ∧ (∀ k, fu = some k → k < 2 ^ 31) ∧ la ≤ N ∧ rB bw cw ts tb st la wo th ow ∧ ba = ro ∧ (dn = false → ro = 0) ∧ (ro = 0 → rV bw vo) ∧ (dn = true → fu = none) ∧
      (∀ r, ro = r + 1 → r < 3 ∧ st r ≠ 0 ∧ mr' = mr ∧ mr ≤ 6 ∧ dV ts tb st r mr bw vo ∧ nd ts tb st r (6 - mr) mr ≤ cNF ts st)
