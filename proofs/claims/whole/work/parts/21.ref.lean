/-! ===== the reference as functions of its state ===== -/
def mUsed (th : Nat → Bool) (ow : Nat → Nat) : Nat := cnt (fun k => th (k / 6) && decide (0 < ow k)) 18
def mTkn (th : Nat → Bool) (ow : Nat → Nat) (c : Nat) : Bool := (List.range 18).any fun k => th (k / 6) && decide (ow k = c)
theorem mTkn_iff {th : Nat → Bool} {ow : Nat → Nat} {c : Nat} : mTkn th ow c = true ↔ ∃ k, k < 18 ∧ th (k / 6) = true ∧ ow k = c := by
  simp [mTkn]
def mLow (th : Nat → Bool) (ow : Nat → Nat) : Nat := (fst (fun c => ! mTkn th ow c) 10 1).getD 0
def mIsS (th : Nat → Bool) (but : Option Nat) (ow : Nat → Nat) (b s : Nat) : Bool := th s && decide (some s ≠ but) && decide (ow (6 * s + b) = 0)
def mShr (th : Nat → Bool) (ow : Nat → Nat) (b : Nat) (but : Option Nat) : Nat := cnt (mIsS th but ow b) 3
def mPartL (th : Nat → Bool) (b : Nat) (but : Option Nat) : Nat → Nat → Nat → (Nat → Nat) → (Nat → Nat)
  | 0, _, _, ow => ow
  | n + 1, s, left, ow => if left = 0 then ow else if mIsS th but ow b s then mPartL th b but n (s + 1) (left - 1) (va_up ow (6 * s + b) (mLow th ow)) else mPartL th b but n (s + 1) left ow
def mPart (th : Nat → Bool) (ow : Nat → Nat) (b : Nat) (but : Option Nat) (many : Nat) : Nat → Nat := mPartL th b but 3 0 many ow
def mHas (ow : Nat → Nat) (s b : Nat) : Bool := decide (0 < ow (6 * s + b))
def mWF (th : Nat → Bool) (ow : Nat → Nat) (s : Nat) : Nat → Nat → Nat
  | 0, _ => 0
  | n + 1, b => (if mHas ow s b then 5 * mShr th ow b (some s) + 5 else 0) + mWF th ow s n (b + 1)
/-- lasts(w): the answer, and fuse, count, down behind it -/
def mLast (fu : Option Nat) (ct : Nat) (dn : Bool) (w : Nat) : Bool × Option Nat × Nat × Bool := match fu with
  | none => (true, none, ct + w, dn)
  | some k => if w ≤ k then (true, some (k - w), ct + w, dn) else (false, some k, ct + k, true)
def mVol (vo wo : Nat → Int32) (s b : Nat) : Nat → Nat → (Nat → Int32)
  | 0, _ => vo
  | n + 1, i => mVol (upd vo (4 * b + i) (wo (24 * s + 4 * b + i))) wo s b n (i + 1)
