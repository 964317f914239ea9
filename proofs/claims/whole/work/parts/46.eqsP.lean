theorem fillO_next {ow : Nat → Nat} {a i : Nat} (hi : i < 6) : fillO ow (a + i) (6 - i) = fillO (va_up ow (a + i) 0) (a + (i + 1)) (6 - (i + 1)) := by
  funext k
  unfold fillO va_up
  by_cases h1 : a + i ≤ k ∧ k < a + i + (6 - i)
  · rw [if_pos h1]
    by_cases h2 : a + (i + 1) ≤ k ∧ k < a + (i + 1) + (6 - (i + 1))
    · rw [if_pos h2]
    · rw [if_neg h2, if_pos (by omega)]
  · rw [if_neg h1, if_neg (by omega), if_neg (by omega)]
theorem fillO_end {ow : Nat → Nat} {a i : Nat} (hi : ¬ i < 6) : fillO ow (a + i) (6 - i) = ow := by
  funext k
  unfold fillO
  rw [if_neg (by omega)]
def fW (wo vo : Nat → Int32) (a i n : Nat) : Nat → Int32 := fun k => if a + i ≤ k ∧ k < a + i + n then vo (k - a) else wo k
theorem fW_next {wo vo : Nat → Int32} {a i : Nat} (hi : i < 24) : fW wo vo a i (24 - i) = fW (upd wo (a + i) (vo i)) vo a (i + 1) (24 - (i + 1)) := by
  funext k
  unfold fW upd
  by_cases h1 : a + i ≤ k ∧ k < a + i + (24 - i)
  · rw [if_pos h1]
    by_cases h2 : a + (i + 1) ≤ k ∧ k < a + (i + 1) + (24 - (i + 1))
    · rw [if_pos h2]
    · rw [if_neg h2, if_pos (by omega), show k - a = i by omega]
  · rw [if_neg h1, if_neg (by omega), if_neg (by omega)]
theorem fW_end {wo vo : Nat → Int32} {a i : Nat} (hi : ¬ i < 24) : fW wo vo a i (24 - i) = wo := by
  funext k
  unfold fW
  rw [if_neg (by omega)]
section OPS3
variable {co : Nat} {dn : Bool} {fu fl : Option Nat} {ct cl : Nat} {vo wo : Nat → Int32} {th : Nat → Bool} {ow : Nat → Nat} {ba mr : Nat} {dl : Bool} {x y z w : Int32} {b i s k ns nu n : Nat}
theorem mSnap_2 : mSnap (co, true, fu, ct, vo, wo, th, ow, ba, mr) = (0, (2, true, fu, ct, vo, wo, th, ow, ba, mr)) := rfl
theorem mSnap_1 (h : mLE th = 3) : mSnap (co, false, fu, ct, vo, wo, th, ow, ba, mr) = (0, (1, false, fu, ct, vo, wo, th, ow, ba, mr)) := by
  simp only [mSnap, Bool.false_eq_true, if_false, if_pos h]
theorem mSnap_y (h : mLE th = s) (hs : s < 3) (hl : mLast fu ct false 1 = (true, fl, cl, dl)) : mSnap (co, false, fu, ct, vo, wo, th, ow, ba, mr) = (s, (0, dl, fl, cl, vo, fillW wo vo (24 * s) 24, va_up th s true, fillO ow (6 * s) 6, ba, mr)) := by
  simp only [mSnap, Bool.false_eq_true, if_false, h, if_neg (show ¬ s = 3 by omega), hl]
theorem mSnap_n (h : mLE th = s) (hs : s < 3) (hl : mLast fu ct false 1 = (false, fl, cl, dl)) : mSnap (co, false, fu, ct, vo, wo, th, ow, ba, mr) = (0, (2, dl, none, cl, vo, wo, th, ow, ba, mr)) := by
  simp only [mSnap, Bool.false_eq_true, if_false, h, if_neg (show ¬ s = 3 by omega), hl]
theorem mChanged_2 : mChanged x (co, true, fu, ct, vo, wo, th, ow, ba, mr) = (0, (2, true, fu, ct, vo, wo, th, ow, ba, mr)) := rfl
theorem mChanged_1 (h : (mHasS th x).isSome = false) : mChanged x (co, false, fu, ct, vo, wo, th, ow, ba, mr) = (0, (1, false, fu, ct, vo, wo, th, ow, ba, mr)) := by
  simp only [mChanged, none_of h, Bool.false_eq_true, if_false]
theorem mChanged_0 (h : mHasS th x = some s) : mChanged x (co, false, fu, ct, vo, wo, th, ow, ba, mr) = (cnt (fun b => ! mSame vo wo s b) 6, (0, false, fu, ct, vo, wo, th, ow, ba, mr)) := by
  simp only [mChanged, h, Bool.false_eq_true, if_false]
theorem mNeed_le (th : Nat → Bool) (ow : Nat → Nat) (s : Nat) : mNeed th ow s ≤ 18 := by
  refine Nat.le_trans (sm_bound (B := 3) (fun k => ?_) 6) (by decide)
  show (if _ then _ else _) ≤ 3
  split
  · exact cnt_le _ 3
  · exact Nat.zero_le _
theorem mWF_le (th : Nat → Bool) (ow : Nat → Nat) (s : Nat) : ∀ n b, mWF th ow s n b ≤ n * 20 := by
  intro n
  induction n with
  | zero => intro b; exact Nat.zero_le _
  | succ n ih =>
    intro b
    show (if mHas ow s b = true then 5 * mShr th ow b (some s) + 5 else 0) + mWF th ow s n (b + 1) ≤ _
    have h1 := ih (b + 1)
    have h2 : mShr th ow b (some s) ≤ 3 := cnt_le _ 3
    split <;> omega
def fC (co : Nat) (dn : Bool) (fu : Option Nat) (ct : Nat) (wo : Nat → Int32) (th : Nat → Bool) (ba : Nat) (t : Nat × (Nat → Int32) × (Nat → Nat)) : Nat × SM := (0, (co, dn, fu, ct, t.2.1, wo, th, t.2.2, ba, t.1))
theorem mRoll_3 : mRoll x (co, true, fu, ct, vo, wo, th, ow, ba, mr) = (0, (3, true, fu, ct, vo, wo, th, ow, ba, mr)) := rfl
theorem mRoll_1 (h : (mHasS th x).isSome = false) : mRoll x (co, false, fu, ct, vo, wo, th, ow, ba, mr) = (0, (1, false, fu, ct, vo, wo, th, ow, ba, mr)) := by
  simp only [mRoll, none_of h, Bool.false_eq_true, if_false]
theorem mRoll_2 (h : mHasS th x = some s) (hnd : n = mNeed th ow s) (hnu : mUsed th ow = nu) (h2 : 9 - nu < n) : mRoll x (co, false, fu, ct, vo, wo, th, ow, ba, mr) = (0, (2, false, fu, ct, vo, wo, th, ow, ba, mr)) := by
  simp only [mRoll, h, Bool.false_eq_true, if_false, ← hnd, hnu, if_pos h2]
theorem mRoll_y {m : Nat} {vo' : Nat → Int32} {ow' : Nat → Nat} {f : Nat} (h : mHasS th x = some s) (hnd : n = mNeed th ow s) (hnu : mUsed th ow = nu) (h2 : ¬ 9 - nu < n) (hwf : mWF th ow s 6 0 = f) (hl : mLast fu ct false (3 + f) = (true, fl, cl, dl)) (hr : mRest th wo s (6 - 0) 0 0 vo ow = (m, vo', ow')) : mRoll x (co, false, fu, ct, vo, wo, th, ow, ba, mr) = (m, (0, dl, fl, cl, vo', wo, th, ow', ba, mr)) := by
  have hr' : mRest th wo s 6 0 0 vo ow = (m, vo', ow') := hr
  simp only [mRoll, h, Bool.false_eq_true, if_false, ← hnd, hnu, if_neg h2, hwf, hl, hr']
theorem mRoll_c {f : Nat} (h : mHasS th x = some s) (hnd : n = mNeed th ow s) (hnu : mUsed th ow = nu) (h2 : ¬ 9 - nu < n) (hwf : mWF th ow s 6 0 = f) (hl : mLast fu ct false (3 + f) = (false, some k, cl, dl)) (hk : k < 2) : mRoll x (co, false, fu, ct, vo, wo, th, ow, ba, mr) = (0, (3, dl, none, cl, vo, wo, th, ow, ba, mr)) := by
  simp only [mRoll, h, Bool.false_eq_true, if_false, ← hnd, hnu, if_neg h2, hwf, hl, Option.getD_some, if_pos hk]
theorem mRoll_k {f : Nat} (h : mHasS th x = some s) (hnd : n = mNeed th ow s) (hnu : mUsed th ow = nu) (h2 : ¬ 9 - nu < n) (hwf : mWF th ow s 6 0 = f) (hl : mLast fu ct false (3 + f) = (false, some k, cl, dl)) (hk : ¬ k < 2) : mRoll x (co, false, fu, ct, vo, wo, th, ow, ba, mr) = fC 3 dl none cl wo th (1 + s) (mCutL th wo s 6 0 (k - 2) 0 vo ow) := by
  simp only [mRoll, h, Bool.false_eq_true, if_false, ← hnd, hnu, if_neg h2, hwf, hl, Option.getD_some, if_neg hk]
  rfl
theorem mCut_no {lf : Nat} (h : mHas ow s b = false) : mCutL th wo s (n + 1) b lf mr vo ow = mCutL th wo s n (b + 1) lf mr vo ow := if_neg (by rw [h]; decide)
theorem mCut_yes {lf cp : Nat} (h : mHas ow s b = true) (hc : mShr th ow b (some s) = cp) (hl : 5 * cp + 5 ≤ lf) : mCutL th wo s (n + 1) b lf mr vo ow = mCutL th wo s n (b + 1) (lf - 5 * cp - 5) (b + 1) (mVol vo wo s b 4 0) (mPart th ow b (some s) 3) := by
  show (if mHas ow s b = true then (if 5 * mShr th ow b (some s) + 5 ≤ lf then mCutL th wo s n (b + 1) (lf - 5 * mShr th ow b (some s) - 5) (b + 1) (mVol vo wo s b 4 0) (mPart th ow b (some s) 3) else _) else _) = _
  rw [if_pos h, hc, if_pos hl]
theorem mCut_part {lf cp m : Nat} (h : mHas ow s b = true) (hc : mShr th ow b (some s) = cp) (hl : ¬ 5 * cp + 5 ≤ lf) (hm : (if lf / 5 < cp then lf / 5 else cp) = m) : mCutL th wo s (n + 1) b lf mr vo ow = (mr, vo, mPart th ow b (some s) m) := by
  unfold mCutL
  rw [if_pos h, hc, if_neg hl, hm]
end OPS3
