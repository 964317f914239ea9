section PART2
variable {th : Nat → Bool} {ow : Nat → Nat} {but : Option Nat} {b s left n : Nat}
theorem partL_yes (h0 : left ≠ 0) (h : mIsS th but ow b s = true) : mPartL th b but (n + 1) s left ow = mPartL th b but n (s + 1) (left - 1) (va_up ow (6 * s + b) (mLow th ow)) := by
  show (if left = 0 then ow else if mIsS th but ow b s = true then mPartL th b but n (s + 1) (left - 1) (va_up ow (6 * s + b) (mLow th ow)) else mPartL th b but n (s + 1) left ow) = _
  rw [if_neg h0, if_pos h]
theorem partL_no (h0 : left ≠ 0) (h : mIsS th but ow b s = false) : mPartL th b but (n + 1) s left ow = mPartL th b but n (s + 1) left ow := by
  show (if left = 0 then ow else if mIsS th but ow b s = true then mPartL th b but n (s + 1) (left - 1) (va_up ow (6 * s + b) (mLow th ow)) else mPartL th b but n (s + 1) left ow) = _
  rw [if_neg h0, if_neg (by rw [h]; decide)]
theorem partL_z : mPartL th b but (n + 1) s 0 ow = ow := if_pos rfl
theorem cntR_yes {p : Nat → Bool} (h : p s = true) : cntR p (n + 1) s = 1 + cntR p n (s + 1) := by
  show (if p s = true then 1 else 0) + cntR p n (s + 1) = _
  rw [if_pos h]
theorem cntR_no {p : Nat → Bool} (h : p s = false) : cntR p (n + 1) s = cntR p n (s + 1) := by
  show (if p s = true then 1 else 0) + cntR p n (s + 1) = _
  rw [if_neg (by rw [h]; decide), Nat.zero_add]
theorem oB_up {k : Nat} (h1 : oB th ow) (h2 : mUsed th ow ≤ 8) : oB th (va_up ow k (mLow th ow)) := by
  intro j hj ht
  have := mLow_le h2
  unfold va_up
  split
  · omega
  · exact h1 j hj ht
theorem mNd_yes (h : mHas ow s b = true) : mNd th ow s (n + 1) b = mShr th ow b (some s) + mNd th ow s n (b + 1) := by
  show (if mHas ow s b = true then mShr th ow b (some s) else 0) + _ = _
  rw [if_pos h]
theorem mNd_no (h : mHas ow s b = false) : mNd th ow s (n + 1) b = mNd th ow s n (b + 1) := by
  show (if mHas ow s b = true then mShr th ow b (some s) else 0) + _ = _
  rw [if_neg (by rw [h]; decide), Nat.zero_add]
theorem mRest_yes {wo vo : Nat → Int32} {a : Nat} (h : mHas ow s b = true) : mRest th wo s (n + 1) b a vo ow = mRest th wo s n (b + 1) (a + 1) (mVol vo wo s b 4 0) (mPart th ow b (some s) 3) := if_pos h
theorem mRest_no {wo vo : Nat → Int32} {a : Nat} (h : mHas ow s b = false) : mRest th wo s (n + 1) b a vo ow = mRest th wo s n (b + 1) a vo ow := if_neg (by rw [h]; decide)
/-- what a part leaves for the blocks behind -/
theorem mNd_part {many : Nat} (hb : b < 6) (h1 : oB th ow) (h2 : mUsed th ow + (mShr th ow b (some s) + mNd th ow s (6 - (b + 1)) (b + 1)) ≤ 9) : oB th (mPart th ow b (some s) many) ∧ mUsed th (mPart th ow b (some s) many) + mNd th (mPart th ow b (some s) many) s (6 - (b + 1)) (b + 1) ≤ 9 := by
  have q := mPart_ok (many := many) hb h1 (show mUsed th ow + mShr th ow b (some s) ≤ 9 by omega)
  refine ⟨q.1, ?_⟩
  rw [mNd_out (ow := ow) (b := b) (fun s' b' hb' hne => mPart_out hb hb' hne) (by omega) (by omega)]
  omega
end PART2
theorem isS_false {th : Nat → Bool} {ow : Nat → Nat} {but : Option Nat} {b s : Nat} (h : th s = false ∨ but = some s ∨ ow (6 * s + b) ≠ 0) : mIsS th but ow b s = false := by
  unfold mIsS
  rcases h with h | h | h
  · rw [h]; rfl
  · rw [h]; simp
  · rw [decide_eq_false h]; exact Bool.and_false _
theorem cntR_next {th : Nat → Bool} {ow : Nat → Nat} {but : Option Nat} {b s n : Nat} (hs : mIsS th but ow b s = true) (h : mUsed th ow + cntR (mIsS th but ow b) (n + 1) s ≤ 9) : mUsed th (va_up ow (6 * s + b) (mLow th ow)) + cntR (mIsS th but (va_up ow (6 * s + b) (mLow th ow)) b) n (s + 1) ≤ 9 := by
  rw [cntR_yes hs] at h
  have := mUsed_up th ow (6 * s + b) (mLow th ow)
  rw [cntR_up (show s < s + 1 by omega)]
  omega
