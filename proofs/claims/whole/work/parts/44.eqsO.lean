theorem two {α β : Type} {f : α → Int32} {x : α × β} {a : α} {u : β} (h : x = (a, u)) : f a = f x.1 ∧ u = x.2 := by
  rw [h]
  exact ⟨rfl, rfl⟩
section OPS2
variable {co : Nat} {dn : Bool} {fu fl : Option Nat} {ct cl : Nat} {vo wo : Nat → Int32} {th : Nat → Bool} {ow : Nat → Nat} {ba mr : Nat} {dl : Bool} {x y z w : Int32} {b i s k ns nu : Nat}
theorem isW_no {α : Type} {f : Nat → Nat → α} {g : α} (h : ((ixI x 6).isSome && (ixI y 4).isSome) = false) : (match ixI x 6, ixI y 4 with
    | some b, some i => f b i
    | _, _ => g) = g := by
  cases hx : ixI x 6 with
  | none => rfl
  | some b =>
    cases hy : ixI y 4 with
    | none => rfl
    | some i => rw [hx, hy] at h; cases h
theorem mWrite_3 : mWrite x y w (co, true, fu, ct, vo, wo, th, ow, ba, mr) = (0, (3, true, fu, ct, vo, wo, th, ow, ba, mr)) := rfl
theorem mWrite_1 (h : ((ixI x 6).isSome && (ixI y 4).isSome) = false) : mWrite x y w (co, false, fu, ct, vo, wo, th, ow, ba, mr) = (0, (1, false, fu, ct, vo, wo, th, ow, ba, mr)) := isW_no h
theorem mWrite_2 (hb : b < 6) (hi : i < 4) (hns : mShr th ow b none = ns) (hnu : mUsed th ow = nu) (h : 9 - nu < ns) : mWrite (nI b) (nI i) w (co, false, fu, ct, vo, wo, th, ow, ba, mr) = (0, (2, false, fu, ct, vo, wo, th, ow, ba, mr)) := by
  simp only [mWrite, ixI_nI hb (show 6 < 2 ^ 31 by decide), ixI_nI hi (show 4 < 2 ^ 31 by decide), Bool.false_eq_true, if_false, hns, hnu, if_pos h]
theorem mWrite_y (hb : b < 6) (hi : i < 4) (hns : mShr th ow b none = ns) (hnu : mUsed th ow = nu) (h : ¬ 9 - nu < ns) (hl : mLast fu ct false (5 * ns + 1) = (true, fl, cl, dl)) : mWrite (nI b) (nI i) w (co, false, fu, ct, vo, wo, th, ow, ba, mr) = (ns, (0, dl, fl, cl, upd vo (4 * b + i) w, wo, th, mPart th ow b none ns, ba, mr)) := by
  simp only [mWrite, ixI_nI hb (show 6 < 2 ^ 31 by decide), ixI_nI hi (show 4 < 2 ^ 31 by decide), Bool.false_eq_true, if_false, hns, hnu, if_neg h, hl]
theorem mWrite_n (hb : b < 6) (hi : i < 4) (hns : mShr th ow b none = ns) (hnu : mUsed th ow = nu) (h : ¬ 9 - nu < ns) (hl : mLast fu ct false (5 * ns + 1) = (false, some k, cl, dl)) : mWrite (nI b) (nI i) w (co, false, fu, ct, vo, wo, th, ow, ba, mr) = (0, (3, dl, none, cl, vo, wo, th, mPart th ow b none (k / 5), ba, mr)) := by
  simp only [mWrite, ixI_nI hb (show 6 < 2 ^ 31 by decide), ixI_nI hi (show 4 < 2 ^ 31 by decide), Bool.false_eq_true, if_false, hns, hnu, if_neg h, hl, Option.getD_some]
theorem mRead_2 : mRead x y (co, true, fu, ct, vo, wo, th, ow, ba, mr) = (nI 0, (2, true, fu, ct, vo, wo, th, ow, ba, mr)) := rfl
theorem mRead_1 (h : ((ixI x 6).isSome && (ixI y 4).isSome) = false) : mRead x y (co, false, fu, ct, vo, wo, th, ow, ba, mr) = (nI 0, (1, false, fu, ct, vo, wo, th, ow, ba, mr)) := isW_no h
theorem mRead_0 (hb : b < 6) (hi : i < 4) : mRead (nI b) (nI i) (co, false, fu, ct, vo, wo, th, ow, ba, mr) = (vo (4 * b + i), (0, false, fu, ct, vo, wo, th, ow, ba, mr)) := by
  simp only [mRead, ixI_nI hb (show 6 < 2 ^ 31 by decide), ixI_nI hi (show 4 < 2 ^ 31 by decide), Bool.false_eq_true, if_false]
theorem mDrop_2 : mDrop x (co, true, fu, ct, vo, wo, th, ow, ba, mr) = (2, true, fu, ct, vo, wo, th, ow, ba, mr) := rfl
theorem mDrop_1 (h : (mHasS th x).isSome = false) : mDrop x (co, false, fu, ct, vo, wo, th, ow, ba, mr) = (1, false, fu, ct, vo, wo, th, ow, ba, mr) := by
  simp only [mDrop, none_of h, Bool.false_eq_true, if_false]
theorem mDrop_y (h : mHasS th x = some s) (hl : mLast fu ct false 1 = (true, fl, cl, dl)) : mDrop x (co, false, fu, ct, vo, wo, th, ow, ba, mr) = (0, dl, fl, cl, vo, wo, va_up th s false, ow, ba, mr) := by
  simp only [mDrop, h, hl, Bool.false_eq_true, if_false]
theorem mDrop_n (h : mHasS th x = some s) (hl : mLast fu ct false 1 = (false, fl, cl, dl)) : mDrop x (co, false, fu, ct, vo, wo, th, ow, ba, mr) = (2, dl, none, cl, vo, wo, th, ow, ba, mr) := by
  simp only [mDrop, h, hl, Bool.false_eq_true, if_false]
theorem mReadS_3 : mReadS z x y (co, true, fu, ct, vo, wo, th, ow, ba, mr) = (nI 0, (3, true, fu, ct, vo, wo, th, ow, ba, mr)) := rfl
theorem mReadS_1 (h : (mHasS th z).isSome = false) : mReadS z x y (co, false, fu, ct, vo, wo, th, ow, ba, mr) = (nI 0, (1, false, fu, ct, vo, wo, th, ow, ba, mr)) := by
  simp only [mReadS, none_of h, Bool.false_eq_true, if_false]
  rfl
theorem mReadS_2 (h : mHasS th z = some s) (h2 : ((ixI x 6).isSome && (ixI y 4).isSome) = false) : mReadS z x y (co, false, fu, ct, vo, wo, th, ow, ba, mr) = (nI 0, (2, false, fu, ct, vo, wo, th, ow, ba, mr)) := by
  simp only [mReadS, h, Bool.false_eq_true, if_false]
  exact isW_no h2
theorem mReadS_0 (h : mHasS th z = some s) (hb : b < 6) (hi : i < 4) : mReadS z (nI b) (nI i) (co, false, fu, ct, vo, wo, th, ow, ba, mr) = (wo (24 * s + 4 * b + i), (0, false, fu, ct, vo, wo, th, ow, ba, mr)) := by
  simp only [mReadS, h, ixI_nI hb (show 6 < 2 ^ 31 by decide), ixI_nI hi (show 4 < 2 ^ 31 by decide), Bool.false_eq_true, if_false]
theorem mWS_4 : mWriteS z x y w (co, true, fu, ct, vo, wo, th, ow, ba, mr) = (false, (4, true, fu, ct, vo, wo, th, ow, ba, mr)) := rfl
theorem mWS_1 (h : (mHasS th z).isSome = false) : mWriteS z x y w (co, false, fu, ct, vo, wo, th, ow, ba, mr) = (false, (1, false, fu, ct, vo, wo, th, ow, ba, mr)) := by
  simp only [mWriteS, none_of h, Bool.false_eq_true, if_false]
theorem mWS_2 (h : mHasS th z = some s) (h2 : ((ixI x 6).isSome && (ixI y 4).isSome) = false) : mWriteS z x y w (co, false, fu, ct, vo, wo, th, ow, ba, mr) = (false, (2, false, fu, ct, vo, wo, th, ow, ba, mr)) := by
  simp only [mWriteS, h, Bool.false_eq_true, if_false]
  exact isW_no h2
theorem mWS_3 (h : mHasS th z = some s) (hb : b < 6) (hi : i < 4) (h0 : ow (6 * s + b) = 0) (h9 : mUsed th ow = 9) : mWriteS z (nI b) (nI i) w (co, false, fu, ct, vo, wo, th, ow, ba, mr) = (false, (3, false, fu, ct, vo, wo, th, ow, ba, mr)) := by
  simp only [mWriteS, h, ixI_nI hb (show 6 < 2 ^ 31 by decide), ixI_nI hi (show 4 < 2 ^ 31 by decide), Bool.false_eq_true, if_false]
  rw [if_pos ⟨h0, h9⟩]
theorem mWS_y (h : mHasS th z = some s) (hb : b < 6) (hi : i < 4) (h0 : ow (6 * s + b) = 0) (h9 : ¬ mUsed th ow = 9) (hl : mLast fu ct false 5 = (true, fl, cl, dl)) : mWriteS z (nI b) (nI i) w (co, false, fu, ct, vo, wo, th, ow, ba, mr) = (true, (0, dl, fl, cl, vo, upd wo (24 * s + 4 * b + i) w, th, va_up ow (6 * s + b) (mLow th ow), ba, mr)) := by
  simp only [mWriteS, h, ixI_nI hb (show 6 < 2 ^ 31 by decide), ixI_nI hi (show 4 < 2 ^ 31 by decide), Bool.false_eq_true, if_false]
  rw [if_neg (fun q => h9 q.2), if_pos h0, if_pos h0, hl, decide_eq_true h0]
theorem mWS_yc (h : mHasS th z = some s) (hb : b < 6) (hi : i < 4) (h0 : ow (6 * s + b) = 0) (h9 : ¬ mUsed th ow = 9) (hl : mLast fu ct false 5 = (false, fl, cl, dl)) : mWriteS z (nI b) (nI i) w (co, false, fu, ct, vo, wo, th, ow, ba, mr) = (false, (4, dl, none, cl, vo, wo, th, ow, ba, mr)) := by
  simp only [mWriteS, h, ixI_nI hb (show 6 < 2 ^ 31 by decide), ixI_nI hi (show 4 < 2 ^ 31 by decide), Bool.false_eq_true, if_false]
  rw [if_neg (fun q => h9 q.2), if_pos h0, hl]
theorem mWS_n (h : mHasS th z = some s) (hb : b < 6) (hi : i < 4) (h0 : ¬ ow (6 * s + b) = 0) (hl : mLast fu ct false 1 = (true, fl, cl, dl)) : mWriteS z (nI b) (nI i) w (co, false, fu, ct, vo, wo, th, ow, ba, mr) = (false, (0, dl, fl, cl, vo, upd wo (24 * s + 4 * b + i) w, th, va_up ow (6 * s + b) (ow (6 * s + b)), ba, mr)) := by
  simp only [mWriteS, h, ixI_nI hb (show 6 < 2 ^ 31 by decide), ixI_nI hi (show 4 < 2 ^ 31 by decide), Bool.false_eq_true, if_false]
  rw [if_neg (fun q => h0 q.1), if_neg h0, if_neg h0, hl, decide_eq_false h0]
theorem mWS_nc (h : mHasS th z = some s) (hb : b < 6) (hi : i < 4) (h0 : ¬ ow (6 * s + b) = 0) (hl : mLast fu ct false 1 = (false, fl, cl, dl)) : mWriteS z (nI b) (nI i) w (co, false, fu, ct, vo, wo, th, ow, ba, mr) = (false, (4, dl, none, cl, vo, wo, th, ow, ba, mr)) := by
  simp only [mWriteS, h, ixI_nI hb (show 6 < 2 ^ 31 by decide), ixI_nI hi (show 4 < 2 ^ 31 by decide), Bool.false_eq_true, if_false]
  rw [if_neg (fun q => h0 q.1), if_neg h0, hl]
theorem mCopyOf_3 : mCopyOf x y (co, true, fu, ct, vo, wo, th, ow, ba, mr) = (some 0, (3, true, fu, ct, vo, wo, th, ow, ba, mr)) := rfl
theorem mCopyOf_1 (h : (mHasS th x).isSome = false) : mCopyOf x y (co, false, fu, ct, vo, wo, th, ow, ba, mr) = (some 0, (1, false, fu, ct, vo, wo, th, ow, ba, mr)) := by
  simp only [mCopyOf, none_of h, Bool.false_eq_true, if_false]
theorem mCopyOf_2 (h : mHasS th x = some s) (h2 : (ixI y 6).isSome = false) : mCopyOf x y (co, false, fu, ct, vo, wo, th, ow, ba, mr) = (some 0, (2, false, fu, ct, vo, wo, th, ow, ba, mr)) := by
  simp only [mCopyOf, h, none_of h2, Bool.false_eq_true, if_false]
theorem mCopyOf_0 (h : mHasS th x = some s) (hb : b < 6) (h0 : ow (6 * s + b) = 0) : mCopyOf x (nI b) (co, false, fu, ct, vo, wo, th, ow, ba, mr) = (none, (0, false, fu, ct, vo, wo, th, ow, ba, mr)) := by
  simp only [mCopyOf, h, ixI_nI hb (show 6 < 2 ^ 31 by decide), Bool.false_eq_true, if_false, h0]
theorem mCopyOf_k (h : mHasS th x = some s) (hb : b < 6) (h0 : ow (6 * s + b) = k + 1) : mCopyOf x (nI b) (co, false, fu, ct, vo, wo, th, ow, ba, mr) = (some k, (0, false, fu, ct, vo, wo, th, ow, ba, mr)) := by
  simp only [mCopyOf, h, ixI_nI hb (show 6 < 2 ^ 31 by decide), Bool.false_eq_true, if_false, h0]
theorem mPlaces_0 {p q r : Bool} (h0 : th 0 = p) (h1 : th 1 = q) (h2 : th 2 = r) : mPlaces (co, false, fu, ct, vo, wo, th, ow, ba, mr) = ((if p then 1 else 0) + (if q then 2 else 0) + (if r then 4 else 0), (0, false, fu, ct, vo, wo, th, ow, ba, mr)) := by
  simp only [mPlaces, Bool.false_eq_true, if_false, h0, h1, h2]
theorem mFuse_no (h : x < -1 ∨ dn = true) : mFuse x (co, dn, fu, ct, vo, wo, th, ow, ba, mr) = (false, (0, dn, fu, ct, vo, wo, th, ow, ba, mr)) := if_pos h
theorem mFuse_off : mFuse (oI none) (co, false, fu, ct, vo, wo, th, ow, ba, mr) = (true, (0, false, none, ct, vo, wo, th, ow, ba, mr)) := rfl
theorem mFuse_k (hk : k < 2 ^ 31) : mFuse (nI k) (co, false, fu, ct, vo, wo, th, ow, ba, mr) = (true, (0, false, some k, ct, vo, wo, th, ow, ba, mr)) := by
  have h1 : ¬ nI k < 0 := nI_pos hk
  have h2 : ¬ nI k < -1 := fun z => h1 (Int32.lt_trans z (by decide))
  show (if (nI k < -1 ∨ false = true) then _ else _) = _
  rw [if_neg (fun z => z.elim h2 (fun z => by cases z)), if_neg h1, nI_clamp hk]
theorem mRec_1 : mRec (co, false, fu, ct, vo, wo, th, ow, ba, mr) = (0, (1, false, fu, ct, vo, wo, th, ow, ba, mr)) := rfl
theorem mRec_z : mRec (co, true, fu, ct, vo, wo, th, ow, 0, mr) = (0, (0, false, fu, ct, vo, wo, th, ow, 0, mr)) := rfl
theorem mRec_s {n : Nat} {vo' : Nat → Int32} {ow' : Nat → Nat} (h : mRest th wo s (6 - mr) mr 0 vo ow = (n, vo', ow')) : mRec (co, true, fu, ct, vo, wo, th, ow, s + 1, mr) = (n, (0, false, fu, ct + mWF th ow s (6 - mr) mr + 1, vo', wo, th, ow', 0, mr)) := by
  simp only [mRec, if_true, h]
end OPS2
