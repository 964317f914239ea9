/-! ===== merging ===== -/
def rV (bw vo : Nat → Int32) : Prop := ∀ j, j < 24 → vo j = bw j
theorem mVol_in {vo wo : Nat → Int32} {s b i : Nat} (hi : i < 4) : mVol vo wo s b 4 0 (4 * b + i) = wo (24 * s + 4 * b + i) := by
  rcases (show i = 0 ∨ i = 1 ∨ i = 2 ∨ i = 3 by omega) with rfl | rfl | rfl | rfl <;> simp [mVol, upd]
theorem mVol_out {vo wo : Nat → Int32} {s b j : Nat} (h : j < 4 * b ∨ 4 * b + 4 ≤ j) : mVol vo wo s b 4 0 j = vo j := by
  simp only [mVol, upd]
  rw [if_neg (by omega), if_neg (by omega), if_neg (by omega), if_neg (by omega)]
theorem m_is_none {ts tb st : Nat → Int32} {th : Nat → Bool} {ow : Nat → Nat} (hO : rOw ts tb st th ow) {b s : Nat} (hb : b < 6) (hs : s < 3) : mIsS th none ow b s = cShares ts tb st b s := by
  unfold mIsS cShares
  rw [hO.1 s hs]
  by_cases h0 : st s = 0
  · simp [h0]
  · rw [hO.2 s hs h0 b hb]
    cases cFind ts tb st s b <;> simp [h0]
theorem m_is_some {ts tb st : Nat → Int32} {th : Nat → Bool} {ow : Nat → Nat} (hO : rOw ts tb st th ow) {b s s0 c : Nat} (hb : b < 6) (hs : s < 3) (hf : cFind ts tb st s0 b = some c) : mIsS th (some s0) ow b s = cShares ts tb st b s := by
  rw [← m_is_none hO hb hs]
  by_cases e : s = s0
  · subst e
    rw [m_is_none hO hb hs]
    unfold cShares mIsS
    rw [hf]
    simp
  · unfold mIsS
    have e1 : (some s = some s0) = False := by simp [e]
    simp [e]
theorem ns_R (ts tb st : Nat → Int32) (b : Nat) : cNS ts tb st b = cntR (cShares ts tb st b) 3 0 := cnt3 _
section MG
variable {bw cw ts tb st wo vo : Nat → Int32} {la ro mr : Nat} {fu : Option Nat} {dn : Bool} {wr : Nat} {th : Nat → Bool} {ow : Nat → Nat}
/-- block b is put back where no place shares it -/
theorem back_rel {b : Nat} {bw' : Nat → Int32} (hB : rB bw cw ts tb st la wo th ow) (hsh : ∀ s, s < 3 → cShares ts tb st b s = false) (hw : ∀ j, j < b * 4 ∨ b * 4 + 4 ≤ j → bw' j = bw j) : rB bw' cw ts tb st la wo th ow := by
  refine ⟨hB.1, hB.2.1, fun s hs h0 b' hb' i hi => ?_⟩
  rw [hB.2.2 s hs h0 b' hb' i hi]
  unfold cWord
  cases hx : cFind ts tb st s b' with
  | some c => rfl
  | none =>
    have hne : b' ≠ b := fun e => by
      subst e
      have := hsh s hs
      unfold cShares at this
      rw [hx] at this
      simp [h0] at this
    show bw (b' * 4 + i) = bw' (b' * 4 + i)
    rw [hw _ (by omega)]
theorem merge1_ok {s b c : Nat} (hB : rB bw cw ts tb st la wo th ow) (hs : s < 3) (hb : b < 6) (hf : cFind ts tb st s b = some c) (hN : cNS ts tb st b ≤ cNF ts st) (hL : fL fu (5 * cNS ts tb st b + 5)) (hV : ∀ j, j < 24 → (j < 4 * b ∨ 4 * b + 4 ≤ j) → vo j = bw j) :
    ∃ (bw' cw' ts' tb' : Nat → Int32), cMerge1 s b (bw, cw, ts, tb, st, ro, mr, la, fu, dn, wr) = (.ok 1, (bw', cw', ts', tb', st, ro, b + 1, la, fT fu (5 * cNS ts tb st b + 5), dn, wr + (5 * cNS ts tb st b + 5))) ∧
      rB bw' cw' ts' tb' st la wo th (mPart th ow b (some s) 3) ∧ rV bw' (mVol vo wo s b 4 0) ∧ kFind b ts tb ts' tb' st ∧ cNF ts' st + cNS ts tb st b = cNF ts st := by
  have hN3 : cntR (cShares ts tb st b) 3 0 ≤ 3 := by
    rw [← cnt3]; exact cnt_le _ 3
  rw [ns_R] at hN hL ⊢
  obtain ⟨hL1, hL2⟩ := fL_T hL
  obtain ⟨hL3, hL4⟩ := fL_T (a := 4) (b := 1) hL2
  obtain ⟨cw', ts', tb', ow', r1, r2, r3, r4, r5, r6, r7⟩ := (copies_run (but := some s) (wo := wo) (th := th) hb 3 0 0 bw cw ts tb ro mr fu dn wr ow rfl hB (fun s' hs' => m_is_some hB.2.1 hb hs' hf) hN).1 hL1
  have hf' : cFind ts' tb' st s b = some c := by rw [r4 s hs b hb (Or.inr (by rw [hf]; exact fun z => by cases z)), hf]
  have hsh : ∀ s', s' < 3 → cShares ts' tb' st b s' = false := fun s' hs' => r5 s' (Nat.zero_le _) hs'
  have eow : mPart th ow b (some s) 3 = ow' := r2 3 hN3
  refine ⟨cC bw b (fun i => cw' (c * 4 + i)), cw', ts', tb', ?_, ?_, fun j hj => ?_, r4, r7⟩
  · show (match cFind ts tb st s b with
      | none => (Except.ok 0, (bw, cw, ts, tb, st, ro, mr, la, fu, dn, wr))
      | some c => cB (cCopies b) (fun _ => cB (cBack b c) (fun _ => cB (cPutM (b + 1)) (fun _ => cOk 1))) (bw, cw, ts, tb, st, ro, mr, la, fu, dn, wr)) = _
    rw [hf]
    show cB (cCopies b) (fun _ => cB (cBack b c) (fun _ => cB (cPutM (b + 1)) (fun _ => cOk 1))) (bw, cw, ts, tb, st, ro, mr, la, fu, dn, wr) = _
    rw [cB_ok (show cCopies b (bw, cw, ts, tb, st, ro, mr, la, fu, dn, wr) = _ from r1), cB_ok (back_ok hL3)]
    have hp : cPutM (b + 1) (cC bw b (fun i => cw' (c * 4 + i)), cw', ts', tb', st, ro, mr, la, fT (fT fu (5 * cntR (cShares ts tb st b) 3 0)) 4, dn, wr + 5 * cntR (cShares ts tb st b) 3 0 + 4) = (.ok (), (cC bw b (fun i => cw' (c * 4 + i)), cw', ts', tb', st, ro, b + 1, la, fT fu (5 * cntR (cShares ts tb st b) 3 0 + 5), dn, wr + (5 * cntR (cShares ts tb st b) 3 0 + 5))) := by
      unfold cPutM
      rw [cB_ok (tick_ok hL4)]
      rw [fT_T, fT_T]
      rfl
    rw [cB_ok hp]
    rfl
  · rw [eow]
    exact back_rel r3 hsh (fun j hj => cC_out hj)
  · have ej : 4 * (j / 4) + j % 4 = j := by omega
    by_cases e : j / 4 = b
    · have h1 : mVol vo wo s b 4 0 j = wo (24 * s + 4 * b + j % 4) := by
        have := mVol_in (vo := vo) (wo := wo) (s := s) (b := b) (i := j % 4) (by omega)
        rw [show 4 * b + j % 4 = j by omega] at this
        exact this
      have h2 : cC bw b (fun i => cw' (c * 4 + i)) j = cw' (c * 4 + j % 4) := by
        have := cC_in (f := bw) (g := fun i => cw' (c * 4 + i)) (c := b) (i := j % 4) (by omega)
        rw [show b * 4 + j % 4 = j by omega] at this
        exact this
      rw [h1, h2, r3.2.2 s hs (find_some hf).1 b hb (j % 4) (by omega)]
      unfold cWord
      rw [hf']
    · rw [mVol_out (by omega), cC_out (by omega)]
      exact hV j hj (by omega)
theorem merge1_cut {s b c k : Nat} (hB : rB bw cw ts tb st la wo th ow) (hs : s < 3) (hb : b < 6) (hf : cFind ts tb st s b = some c) (hN : cNS ts tb st b ≤ cNF ts st) (hk : k < 5 * cNS ts tb st b + 5) (hV : ∀ j, j < 24 → (j < 4 * b ∨ 4 * b + 4 ≤ j) → vo j = bw j) :
    ∃ (bw' cw' ts' tb' : Nat → Int32) (d : Nat), cMerge1 s b (bw, cw, ts, tb, st, ro, mr, la, some k, dn, wr) = (.error 0, (bw', cw', ts', tb', st, ro, mr, la, none, true, wr + k)) ∧ d = (if k / 5 < cNS ts tb st b then k / 5 else cNS ts tb st b) ∧
      rB bw' cw' ts' tb' st la wo th (mPart th ow b (some s) d) ∧ (∀ j, j < 24 → (j < 4 * b ∨ 4 * b + 4 ≤ j) → vo j = bw' j) ∧ kFind b ts tb ts' tb' st ∧ cNF ts' st + d = cNF ts st ∧ cNS ts' tb' st b + d = cNS ts tb st b := by
  have hN3 : cntR (cShares ts tb st b) 3 0 ≤ 3 := by
    rw [← cnt3]; exact cnt_le _ 3
  rw [ns_R] at hN hk ⊢
  have hmerge : ∀ fu', cMerge1 s b (bw, cw, ts, tb, st, ro, mr, la, fu', dn, wr) = cB (cCopies b) (fun _ => cB (cBack b c) (fun _ => cB (cPutM (b + 1)) (fun _ => cOk 1))) (bw, cw, ts, tb, st, ro, mr, la, fu', dn, wr) := by
    intro fu'
    show (match cFind ts tb st s b with
      | none => (Except.ok 0, (bw, cw, ts, tb, st, ro, mr, la, fu', dn, wr))
      | some c => cB (cCopies b) (fun _ => cB (cBack b c) (fun _ => cB (cPutM (b + 1)) (fun _ => cOk 1))) (bw, cw, ts, tb, st, ro, mr, la, fu', dn, wr)) = _
    rw [hf]
  have hrun := copies_run (but := some s) (wo := wo) (th := th) hb 3 0 0 bw cw ts tb ro mr (some k) dn wr ow rfl hB (fun s' hs' => m_is_some hB.2.1 hb hs' hf) hN
  rcases Nat.lt_or_ge k (5 * cntR (cShares ts tb st b) 3 0) with h5 | h5
  · obtain ⟨cw', ts', tb', ow', r1, r2, r3, r4, r5, r6, r7⟩ := hrun.2 k rfl h5
    refine ⟨bw, cw', ts', tb', k / 5, ?_, (if_pos (by omega)).symm, ?_, hV, r4, r5, ?_⟩
    · rw [hmerge]
      exact cB_err (show cCopies b (bw, cw, ts, tb, st, ro, mr, la, some k, dn, wr) = _ from r1)
    · rw [show mPart th ow b (some s) (k / 5) = ow' from r2]
      exact r3
    · rw [ns_R]; exact r6
  · obtain ⟨cw', ts', tb', ow', r1, r2, r3, r4, r5, r6, r7⟩ := hrun.1 (fun j e => by cases e; exact h5)
    have hsh : ∀ s', s' < 3 → cShares ts' tb' st b s' = false := fun s' hs' => r5 s' (Nat.zero_le _) hs'
    have hns : cNS ts' tb' st b = 0 := cnt_zero (fun j hj => hsh j hj)
    have e0 : cCopies b (bw, cw, ts, tb, st, ro, mr, la, some k, dn, wr) = (.ok (0 + cntR (cShares ts tb st b) 3 0), (bw, cw', ts', tb', st, ro, mr, la, some (k - 5 * cntR (cShares ts tb st b) 3 0), dn, wr + 5 * cntR (cShares ts tb st b) 3 0)) := r1
    have hd : cntR (cShares ts tb st b) 3 0 = (if k / 5 < cntR (cShares ts tb st b) 3 0 then k / 5 else cntR (cShares ts tb st b) 3 0) := by
      rw [if_neg (by omega)]
    rcases Nat.lt_or_ge (k - 5 * cntR (cShares ts tb st b) 3 0) 4 with h4 | h4
    · obtain ⟨bw', hw, hcut⟩ := back_cut (bw := bw) (cw := cw') (ts := ts') (tb := tb') (st := st) (ro := ro) (mr := mr) (la := la) (dn := dn) (wr := wr + 5 * cntR (cShares ts tb st b) 3 0) (b := b) (c := c) h4
      refine ⟨bw', cw', ts', tb', cntR (cShares ts tb st b) 3 0, ?_, hd, ?_, fun j hj h => ?_, r4, r7, by rw [hns]; omega⟩
      · rw [hmerge, cB_ok e0, cB_err hcut, show wr + 5 * cntR (cShares ts tb st b) 3 0 + (k - 5 * cntR (cShares ts tb st b) 3 0) = wr + k by omega]
      · rw [show mPart th ow b (some s) (cntR (cShares ts tb st b) 3 0) = ow' from r2 _ (Nat.le_refl _)]
        exact back_rel r3 hsh hw
      · rw [hw j (by omega)]
        exact hV j hj h
    · have e4 : k - 5 * cntR (cShares ts tb st b) 3 0 = 4 := by omega
      rw [e4] at e0
      have hb4 := back_ok (bw := bw) (cw := cw') (ts := ts') (tb := tb') (st := st) (ro := ro) (mr := mr) (la := la) (fu := some 4) (dn := dn) (wr := wr + 5 * cntR (cShares ts tb st b) 3 0) (b := b) (c := c) (fun j e => by cases e; exact Nat.le_refl _)
      have hp : cPutM (b + 1) (cC bw b (fun i => cw' (c * 4 + i)), cw', ts', tb', st, ro, mr, la, fT (some 4) 4, dn, wr + 5 * cntR (cShares ts tb st b) 3 0 + 4) = (.error 0, (cC bw b (fun i => cw' (c * 4 + i)), cw', ts', tb', st, ro, mr, la, none, true, wr + 5 * cntR (cShares ts tb st b) 3 0 + 4)) := rfl
      refine ⟨cC bw b (fun i => cw' (c * 4 + i)), cw', ts', tb', cntR (cShares ts tb st b) 3 0, ?_, hd, ?_, fun j hj h => ?_, r4, r7, by rw [hns]; omega⟩
      · rw [hmerge, cB_ok e0, cB_ok hb4, cB_err hp, show wr + 5 * cntR (cShares ts tb st b) 3 0 + 4 = wr + k by omega]
      · rw [show mPart th ow b (some s) (cntR (cShares ts tb st b) 3 0) = ow' from r2 _ (Nat.le_refl _)]
        exact back_rel r3 hsh (fun j hj => cC_out hj)
      · rw [cC_out (by omega)]
        exact hV j hj h
end MG
/-- copies that merging still needs; writes that it takes -/
def nd (ts tb st : Nat → Int32) (s : Nat) : Nat → Nat → Nat
  | 0, _ => 0
  | n + 1, b => (if (cFind ts tb st s b).isSome then cNS ts tb st b else 0) + nd ts tb st s n (b + 1)
def wf (ts tb st : Nat → Int32) (s : Nat) : Nat → Nat → Nat
  | 0, _ => 0
  | n + 1, b => (if (cFind ts tb st s b).isSome then 5 * cNS ts tb st b + 5 else 0) + wf ts tb st s n (b + 1)
/-- words of the volume that differ: they lie in the block at which merging stands -/
def dV (ts tb st : Nat → Int32) (s b : Nat) (bw vo : Nat → Int32) : Prop := ∀ j, j < 24 → vo j ≠ bw j → b ≤ j / 4 ∧ cFind ts tb st s (j / 4) ≠ none ∧ ∀ b', b ≤ b' → b' < j / 4 → cFind ts tb st s b' = none
theorem kFind.ns {b : Nat} {ts tb ts' tb' st : Nat → Int32} (h : kFind b ts tb ts' tb' st) {b' : Nat} (hb' : b' < 6) (hne : b' ≠ b) : cNS ts' tb' st b' = cNS ts tb st b' := by
  refine cnt_congr fun s hs => ?_
  unfold cShares
  rw [h s hs b' hb' (Or.inl hne)]
theorem kFind.nd {b : Nat} {ts tb ts' tb' st : Nat → Int32} (h : kFind b ts tb ts' tb' st) {s : Nat} (hs : s < 3) : ∀ {n b' : Nat}, b' + n = 6 → b < b' → nd ts' tb' st s n b' = nd ts tb st s n b' ∧ wf ts' tb' st s n b' = wf ts tb st s n b' := by
  intro n
  induction n with
  | zero => intro b' _ _; exact ⟨rfl, rfl⟩
  | succ n ih =>
    intro b' h1 h2
    obtain ⟨i1, i2⟩ := ih (b' := b' + 1) (by omega) (by omega)
    have e1 := h s hs b' (by omega) (Or.inl (by omega))
    have e2 := h.ns (b' := b') (by omega) (by omega)
    constructor
    · show (if (cFind ts' tb' st s b').isSome then cNS ts' tb' st b' else 0) + _ = _
      rw [e1, e2, i1]; rfl
    · show (if (cFind ts' tb' st s b').isSome then 5 * cNS ts' tb' st b' + 5 else 0) + _ = _
      rw [e1, e2, i2]; rfl
/-- the reference's restoring from block b on -/
def mRest (th : Nat → Bool) (wo : Nat → Int32) (s : Nat) : Nat → Nat → Nat → (Nat → Int32) → (Nat → Nat) → Nat × (Nat → Int32) × (Nat → Nat)
  | 0, _, a, vo, ow => (a, vo, ow)
  | n + 1, b, a, vo, ow => if mHas ow s b then mRest th wo s n (b + 1) (a + 1) (mVol vo wo s b 4 0) (mPart th ow b (some s) 3) else mRest th wo s n (b + 1) a vo ow
def mCutL (th : Nat → Bool) (wo : Nat → Int32) (s : Nat) : Nat → Nat → Nat → Nat → (Nat → Int32) → (Nat → Nat) → Nat × (Nat → Int32) × (Nat → Nat)
  | 0, _, _, mr, vo, ow => (mr, vo, ow)
  | n + 1, b, left, mr, vo, ow => if mHas ow s b then (if 5 * mShr th ow b (some s) + 5 ≤ left then mCutL th wo s n (b + 1) (left - 5 * mShr th ow b (some s) - 5) (b + 1) (mVol vo wo s b 4 0) (mPart th ow b (some s) 3)
      else (mr, vo, mPart th ow b (some s) (if left / 5 < mShr th ow b (some s) then left / 5 else mShr th ow b (some s)))) else mCutL th wo s n (b + 1) left mr vo ow
theorem has_is {ts tb st : Nat → Int32} {th : Nat → Bool} {ow : Nat → Nat} (hO : rOw ts tb st th ow) {s b : Nat} (hs : s < 3) (h0 : st s ≠ 0) (hb : b < 6) : mHas ow s b = (cFind ts tb st s b).isSome := by
  unfold mHas
  rw [hO.2 s hs h0 b hb]
  cases cFind ts tb st s b <;> simp
theorem shr_is {ts tb st : Nat → Int32} {th : Nat → Bool} {ow : Nat → Nat} (hO : rOw ts tb st th ow) {s b c : Nat} (hb : b < 6) (hf : cFind ts tb st s b = some c) : mShr th ow b (some s) = cNS ts tb st b := cnt_congr (fun _ hj => m_is_some hO hb hj hf)
set_option maxHeartbeats 1000000 in
theorem merges_ok {s : Nat} {st : Nat → Int32} {la : Nat} {wo : Nat → Int32} {th : Nat → Bool} (hs : s < 3) (h0 : st s ≠ 0) : ∀ (n b acc : Nat) (bw cw ts tb vo : Nat → Int32) (ro mr : Nat) (fu : Option Nat) (dn : Bool) (wr : Nat) (ow : Nat → Nat), b + n = 6 → mr ≤ b → (∀ b', mr ≤ b' → b' < b → cFind ts tb st s b' = none) → rB bw cw ts tb st la wo th ow → dV ts tb st s b bw vo → nd ts tb st s n b ≤ cNF ts st → fL fu (wf ts tb st s n b) →
    ∃ (bw' cw' ts' tb' vo' : Nat → Int32) (mr' acc' : Nat) (ow' : Nat → Nat), cSum (cMerge1 s) n b acc (bw, cw, ts, tb, st, ro, mr, la, fu, dn, wr) = (.ok acc', (bw', cw', ts', tb', st, ro, mr', la, fT fu (wf ts tb st s n b), dn, wr + wf ts tb st s n b)) ∧ mRest th wo s n b acc vo ow = (acc', vo', ow') ∧ rB bw' cw' ts' tb' st la wo th ow' ∧ rV bw' vo' ∧
      mr' ≤ 6 ∧ (∀ b', mr' ≤ b' → b' < 6 → cFind ts' tb' st s b' = none) ∧ (∀ k, fu = some k → mCutL th wo s n b k mr vo ow = (mr', vo', ow')) := by
  intro n
  induction n with
  | zero =>
    intro b acc bw cw ts tb vo ro mr fu dn wr ow hbn hmk hno hB hV hN hL
    refine ⟨bw, cw, ts, tb, vo, mr, acc, ow, by simp [cSum, cOk, wf, fT_0], rfl, hB, fun j hj => ?_, by omega, fun b' h1 h2 => hno b' h1 (by omega), fun _ _ => rfl⟩
    by_cases e : vo j = bw j
    · exact e
    · have := (hV j hj e).1
      omega
  | succ n ih =>
    intro b acc bw cw ts tb vo ro mr fu dn wr ow hbn hmk hno hB hV hN hL
    have hb : b < 6 := by omega
    have hsum : ∀ σ, cSum (cMerge1 s) (n + 1) b acc σ = cB (cMerge1 s b) (fun d => cSum (cMerge1 s) n (b + 1) (acc + d)) σ := fun _ => rfl
    have hhas := has_is hB.2.1 hs h0 hb
    cases hf : cFind ts tb st s b with
    | none =>
      have en : nd ts tb st s (n + 1) b = nd ts tb st s n (b + 1) := by
        show (if (cFind ts tb st s b).isSome then _ else 0) + _ = _
        rw [hf]; simp
      have ew : wf ts tb st s (n + 1) b = wf ts tb st s n (b + 1) := by
        show (if (cFind ts tb st s b).isSome then _ else 0) + _ = _
        rw [hf]; simp
      rw [en] at hN
      rw [ew] at hL ⊢
      have hone : cMerge1 s b (bw, cw, ts, tb, st, ro, mr, la, fu, dn, wr) = (.ok 0, (bw, cw, ts, tb, st, ro, mr, la, fu, dn, wr)) := by
        show (match cFind ts tb st s b with
          | none => (Except.ok 0, (bw, cw, ts, tb, st, ro, mr, la, fu, dn, wr))
          | some c => _) = _
        rw [hf]
      have hV' : dV ts tb st s (b + 1) bw vo := fun j hj hne => by
        obtain ⟨g1, g2, g3⟩ := hV j hj hne
        refine ⟨?_, g2, fun b' h1 h2 => g3 b' (by omega) h2⟩
        have : j / 4 ≠ b := fun e => g2 (by rw [e]; exact hf)
        omega
      obtain ⟨bw', cw', ts', tb', vo', mr', acc', ow', r1, r2, r3, r4, r5, r6, r7⟩ := ih (b + 1) acc bw cw ts tb vo ro mr fu dn wr ow (by omega) (by omega) (fun b' h1 h2 => by
        by_cases e : b' = b
        · rw [e]; exact hf
        · exact hno b' h1 (by omega)) hB hV' hN hL
      refine ⟨bw', cw', ts', tb', vo', mr', acc', ow', ?_, ?_, r3, r4, r5, r6, fun k hk => ?_⟩
      · rw [hsum, cB_ok hone]
        exact r1
      · show (if mHas ow s b = true then _ else mRest th wo s n (b + 1) acc vo ow) = _
        rw [hhas, hf]
        exact r2
      · show (if mHas ow s b = true then _ else mCutL th wo s n (b + 1) k mr vo ow) = _
        rw [hhas, hf]
        exact r7 k hk
    | some c =>
      have en : nd ts tb st s (n + 1) b = cNS ts tb st b + nd ts tb st s n (b + 1) := by
        show (if (cFind ts tb st s b).isSome then _ else 0) + _ = _
        rw [hf]; simp
      have ew : wf ts tb st s (n + 1) b = (5 * cNS ts tb st b + 5) + wf ts tb st s n (b + 1) := by
        show (if (cFind ts tb st s b).isSome then _ else 0) + _ = _
        rw [hf]; simp
      rw [en] at hN
      rw [ew] at hL ⊢
      obtain ⟨hL1, hL2⟩ := fL_T hL
      have eS := shr_is hB.2.1 hb hf
      have hVb : ∀ j, j < 24 → (j < 4 * b ∨ 4 * b + 4 ≤ j) → vo j = bw j := fun j hj h => by
        by_cases e : vo j = bw j
        · exact e
        · obtain ⟨g1, g2, g3⟩ := hV j hj e
          have : b < j / 4 := by omega
          rw [g3 b (Nat.le_refl _) this] at hf
          cases hf
      obtain ⟨bw1, cw1, ts1, tb1, r1, r2, r3, r4, r5⟩ := merge1_ok (vo := vo) (ro := ro) (mr := mr) (dn := dn) (wr := wr) hB hs hb hf (by omega) hL1 hVb
      obtain ⟨k1, k2⟩ := r4.nd hs (n := n) (b' := b + 1) (by omega) (by omega)
      obtain ⟨bw', cw', ts', tb', vo', mr', acc', ow', q1, q2, q3, q4, q5, q6, q7⟩ := ih (b + 1) (acc + 1) bw1 cw1 ts1 tb1 (mVol vo wo s b 4 0) ro (b + 1) (fT fu (5 * cNS ts tb st b + 5)) dn (wr + (5 * cNS ts tb st b + 5)) _ (by omega) (Nat.le_refl _) (fun b' h1 h2 => by omega) r2 (fun j hj hne => absurd (r3 j hj) hne) (by rw [k1]; omega) (by rw [k2]; exact hL2)
      rw [k2] at q1
      refine ⟨bw', cw', ts', tb', vo', mr', acc', ow', ?_, ?_, q3, q4, q5, q6, fun k hk => ?_⟩
      · rw [hsum, cB_ok r1]
        show cSum (cMerge1 s) n (b + 1) (acc + 1) _ = _
        rw [q1, fT_T, show wr + (5 * cNS ts tb st b + 5) + wf ts tb st s n (b + 1) = wr + (5 * cNS ts tb st b + 5 + wf ts tb st s n (b + 1)) by omega]
      · show (if mHas ow s b = true then mRest th wo s n (b + 1) (acc + 1) (mVol vo wo s b 4 0) (mPart th ow b (some s) 3) else _) = _
        rw [hhas, hf]
        exact q2
      · subst hk
        have hge := fL_some hL1
        show (if mHas ow s b = true then (if 5 * mShr th ow b (some s) + 5 ≤ k then mCutL th wo s n (b + 1) (k - 5 * mShr th ow b (some s) - 5) (b + 1) (mVol vo wo s b 4 0) (mPart th ow b (some s) 3) else _) else _) = _
        rw [hhas, hf, eS]
        simp only [Option.isSome_some, if_true]
        rw [if_pos hge, show k - 5 * cNS ts tb st b - 5 = k - (5 * cNS ts tb st b + 5) by omega]
        exact q7 _ rfl
set_option maxHeartbeats 1000000 in
theorem merges_cut {s : Nat} {st : Nat → Int32} {la : Nat} {wo : Nat → Int32} {th : Nat → Bool} (hs : s < 3) (h0 : st s ≠ 0) : ∀ (n b acc k : Nat) (bw cw ts tb vo : Nat → Int32) (ro mr : Nat) (dn : Bool) (wr : Nat) (ow : Nat → Nat), b + n = 6 → mr ≤ b → (∀ b', mr ≤ b' → b' < b → cFind ts tb st s b' = none) → rB bw cw ts tb st la wo th ow → rV bw vo → nd ts tb st s n b ≤ cNF ts st → k < wf ts tb st s n b →
    ∃ (bw' cw' ts' tb' vo' : Nat → Int32) (mr' : Nat) (ow' : Nat → Nat), cSum (cMerge1 s) n b acc (bw, cw, ts, tb, st, ro, mr, la, some k, dn, wr) = (.error 0, (bw', cw', ts', tb', st, ro, mr', la, none, true, wr + k)) ∧ mCutL th wo s n b k mr vo ow = (mr', vo', ow') ∧ rB bw' cw' ts' tb' st la wo th ow' ∧ mr' ≤ 6 ∧ dV ts' tb' st s mr' bw' vo' ∧ nd ts' tb' st s (6 - mr') mr' ≤ cNF ts' st := by
  intro n
  induction n with
  | zero =>
    intro b acc k bw cw ts tb vo ro mr dn wr ow hbn hmk hno hB hV hN hk
    simp [wf] at hk
  | succ n ih =>
    intro b acc k bw cw ts tb vo ro mr dn wr ow hbn hmk hno hB hV hN hk
    have hb : b < 6 := by omega
    have hsum : ∀ σ, cSum (cMerge1 s) (n + 1) b acc σ = cB (cMerge1 s b) (fun d => cSum (cMerge1 s) n (b + 1) (acc + d)) σ := fun _ => rfl
    have hhas := has_is hB.2.1 hs h0 hb
    cases hf : cFind ts tb st s b with
    | none =>
      have en : nd ts tb st s (n + 1) b = nd ts tb st s n (b + 1) := by
        show (if (cFind ts tb st s b).isSome then _ else 0) + _ = _
        rw [hf]; simp
      have ew : wf ts tb st s (n + 1) b = wf ts tb st s n (b + 1) := by
        show (if (cFind ts tb st s b).isSome then _ else 0) + _ = _
        rw [hf]; simp
      rw [en] at hN
      rw [ew] at hk
      have hone : cMerge1 s b (bw, cw, ts, tb, st, ro, mr, la, some k, dn, wr) = (.ok 0, (bw, cw, ts, tb, st, ro, mr, la, some k, dn, wr)) := by
        show (match cFind ts tb st s b with
          | none => (Except.ok 0, (bw, cw, ts, tb, st, ro, mr, la, some k, dn, wr))
          | some c => _) = _
        rw [hf]
      obtain ⟨bw', cw', ts', tb', vo', mr', ow', r1, r2, r3, r4, r5, r6⟩ := ih (b + 1) acc k bw cw ts tb vo ro mr dn wr ow (by omega) (by omega) (fun b' h1 h2 => by
        by_cases e : b' = b
        · rw [e]; exact hf
        · exact hno b' h1 (by omega)) hB hV hN hk
      refine ⟨bw', cw', ts', tb', vo', mr', ow', ?_, ?_, r3, r4, r5, r6⟩
      · rw [hsum, cB_ok hone]
        exact r1
      · show (if mHas ow s b = true then _ else mCutL th wo s n (b + 1) k mr vo ow) = _
        rw [hhas, hf]
        exact r2
    | some c =>
      have en : nd ts tb st s (n + 1) b = cNS ts tb st b + nd ts tb st s n (b + 1) := by
        show (if (cFind ts tb st s b).isSome then _ else 0) + _ = _
        rw [hf]; simp
      have ew : wf ts tb st s (n + 1) b = (5 * cNS ts tb st b + 5) + wf ts tb st s n (b + 1) := by
        show (if (cFind ts tb st s b).isSome then _ else 0) + _ = _
        rw [hf]; simp
      rw [en] at hN
      rw [ew] at hk
      have eS := shr_is hB.2.1 hb hf
      have hmc : mCutL th wo s (n + 1) b k mr vo ow = (if 5 * cNS ts tb st b + 5 ≤ k then mCutL th wo s n (b + 1) (k - 5 * cNS ts tb st b - 5) (b + 1) (mVol vo wo s b 4 0) (mPart th ow b (some s) 3) else (mr, vo, mPart th ow b (some s) (if k / 5 < cNS ts tb st b then k / 5 else cNS ts tb st b))) := by
        show (if mHas ow s b = true then _ else _) = _
        rw [hhas, hf, eS]
        rfl
      rcases Nat.lt_or_ge k (5 * cNS ts tb st b + 5) with hlt | hge
      · obtain ⟨bw', cw', ts', tb', d, r1, rd, r2, r3, r4, r5, r6⟩ := merge1_cut (vo := vo) (ro := ro) (mr := mr) (dn := dn) (wr := wr) hB hs hb hf (by omega) hlt (fun j hj _ => hV j hj)
        refine ⟨bw', cw', ts', tb', vo, mr, _, ?_, by rw [hmc, if_neg (by omega), ← rd], r2, by omega, fun j hj hne => ?_, ?_⟩
        · rw [hsum]
          exact cB_err r1
        · have ej : j / 4 = b := by
            rcases Nat.lt_or_ge j (4 * b) with z | z
            · exact absurd (r3 j hj (Or.inl z)) hne
            · rcases Nat.lt_or_ge j (4 * b + 4) with z2 | z2
              · omega
              · exact absurd (r3 j hj (Or.inr z2)) hne
          rw [ej]
          have hnn : cFind ts tb st s b ≠ none := by rw [hf]; exact fun z => by cases z
          refine ⟨hmk, by rw [r4 s hs b hb (Or.inr hnn)]; exact hnn, fun b' h1 h2 => ?_⟩
          rw [r4 s hs b' (by omega) (Or.inl (by omega))]
          exact hno b' h1 h2
        · obtain ⟨k1, k2⟩ := r4.nd hs (n := n) (b' := b + 1) (by omega) (by omega)
          have hnd : ∀ (m b0 : Nat), b0 + m = b → mr ≤ b0 → nd ts' tb' st s (m + (n + 1)) b0 = nd ts' tb' st s (n + 1) b := by
            intro m
            induction m with
            | zero => intro b0 e _; rw [show b0 = b by omega, Nat.zero_add]
            | succ m ihm =>
              intro b0 e hm0
              rw [show m + 1 + (n + 1) = (m + (n + 1)) + 1 by omega]
              show (if (cFind ts' tb' st s b0).isSome then _ else 0) + nd ts' tb' st s (m + (n + 1)) (b0 + 1) = _
              rw [r4 s hs b0 (by omega) (Or.inl (by omega)), hno b0 hm0 (by omega), ihm (b0 + 1) (by omega) (by omega)]
              simp
          have e1 := hnd (b - mr) mr (by omega) (Nat.le_refl _)
          rw [show b - mr + (n + 1) = 6 - mr by omega] at e1
          rw [e1]
          show (if (cFind ts' tb' st s b).isSome then cNS ts' tb' st b else 0) + nd ts' tb' st s n (b + 1) ≤ _
          rw [r4 s hs b hb (Or.inr (by rw [hf]; exact fun z => by cases z)), hf, k1]
          simp only [Option.isSome_some, if_true]
          omega
      · obtain ⟨bw1, cw1, ts1, tb1, r1, r2, r3, r4, r5⟩ := merge1_ok (vo := vo) (ro := ro) (mr := mr) (fu := some k) (dn := dn) (wr := wr) hB hs hb hf (by omega) (fun j e => by cases e; exact hge) (fun j hj _ => hV j hj)
        obtain ⟨k1, k2⟩ := r4.nd hs (n := n) (b' := b + 1) (by omega) (by omega)
        obtain ⟨bw', cw', ts', tb', vo', mr', ow', q1, q2, q3, q4, q5, q6⟩ := ih (b + 1) (acc + 1) (k - (5 * cNS ts tb st b + 5)) bw1 cw1 ts1 tb1 (mVol vo wo s b 4 0) ro (b + 1) dn (wr + (5 * cNS ts tb st b + 5)) _ (by omega) (Nat.le_refl _) (fun b' h1 h2 => by omega) r2 r3 (by rw [k1]; omega) (by rw [k2]; omega)
        refine ⟨bw', cw', ts', tb', vo', mr', ow', ?_, ?_, q3, q4, q5, q6⟩
        · rw [hsum, cB_ok r1]
          show cSum (cMerge1 s) n (b + 1) (acc + 1) (bw1, cw1, ts1, tb1, st, ro, b + 1, la, some (k - (5 * cNS ts tb st b + 5)), dn, wr + (5 * cNS ts tb st b + 5)) = _
          rw [q1, show wr + (5 * cNS ts tb st b + 5) + (k - (5 * cNS ts tb st b + 5)) = wr + k by omega]
        · rw [hmc, if_pos hge, show k - 5 * cNS ts tb st b - 5 = k - (5 * cNS ts tb st b + 5) by omega]
          exact q2
