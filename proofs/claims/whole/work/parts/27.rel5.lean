/-! ===== call by call: class and reference go together ===== -/
theorem mLast_ok {fu : Option Nat} {ct w : Nat} {dn : Bool} (h : fL fu w) : mLast fu ct dn w = (true, fT fu w, ct + w, dn) := by
  cases fu with
  | none => rfl
  | some k =>
    show (if w ≤ k then _ else _) = _
    rw [if_pos (fL_some h)]
    rfl
theorem mLast_no {k ct w : Nat} {dn : Bool} (h : k < w) : mLast (some k) ct dn w = (false, some k, ct + k, true) := by
  show (if w ≤ k then _ else _) = _
  rw [if_neg (by omega)]
theorem fL_or (fu : Option Nat) (w : Nat) : fL fu w ∨ ∃ k, fu = some k ∧ k < w := by
  cases fu with
  | none => exact Or.inl (fun k e => by cases e)
  | some k =>
    rcases Nat.lt_or_ge k w with h | h
    · exact Or.inr ⟨k, rfl, h⟩
    · exact Or.inl (fun j e => by cases e; exact h)
theorem fT_lt {fu : Option Nat} {w : Nat} (h : ∀ k, fu = some k → k < 2 ^ 31) : ∀ k, fT fu w = some k → k < 2 ^ 31 := by
  intro k e
  cases fu with
  | none => cases e
  | some j =>
    have := h j rfl
    simp [fT] at e
    omega
theorem ns_none {ts tb st : Nat → Int32} {th : Nat → Bool} {ow : Nat → Nat} (hO : rOw ts tb st th ow) {b : Nat} (hb : b < 6) : mShr th ow b none = cNS ts tb st b := cnt_congr (fun _ hj => m_is_none hO hb hj)
theorem up_ok {bw cw ts tb st : Nat → Int32} {ro mr la : Nat} {fu : Option Nat} {wr : Nat} : cUp (bw, cw, ts, tb, st, ro, mr, la, fu, false, wr) = (.ok (), (bw, cw, ts, tb, st, ro, mr, la, fu, false, wr)) := rfl
theorem up_no {bw cw ts tb st : Nat → Int32} {ro mr la : Nat} {fu : Option Nat} {wr : Nat} : cUp (bw, cw, ts, tb, st, ro, mr, la, fu, true, wr) = (.error 0, (bw, cw, ts, tb, st, ro, mr, la, fu, true, wr)) := rfl
theorem reqW_ok {b i : Int32} {b' i' : Nat} (h1 : ixI b 6 = some b') (h2 : ixI i 4 = some i') (σ : SV) : cReqW b i σ = (.ok (), σ) := by
  unfold cReqW
  rw [cB_ok (show cReqB b σ = (.ok (), σ) by unfold cReqB; rw [h1]; rfl)]
  simp only [h2]
  rfl
theorem reqW_no {b i : Int32} (h : ixI b 6 = none ∨ ixI i 4 = none) (σ : SV) : cReqW b i σ = (.error 1, σ) := by
  unfold cReqW
  cases hb : ixI b 6 with
  | none => exact cB_err (by unfold cReqB; rw [hb]; rfl)
  | some b' =>
    rw [cB_ok (show cReqB b σ = (.ok (), σ) by unfold cReqB; rw [hb]; rfl)]
    rcases h with h | h
    · rw [hb] at h; cases h
    · simp only [h]; rfl
theorem cN_of {x : Int32} {n j : Nat} (hn : n < 2 ^ 31) (h : ixI x n = some j) : cN x = j ∧ j < n := by
  obtain ⟨h1, h2⟩ := ixI_some hn h
  rw [h2]
  exact ⟨cN_nI (by omega), h1⟩
/-- both sides of an int answer: r from the class is a from the reference; codes by kc -/
def Agree {ρ τ : Type} (N : Nat) (kc : Nat → Nat) (eqv : ρ → τ → Prop) (c : Except Nat ρ × SV) (m : τ × SM) : Prop := match c with
  | (.ok r, σ) => m.2.1 = 0 ∧ eqv r m.1 ∧ Rel N σ m.2
  | (.error k, σ) => m.2.1 = kc k ∧ 0 < kc k ∧ Rel N σ m.2
def kcW (k : Nat) : Nat := match k with
  | 0 => 3
  | k => k
set_option maxHeartbeats 2000000 in
theorem op_write {N : Nat} {σ : SV} {A : SM} (hR : Rel N σ A) (b i w : Int32) : Agree N kcW (fun r a => a = r) (cWrite b i w σ) (mWrite b i w A) := by
  obtain ⟨bw, cw, ts, tb, st, ro, mr, la, fu, dn, wr⟩ := σ
  obtain ⟨co, dn', fu', ct, vo, wo, th, ow, ba, mr'⟩ := A
  obtain ⟨rfl, rfl, rfl, hfu, hla, hB, rfl, h1, h2, h3, h4⟩ := hR
  unfold cWrite
  cases dn' with
  | true =>
    rw [cB_err up_no]
    exact ⟨rfl, by decide, rfl, rfl, rfl, hfu, hla, hB, rfl, h1, h2, h3, h4⟩
  | false =>
    have hro : ba = 0 := h1 rfl
    subst hro
    rw [cB_ok up_ok]
    by_cases hix : ixI b 6 = none ∨ ixI i 4 = none
    · rw [cB_err (reqW_no hix _)]
      have hm : mWrite b i w (co, false, fu', ct, vo, wo, th, ow, 0, mr') = (0, (1, false, fu', ct, vo, wo, th, ow, 0, mr')) := by
        simp only [mWrite, Bool.false_eq_true, if_false]
        rcases hix with h | h
        · rw [h]
        · rw [h]; cases ixI b 6 <;> rfl
      rw [hm]
      exact ⟨rfl, by decide, rfl, rfl, rfl, hfu, hla, hB, rfl, h1, h2, h3, h4⟩
    · obtain ⟨b', hb⟩ : ∃ b', ixI b 6 = some b' := by
        cases h : ixI b 6 with
        | none => exact absurd (Or.inl h) hix
        | some x => exact ⟨x, rfl⟩
      obtain ⟨i', hi⟩ : ∃ i', ixI i 4 = some i' := by
        cases h : ixI i 4 with
        | none => exact absurd (Or.inr h) hix
        | some x => exact ⟨x, rfl⟩
      obtain ⟨eb, hb6⟩ := cN_of (by decide) hb
      obtain ⟨ei, hi4⟩ := cN_of (by decide) hi
      rw [cB_ok (reqW_ok hb hi _)]
      show Agree N kcW _ (cB (cReqF (cNS ts tb st (cN b))) (fun _ => cB (cCopies (cN b)) fun n => cB (cPutB (cN b) (cN i) w) fun _ => cOk n) (bw, cw, ts, tb, st, 0, mr, la, fu', false, ct)) _
      rw [eb, ei]
      have eS := ns_none hB.2.1 hb6
      have eU := used_is hB.1 hB.2.1
      have hm : mWrite b i w (co, false, fu', ct, vo, wo, th, ow, 0, mr') = (if cNF ts st < cNS ts tb st b' then (0, (2, false, fu', ct, vo, wo, th, ow, 0, mr')) else match mLast fu' ct false (5 * cNS ts tb st b' + 1) with
          | (true, fu', ct', dn') => (cNS ts tb st b', (0, dn', fu', ct', upd vo (4 * b' + i') w, wo, th, mPart th ow b' none (cNS ts tb st b'), 0, mr'))
          | (false, fu', ct', dn') => (0, (3, dn', none, ct', vo, wo, th, mPart th ow b' none (fu'.getD 0 / 5), 0, mr'))) := by
        simp only [mWrite, Bool.false_eq_true, if_false, hb, hi, eS]
        rw [show 9 - mUsed th ow = cNF ts st by omega]
        rfl
      rw [hm]
      by_cases hfree : cNF ts st < cNS ts tb st b'
      · rw [if_pos hfree, cB_err (show cReqF (cNS ts tb st b') (bw, cw, ts, tb, st, 0, mr, la, fu', false, ct) = (.error 2, _) from if_pos hfree)]
        exact ⟨rfl, by decide, rfl, rfl, rfl, hfu, hla, hB, rfl, h1, h2, h3, h4⟩
      · rw [if_neg hfree, cB_ok (show cReqF (cNS ts tb st b') (bw, cw, ts, tb, st, 0, mr, la, fu', false, ct) = (.ok (), _) from if_neg hfree)]
        have hrun := copies_run (but := none) (wo := wo) (th := th) hb6 3 0 0 bw cw ts tb 0 mr fu' false ct ow rfl hB (fun s' hs' => m_is_none hB.2.1 hb6 hs') (by rw [← ns_R]; omega)
        rw [← ns_R] at hrun
        rcases fL_or fu' (5 * cNS ts tb st b' + 1) with hL | ⟨k, rfl, hk⟩
        · obtain ⟨hL1, hL2⟩ := fL_T hL
          obtain ⟨cw', ts', tb', ow', r1, r2, r3, r4, r5, r6, r7⟩ := hrun.1 hL1
          have hsh : ∀ s', s' < 3 → cShares ts' tb' st b' s' = false := fun s' hs' => r5 s' (Nat.zero_le _) hs'
          rw [mLast_ok hL, cB_ok (show cCopies b' (bw, cw, ts, tb, st, 0, mr, la, fu', false, ct) = _ from r1)]
          have hp : cPutB b' i' w (bw, cw', ts', tb', st, 0, mr, la, fT fu' (5 * cNS ts tb st b'), false, ct + 5 * cNS ts tb st b') = (.ok (), (upd bw (b' * 4 + i') w, cw', ts', tb', st, 0, mr, la, fT fu' (5 * cNS ts tb st b' + 1), false, ct + (5 * cNS ts tb st b' + 1))) := by
            unfold cPutB
            rw [cB_ok (tick_ok hL2), fT_T]
            rfl
          rw [cB_ok hp]
          refine ⟨rfl, by simp, rfl, rfl, rfl, fT_lt hfu, hla, ?_, rfl, fun _ => rfl, fun _ j hj => ?_, fun h => (by cases h), fun r h => (by cases h)⟩
          · rw [show mPart th ow b' none (cNS ts tb st b') = ow' from r2 _ (Nat.le_refl _)]
            refine back_rel r3 hsh (fun j hj => ?_)
            unfold upd
            rw [if_neg (by omega)]
          · have := h2 rfl j hj
            unfold upd
            rw [show 4 * b' + i' = b' * 4 + i' by omega, this]
        · rw [mLast_no hk]
          rcases Nat.lt_or_ge k (5 * cNS ts tb st b') with h5 | h5
          · obtain ⟨cw', ts', tb', ow', r1, r2, r3, r4, r5, r6, r7⟩ := hrun.2 k rfl h5
            rw [cB_err (show cCopies b' (bw, cw, ts, tb, st, 0, mr, la, some k, false, ct) = _ from r1)]
            refine ⟨rfl, by decide, rfl, rfl, rfl, fun k e => (by cases e), hla, ?_, rfl, fun h => (by cases h), h2, fun _ => rfl, fun r h => (by cases h)⟩
            rw [show mPart th ow b' none ((some k).getD 0 / 5) = ow' from r2]
            exact r3
          · obtain ⟨cw', ts', tb', ow', r1, r2, r3, r4, r5, r6, r7⟩ := hrun.1 (fun j e => by cases e; exact h5)
            have ek : k = 5 * cNS ts tb st b' := by omega
            rw [cB_ok (show cCopies b' (bw, cw, ts, tb, st, 0, mr, la, some k, false, ct) = _ from r1)]
            have hp : cPutB b' i' w (bw, cw', ts', tb', st, 0, mr, la, fT (some k) (5 * cNS ts tb st b'), false, ct + 5 * cNS ts tb st b') = (.error 0, (bw, cw', ts', tb', st, 0, mr, la, none, true, ct + 5 * cNS ts tb st b')) := by
              rw [ek]
              unfold cPutB
              refine cB_err ?_
              simp [fT, cTick]
            rw [cB_err hp]
            refine ⟨rfl, by decide, rfl, rfl, by rw [ek], fun k e => (by cases e), hla, ?_, rfl, fun h => (by cases h), h2, fun _ => rfl, fun r h => (by cases h)⟩
            rw [show (some k).getD 0 / 5 = cNS ts tb st b' by simp; omega, show mPart th ow b' none (cNS ts tb st b') = ow' from r2 _ (Nat.le_refl _)]
            exact r3
