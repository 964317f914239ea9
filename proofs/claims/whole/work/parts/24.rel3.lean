/-! ===== copies for all sharers of a block ===== -/
def cntR (p : Nat → Bool) : Nat → Nat → Nat
  | 0, _ => 0
  | n + 1, s => (if p s then 1 else 0) + cntR p n (s + 1)
theorem cnt3 (p : Nat → Bool) : cnt p 3 = cntR p 3 0 := by
  simp only [cnt, cntR, Nat.zero_add, Nat.reduceAdd]
  omega
theorem cntR_congr {p q : Nat → Bool} : ∀ {n s : Nat}, (∀ j, s ≤ j → j < s + n → p j = q j) → cntR p n s = cntR q n s := by
  intro n
  induction n with
  | zero => intro s _; rfl
  | succ n ih =>
    intro s h
    unfold cntR
    rw [h s (Nat.le_refl _) (by omega), ih (fun j g1 g2 => h j (by omega) (by omega))]
theorem mPartL_0 (th : Nat → Bool) (b : Nat) (but : Option Nat) (n s : Nat) (ow : Nat → Nat) : mPartL th b but n s 0 ow = ow := by
  cases n with
  | zero => rfl
  | succ n => simp [mPartL]
theorem lf_some {ts st : Nat → Int32} (h : 0 < cNF ts st) : ∃ c, cLF ts st = some c := by
  cases e : cLF ts st with
  | some c => exact ⟨c, rfl⟩
  | none =>
    have h1 := fst_none (show fst (cFree ts st) 9 0 = none from e)
    have h2 : cNF ts st = 0 := cnt_zero (fun j hj => h1 j (by omega) (by omega))
    omega
/-- what copies for the block b leave as it was -/
def kFind (b : Nat) (ts tb ts' tb' st : Nat → Int32) : Prop := ∀ s, s < 3 → ∀ b', b' < 6 → (b' ≠ b ∨ cFind ts tb st s b' ≠ none) → cFind ts' tb' st s b' = cFind ts tb st s b'
theorem kFind.rf {b : Nat} {ts tb st : Nat → Int32} : kFind b ts tb ts tb st := fun _ _ _ _ _ => rfl
theorem kFind.tr {b : Nat} {ts tb ts1 tb1 ts2 tb2 st : Nat → Int32} (h1 : kFind b ts tb ts1 tb1 st) (h2 : kFind b ts1 tb1 ts2 tb2 st) : kFind b ts tb ts2 tb2 st := fun s hs b' hb' h => by
  have e1 := h1 s hs b' hb' h
  rw [h2 s hs b' hb' (by rw [e1]; exact h), e1]
theorem shares_iff {ts tb st : Nat → Int32} {b s : Nat} : cShares ts tb st b s = true ↔ st s ≠ 0 ∧ cFind ts tb st s b = none := by
  simp [cShares]
set_option maxHeartbeats 1000000 in
theorem copies_run {b : Nat} {but : Option Nat} {st : Nat → Int32} {la : Nat} {wo : Nat → Int32} {th : Nat → Bool} (hb : b < 6) : ∀ (n s acc : Nat) (bw cw ts tb : Nat → Int32) (ro mr : Nat) (fu : Option Nat) (dn : Bool) (wr : Nat) (ow : Nat → Nat), s + n = 3 → rB bw cw ts tb st la wo th ow → (∀ s', s' < 3 → mIsS th but ow b s' = cShares ts tb st b s') → cntR (cShares ts tb st b) n s ≤ cNF ts st →
    (fL fu (5 * cntR (cShares ts tb st b) n s) → ∃ (cw' ts' tb' : Nat → Int32) (ow' : Nat → Nat), cSum (cCopyIf b) n s acc (bw, cw, ts, tb, st, ro, mr, la, fu, dn, wr) = (.ok (acc + cntR (cShares ts tb st b) n s), (bw, cw', ts', tb', st, ro, mr, la, fT fu (5 * cntR (cShares ts tb st b) n s), dn, wr + 5 * cntR (cShares ts tb st b) n s)) ∧
      (∀ left, cntR (cShares ts tb st b) n s ≤ left → mPartL th b but n s left ow = ow') ∧ rB bw cw' ts' tb' st la wo th ow' ∧ kFind b ts tb ts' tb' st ∧ (∀ s', s ≤ s' → s' < 3 → cShares ts' tb' st b s' = false) ∧ (∀ s', s' < s → cShares ts' tb' st b s' = cShares ts tb st b s') ∧ cNF ts' st + cntR (cShares ts tb st b) n s = cNF ts st) ∧
    (∀ k, fu = some k → k < 5 * cntR (cShares ts tb st b) n s → ∃ (cw' ts' tb' : Nat → Int32) (ow' : Nat → Nat), cSum (cCopyIf b) n s acc (bw, cw, ts, tb, st, ro, mr, la, fu, dn, wr) = (.error 0, (bw, cw', ts', tb', st, ro, mr, la, none, true, wr + k)) ∧
      mPartL th b but n s (k / 5) ow = ow' ∧ rB bw cw' ts' tb' st la wo th ow' ∧ kFind b ts tb ts' tb' st ∧ cNF ts' st + k / 5 = cNF ts st ∧ cntR (cShares ts' tb' st b) n s + k / 5 = cntR (cShares ts tb st b) n s ∧ (∀ s', s' < s → cShares ts' tb' st b s' = cShares ts tb st b s')) := by
  intro n
  induction n with
  | zero =>
    intro s acc bw cw ts tb ro mr fu dn wr ow hsn hB hm hN
    refine ⟨fun _ => ⟨cw, ts, tb, ow, ?_, fun _ _ => rfl, hB, kFind.rf, fun s' h1 h2 => by omega, fun _ _ => rfl, by simp [cntR]⟩, fun k _ h => by simp [cntR] at h⟩
    simp [cSum, cOk, cntR, fT_0]
  | succ n ih =>
    intro s acc bw cw ts tb ro mr fu dn wr ow hsn hB hm hN
    have hs : s < 3 := by omega
    by_cases hsh : cShares ts tb st b s = true
    · obtain ⟨h0, hn⟩ := shares_iff.mp hsh
      have eN : cntR (cShares ts tb st b) (n + 1) s = 1 + cntR (cShares ts tb st b) n (s + 1) := by
        show (if cShares ts tb st b s = true then 1 else 0) + _ = _
        rw [if_pos hsh]
      rw [eN] at hN ⊢
      obtain ⟨c, hc⟩ := lf_some (ts := ts) (st := st) (by omega)
      obtain ⟨-, c9, hf, -⟩ := fst_some (show fst (cFree ts st) 9 0 = some c from hc)
      have c9 : c < 9 := by omega
      obtain ⟨hF1, hF2⟩ := tag_find hB.1 hs h0 hb c9 hf hn
      have hmS : mIsS th but ow b s = true := by rw [hm s hs]; exact hsh
      have hsum : ∀ σ, cSum (cCopyIf b) (n + 1) s acc σ = cB (cCopyIf b s) (fun d => cSum (cCopyIf b) n (s + 1) (acc + d)) σ := fun _ => rfl
      have hif : cCopyIf b s (bw, cw, ts, tb, st, ro, mr, la, fu, dn, wr) = cB (cCopy s b none 0) (fun _ => cOk 1) (bw, cw, ts, tb, st, ro, mr, la, fu, dn, wr) := by
        show (if cShares ts tb st b s = true then _ else _) = _
        rw [if_pos hsh]
      by_cases h5 : fL fu 5
      · -- the copy is made whole
        have hcp := copy_ok (bw := bw) (cw := cw) (tb := tb) (ro := ro) (mr := mr) (la := la) (dn := dn) (wr := wr) (s := s) (b := b) (rep := none) (w := 0) hc h5
        have hone : cCopyIf b s (bw, cw, ts, tb, st, ro, mr, la, fu, dn, wr) = (.ok 1, (bw, cC cw c (fun i => if (none : Option Nat) = some i then 0 else bw (b * 4 + i)), upd ts c (st s), upd tb c (nI b), st, ro, mr, la, fT fu 5, dn, wr + 5)) := by
          rw [hif, cB_ok hcp]; rfl
        have hB1 : rB bw (cC cw c (fun i => if (none : Option Nat) = some i then 0 else bw (b * 4 + i))) (upd ts c (st s)) (upd tb c (nI b)) st la wo th (va_up ow (6 * s + b) (mLow th ow)) := by
          refine copy_rel hB hs h0 hb hc hn (fun i hi => ?_) (fun _ _ => rfl)
          rw [hB.2.2 s hs h0 b hb i hi]
          unfold cWord
          rw [hn]
          simp
        have hlow := low_is hB.1 hB.2.1 hc
        have hsh1 : ∀ s', s' < 3 → s' ≠ s → cShares (upd ts c (st s)) (upd tb c (nI b)) st b s' = cShares ts tb st b s' := by
          intro s' hs' hne
          unfold cShares
          rw [hF2 s' hs' b hb (Or.inl hne)]
        have hshs : cShares (upd ts c (st s)) (upd tb c (nI b)) st b s = false := by
          unfold cShares
          rw [hF1]
          simp
        have hm1 : ∀ s', s' < 3 → mIsS th but (va_up ow (6 * s + b) (mLow th ow)) b s' = cShares (upd ts c (st s)) (upd tb c (nI b)) st b s' := by
          intro s' hs'
          by_cases e : s' = s
          · subst e
            rw [hshs]
            unfold mIsS
            rw [va_up_self, hlow]
            simp
          · rw [hsh1 s' hs' e, ← hm s' hs']
            unfold mIsS
            rw [va_up_ne _ _ (by omega)]
        have eR : cntR (cShares (upd ts c (st s)) (upd tb c (nI b)) st b) n (s + 1) = cntR (cShares ts tb st b) n (s + 1) := cntR_congr (fun j g1 g2 => hsh1 j (by omega) (by omega))
        have eF := tag_free (ts := ts) (st := st) hs c9 hf b
        obtain ⟨ih1, ih2⟩ := ih (s + 1) (acc + 1) bw _ _ _ ro mr (fT fu 5) dn (wr + 5) _ (by omega) hB1 hm1 (by rw [eR]; omega)
        rw [eR] at ih1 ih2
        have hk1 : kFind b ts tb (upd ts c (st s)) (upd tb c (nI b)) st := fun s' hs' b' hb' h => hF2 s' hs' b' hb' (by
          by_cases e : b' = b
          · subst e
            refine Or.inl (fun z => ?_)
            subst z
            rcases h with h | h
            · exact h rfl
            · exact h hn
          · exact Or.inr e)
        refine ⟨fun hL => ?_, fun k hk hlt => ?_⟩
        · obtain ⟨cw', ts', tb', ow', r1, r2, r3, r4, r5, r6, r7⟩ := ih1 (fL_T (a := 5) (by rw [show 5 + 5 * cntR (cShares ts tb st b) n (s + 1) = 5 * (1 + cntR (cShares ts tb st b) n (s + 1)) by omega]; exact hL)).2
          refine ⟨cw', ts', tb', ow', ?_, fun left hl => ?_, r3, hk1.tr r4, fun s' g1 g2 => ?_, fun s' g => ?_, by omega⟩
          · rw [hsum, cB_ok hone]
            show cSum (cCopyIf b) n (s + 1) (acc + 1) _ = _
            rw [r1, fT_T, show 5 + 5 * cntR (cShares ts tb st b) n (s + 1) = 5 * (1 + cntR (cShares ts tb st b) n (s + 1)) by omega, show acc + 1 + cntR (cShares ts tb st b) n (s + 1) = acc + (1 + cntR (cShares ts tb st b) n (s + 1)) by omega, show wr + 5 + 5 * cntR (cShares ts tb st b) n (s + 1) = wr + 5 * (1 + cntR (cShares ts tb st b) n (s + 1)) by omega]
          · have : left ≠ 0 := by omega
            show (if left = 0 then ow else if mIsS th but ow b s = true then mPartL th b but n (s + 1) (left - 1) (va_up ow (6 * s + b) (mLow th ow)) else mPartL th b but n (s + 1) left ow) = ow'
            rw [if_neg this, if_pos hmS]
            exact r2 (left - 1) (by omega)
          · by_cases e : s' = s
            · subst e
              rw [r6 s' (by omega), hshs]
            · exact r5 s' (by omega) g2
          · rw [r6 s' (by omega), hsh1 s' (by omega) (by omega)]
        · subst hk
          have hk5 : 5 ≤ k := fL_some h5
          obtain ⟨cw', ts', tb', ow', r1, r2, r3, r4, r5, r6, r7⟩ := ih2 (k - 5) rfl (by omega)
          refine ⟨cw', ts', tb', ow', ?_, ?_, r3, hk1.tr r4, by omega, ?_, fun s' g => ?_⟩
          · rw [hsum, cB_ok hone]
            show cSum (cCopyIf b) n (s + 1) (acc + 1) _ = _
            rw [r1, show wr + 5 + (k - 5) = wr + k by omega]
          · show (if k / 5 = 0 then ow else if mIsS th but ow b s = true then mPartL th b but n (s + 1) (k / 5 - 1) (va_up ow (6 * s + b) (mLow th ow)) else mPartL th b but n (s + 1) (k / 5) ow) = ow'
            rw [if_neg (by omega), if_pos hmS, show k / 5 - 1 = (k - 5) / 5 by omega]
            exact r2
          · show (if cShares ts' tb' st b s = true then 1 else 0) + _ + _ = _
            rw [r7 s (by omega), hshs]
            simp only [Bool.false_eq_true, if_false]
            omega
          · rw [r7 s' (by omega), hsh1 s' (by omega) (by omega)]
      · -- the copy is cut
        obtain ⟨k, rfl, hk⟩ : ∃ k, fu = some k ∧ k < 5 := by
          cases fu with
          | none => exact absurd (fun k e => by cases e) h5
          | some k =>
            refine ⟨k, rfl, ?_⟩
            rcases Nat.lt_or_ge k 5 with h | h
            · exact h
            · exact absurd (fun j e => by cases e; exact h) h5
        refine ⟨fun hL => ?_, fun k' e hlt => ?_⟩
        · have := fL_some hL
          omega
        · cases e
          obtain ⟨cw', hw, hcut⟩ := copy_cut (bw := bw) (cw := cw) (tb := tb) (ro := ro) (mr := mr) (la := la) (dn := dn) (wr := wr) (s := s) (b := b) (rep := none) (w := 0) hc hk
          refine ⟨cw', ts, tb, ow, ?_, ?_, cut_rel hB hc hw, kFind.rf, by omega, by show cntR _ (n + 1) s + _ = _; rw [eN]; omega, fun _ _ => rfl⟩
          · rw [hsum]
            exact cB_err (by rw [hif]; exact cB_err hcut)
          · rw [show k / 5 = 0 by omega]
            exact mPartL_0 _ _ _ _ _ _
    · have hsh : cShares ts tb st b s = false := by simpa using hsh
      have eN : cntR (cShares ts tb st b) (n + 1) s = cntR (cShares ts tb st b) n (s + 1) := by
        show (if cShares ts tb st b s = true then 1 else 0) + _ = _
        rw [hsh]
        simp
      rw [eN] at hN ⊢
      have hmS : mIsS th but ow b s = false := by rw [hm s hs]; exact hsh
      have hone : cCopyIf b s (bw, cw, ts, tb, st, ro, mr, la, fu, dn, wr) = (.ok 0, (bw, cw, ts, tb, st, ro, mr, la, fu, dn, wr)) := by
        show (if cShares ts tb st b s = true then _ else _) = _
        rw [hsh]
        rfl
      have hsum : cSum (cCopyIf b) (n + 1) s acc (bw, cw, ts, tb, st, ro, mr, la, fu, dn, wr) = cSum (cCopyIf b) n (s + 1) acc (bw, cw, ts, tb, st, ro, mr, la, fu, dn, wr) := by
        show cB (cCopyIf b s) (fun d => cSum (cCopyIf b) n (s + 1) (acc + d)) _ = _
        rw [cB_ok hone]
        rfl
      have hpart : ∀ left, mPartL th b but (n + 1) s left ow = mPartL th b but n (s + 1) left ow := by
        intro left
        show (if left = 0 then ow else if mIsS th but ow b s = true then _ else mPartL th b but n (s + 1) left ow) = _
        by_cases e : left = 0
        · subst e
          rw [if_pos rfl, mPartL_0]
        · rw [if_neg e, hmS]
          rfl
      obtain ⟨ih1, ih2⟩ := ih (s + 1) acc bw cw ts tb ro mr fu dn wr ow (by omega) hB hm hN
      refine ⟨fun hL => ?_, fun k hk hlt => ?_⟩
      · obtain ⟨cw', ts', tb', ow', r1, r2, r3, r4, r5, r6, r7⟩ := ih1 hL
        refine ⟨cw', ts', tb', ow', by rw [hsum]; exact r1, fun left hl => by rw [hpart]; exact r2 left hl, r3, r4, fun s' g1 g2 => ?_, fun s' g => r6 s' (by omega), r7⟩
        by_cases e : s' = s
        · subst e
          rw [r6 s' (by omega)]
          exact hsh
        · exact r5 s' (by omega) g2
      · obtain ⟨cw', ts', tb', ow', r1, r2, r3, r4, r5, r6, r7⟩ := ih2 k hk hlt
        refine ⟨cw', ts', tb', ow', by rw [hsum]; exact r1, by rw [hpart]; exact r2, r3, r4, r5, ?_, fun s' g => r7 s' (by omega)⟩
        show (if cShares ts' tb' st b s = true then 1 else 0) + _ + _ = _
        rw [r7 s (by omega), hsh]
        simp only [Bool.false_eq_true, if_false]
        omega
