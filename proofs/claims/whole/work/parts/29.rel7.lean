def kcWS (k : Nat) : Nat := match k with
  | 0 => 4
  | 1 => 2
  | 2 => 3
  | _ => 1
theorem va_up_same {α : Type} (f : Nat → α) (k : Nat) : va_up f k (f k) = f := by
  funext j
  unfold va_up
  by_cases h : j = k
  · rw [if_pos h, h]
  · rw [if_neg h]
set_option maxHeartbeats 2000000 in
theorem op_writeS {N : Nat} {σ : SV} {A : SM} (hR : Rel N σ A) (s b i w : Int32) : Agree N kcWS (fun r a => a = r) (cWriteS s b i w σ) (mWriteS s b i w A) := by
  obtain ⟨bw, cw, ts, tb, st, ro, mr, la, fu, dn, wr⟩ := σ
  obtain ⟨co, dn', fu', ct, vo, wo, th, ow, ba, mr'⟩ := A
  obtain ⟨rfl, rfl, rfl, hfu, hla, hB, rfl, h1, h2, h3, h4⟩ := hR
  unfold cWriteS
  cases dn' with
  | true =>
    rw [cB_err up_no]
    exact ⟨rfl, by decide, rfl, rfl, rfl, hfu, hla, hB, rfl, h1, h2, h3, h4⟩
  | false =>
    have hro : ba = 0 := h1 rfl
    subst hro
    rw [cB_ok up_ok]
    rcases has_S hB.2.1 s with ⟨e1, e2⟩ | ⟨k, e1, e2, k3, rfl, ek, k0, kt⟩
    · rw [cB_err (reqS_no e2)]
      simp only [mWriteS, Bool.false_eq_true, if_false, e1]
      exact ⟨rfl, by decide, rfl, rfl, rfl, hfu, hla, hB, rfl, h1, h2, h3, h4⟩
    · rw [cB_ok (reqS_ok e2)]
      cases hb : ixI b 6 with
      | none =>
        rw [cB_err (reqW_no (Or.inl hb) _)]
        simp only [mWriteS, Bool.false_eq_true, if_false, e1, hb]
        exact ⟨rfl, by decide, rfl, rfl, rfl, hfu, hla, hB, rfl, h1, h2, h3, h4⟩
      | some b' =>
        cases hi : ixI i 4 with
        | none =>
          rw [cB_err (reqW_no (Or.inr hi) _)]
          simp only [mWriteS, Bool.false_eq_true, if_false, e1, hb, hi]
          exact ⟨rfl, by decide, rfl, rfl, rfl, hfu, hla, hB, rfl, h1, h2, h3, h4⟩
        | some i' =>
          obtain ⟨eb, hb6⟩ := cN_of (by decide) hb
          obtain ⟨ei, hi4⟩ := cN_of (by decide) hi
          rw [cB_ok (reqW_ok hb hi _)]
          simp only [mWriteS, Bool.false_eq_true, if_false, e1, hb, hi, eb, ei, ek]
          have eO := hB.2.1.2 k k3 k0 b' hb6
          cases hf : cFind ts tb st k b' with
          | some c =>
            rw [hf] at eO
            have eO : ow (6 * k + b') = c + 1 := eO
            have n0 : ¬ ow (6 * k + b') = 0 := by omega
            simp only [n0, false_and, if_false]
            obtain ⟨-, c9, f3, f4⟩ := find_some hf
            rcases fL_or fu' 1 with hL | ⟨j, rfl, hj⟩
            · rw [mLast_ok hL]
              have hp : cPutC c i' w (bw, cw, ts, tb, st, 0, mr, la, fu', false, ct) = (.ok (), (bw, upd cw (c * 4 + i') w, ts, tb, st, 0, mr, la, fT fu' 1, false, ct + 1)) := by
                unfold cPutC
                rw [cB_ok (tick_ok hL)]
              rw [cB_ok hp]
              refine ⟨rfl, by simp [n0, cOk], rfl, rfl, rfl, fT_lt hfu, hla, ⟨hB.1, ?_, fun a ha h0 b2 hb2 i2 hi2 => ?_⟩, rfl, fun _ => rfl, h2, fun h => (by cases h), fun r h => (by cases h)⟩
              · rw [va_up_same]; exact hB.2.1
              · unfold cWord
                by_cases e : a = k ∧ b2 = b'
                · obtain ⟨rfl, rfl⟩ := e
                  rw [hf]
                  show upd wo (24 * a + 4 * b2 + i') w (24 * a + 4 * b2 + i2) = upd cw (c * 4 + i') w (c * 4 + i2)
                  by_cases ei2 : i2 = i'
                  · subst ei2; simp [upd]
                  · have hw := hB.2.2 a ha h0 b2 hb2 i2 hi2
                    unfold cWord at hw
                    rw [hf] at hw
                    unfold upd
                    rw [if_neg (by omega), if_neg (by omega)]
                    exact hw
                · have hw := hB.2.2 a ha h0 b2 hb2 i2 hi2
                  unfold cWord at hw
                  have e1 : upd wo (24 * k + 4 * b' + i') w (24 * a + 4 * b2 + i2) = wo (24 * a + 4 * b2 + i2) := by
                    unfold upd
                    rw [if_neg (by omega)]
                  rw [e1, hw]
                  cases hx : cFind ts tb st a b2 with
                  | none => rfl
                  | some c' =>
                    obtain ⟨-, g2, g3, g4⟩ := find_some hx
                    have hne : c' ≠ c := fun z => by
                      subst z
                      have es := hB.1.2.2.2.2.1 a ha k k3 h0 (g3.symm.trans f3)
                      have eb2 := (nI_eq (a := b2) (b := b') (by omega) (by omega)).mp (g4.symm.trans f4)
                      exact e ⟨es, eb2⟩
                    show cw (c' * 4 + i2) = upd cw (c * 4 + i') w (c' * 4 + i2)
                    unfold upd
                    rw [if_neg (by omega)]
            · have hk0 : j = 0 := by omega
              subst hk0
              rw [mLast_no (by decide)]
              have hp : cPutC c i' w (bw, cw, ts, tb, st, 0, mr, la, some 0, false, ct) = (.error 0, (bw, cw, ts, tb, st, 0, mr, la, none, true, ct)) := rfl
              rw [cB_err hp]
              exact ⟨rfl, by decide, rfl, rfl, rfl, fun k e => (by cases e), hla, hB, rfl, fun h => (by cases h), h2, fun _ => rfl, fun r h => (by cases h)⟩
          | none =>
            rw [hf] at eO
            have eO : ow (6 * k + b') = 0 := eO
            have eU := used_is hB.1 hB.2.1
            simp only [eO, true_and, if_true]
            by_cases hfree : cNF ts st < 1
            · rw [if_pos (by omega), cB_err (show cReqF 1 (bw, cw, ts, tb, st, 0, mr, la, fu', false, ct) = (.error 2, _) from if_pos hfree)]
              exact ⟨rfl, by decide, rfl, rfl, rfl, hfu, hla, hB, rfl, h1, h2, h3, h4⟩
            · rw [if_neg (by omega), cB_ok (show cReqF 1 (bw, cw, ts, tb, st, 0, mr, la, fu', false, ct) = (.ok (), _) from if_neg hfree)]
              obtain ⟨c, hc⟩ := lf_some (ts := ts) (st := st) (by omega)
              rcases fL_or fu' 5 with hL | ⟨j, rfl, hj⟩
              · rw [mLast_ok hL, cB_ok (copy_ok hc hL)]
                refine ⟨rfl, by simp [cOk], rfl, rfl, rfl, fT_lt hfu, hla, ?_, rfl, fun _ => rfl, h2, fun h => (by cases h), fun r h => (by cases h)⟩
                refine copy_rel hB k3 k0 hb6 hc hf (fun i2 hi2 => ?_) (fun j hj => ?_)
                · by_cases ei2 : i2 = i'
                  · subst ei2; simp [upd]
                  · have hw := hB.2.2 k k3 k0 b' hb6 i2 hi2
                    unfold cWord at hw
                    rw [hf] at hw
                    have e1 : ¬ (some i' = some i2) := fun z => ei2 (Option.some.inj z).symm
                    rw [if_neg e1]
                    unfold upd
                    rw [if_neg (by omega)]
                    exact hw
                · unfold upd
                  rw [if_neg (by omega)]
              · rw [mLast_no hj]
                obtain ⟨cw', hw, hcut⟩ := copy_cut (bw := bw) (cw := cw) (tb := tb) (ro := 0) (mr := mr) (la := la) (dn := false) (wr := ct) (s := k) (b := b') (rep := some i') (w := w) hc hj
                rw [cB_err hcut]
                exact ⟨rfl, by decide, rfl, rfl, rfl, fun k e => (by cases e), hla, cut_rel hB hc hw, rfl, fun h => (by cases h), h2, fun _ => rfl, fun r h => (by cases h)⟩
theorem wf_is {ts tb st : Nat → Int32} {th : Nat → Bool} {ow : Nat → Nat} (hO : rOw ts tb st th ow) {s : Nat} (hs : s < 3) (h0 : st s ≠ 0) : ∀ {n b : Nat}, b + n ≤ 6 → mWF th ow s n b = wf ts tb st s n b := by
  intro n
  induction n with
  | zero => intro b _; rfl
  | succ n ih =>
    intro b h
    show (if mHas ow s b then _ else 0) + mWF th ow s n (b + 1) = (if (cFind ts tb st s b).isSome then _ else 0) + wf ts tb st s n (b + 1)
    rw [ih (by omega), has_is hO hs h0 (by omega)]
    cases hf : cFind ts tb st s b with
    | none => rfl
    | some c => rw [shr_is hO (by omega) hf]
theorem need_is {ts tb st : Nat → Int32} {th : Nat → Bool} {ow : Nat → Nat} (hO : rOw ts tb st th ow) {s : Nat} (hs : s < 3) (h0 : st s ≠ 0) : mNeed th ow s = cNM ts tb st s := by
  refine sm_congr fun b hb => ?_
  rw [has_is hO hs h0 hb]
  cases hf : cFind ts tb st s b with
  | none => rfl
  | some c => rw [shr_is hO hb hf]
theorem nm_nd (ts tb st : Nat → Int32) (s : Nat) : cNM ts tb st s = nd ts tb st s 6 0 := by
  simp only [cNM, sm, nd, Nat.zero_add, Nat.reduceAdd]
  omega
def kcRo (k : Nat) : Nat := match k with
  | 0 => 3
  | 2 => 2
  | _ => 1
theorem nd_none {ts tb st : Nat → Int32} {s : Nat} : ∀ {n b : Nat}, b + n ≤ 6 → (∀ b', b ≤ b' → b' < 6 → cFind ts tb st s b' = none) → nd ts tb st s n b = 0 := by
  intro n
  induction n with
  | zero => intro b _ _; rfl
  | succ n ih =>
    intro b h1 h2
    show (if (cFind ts tb st s b).isSome then _ else 0) + nd ts tb st s n (b + 1) = 0
    rw [h2 b (Nat.le_refl _) (by omega), ih (by omega) (fun b' g1 g2 => h2 b' (by omega) g2)]
    rfl
set_option maxHeartbeats 2000000 in
theorem op_roll {N : Nat} {σ : SV} {A : SM} (hR : Rel N σ A) (s : Int32) : Agree N kcRo (fun r a => a = r) (cRoll s σ) (mRoll s A) := by
  obtain ⟨bw, cw, ts, tb, st, ro, mr, la, fu, dn, wr⟩ := σ
  obtain ⟨co, dn', fu', ct, vo, wo, th, ow, ba, mr'⟩ := A
  obtain ⟨rfl, rfl, rfl, hfu, hla, hB, rfl, h1, h2, h3, h4⟩ := hR
  unfold cRoll
  cases dn' with
  | true =>
    rw [cB_err up_no]
    exact ⟨rfl, by decide, rfl, rfl, rfl, hfu, hla, hB, rfl, h1, h2, h3, h4⟩
  | false =>
    have hro : ba = 0 := h1 rfl
    subst hro
    rw [cB_ok up_ok]
    rcases has_S hB.2.1 s with ⟨e1, e2⟩ | ⟨k, e1, e2, k3, rfl, ek, k0, kt⟩
    · rw [cB_err (reqS_no e2)]
      simp only [mRoll, Bool.false_eq_true, if_false, e1]
      exact ⟨rfl, by decide, rfl, rfl, rfl, hfu, hla, hB, rfl, h1, h2, h3, h4⟩
    · rw [cB_ok (reqS_ok e2)]
      have eN := need_is hB.2.1 k3 k0
      have eW := wf_is hB.2.1 k3 k0 (n := 6) (b := 0) (by decide)
      have eU := used_is hB.1 hB.2.1
      simp only [mRoll, Bool.false_eq_true, if_false, e1, eN, eW, ek]
      rw [show 9 - mUsed th ow = cNF ts st by omega]
      by_cases hfree : cNF ts st < cNM ts tb st k
      · rw [if_pos hfree, cB_err (show cReqF (cNM ts tb st k) (bw, cw, ts, tb, st, 0, mr, la, fu', false, ct) = (.error 2, _) from if_pos hfree)]
        exact ⟨rfl, by decide, rfl, rfl, rfl, hfu, hla, hB, rfl, h1, h2, h3, h4⟩
      · rw [if_neg hfree, cB_ok (show cReqF (cNM ts tb st k) (bw, cw, ts, tb, st, 0, mr, la, fu', false, ct) = (.ok (), _) from if_neg hfree)]
        have hnd : nd ts tb st k 6 0 ≤ cNF ts st := by rw [← nm_nd]; omega
        have hV := h2 rfl
        have hdV : dV ts tb st k 0 bw vo := fun j hj hne => absurd (hV j hj) hne
        have hpM : ∀ {f : Option Nat}, fL f 1 → cPutM 0 (bw, cw, ts, tb, st, 0, mr, la, f, false, ct) = (.ok (), (bw, cw, ts, tb, st, 0, 0, la, fT f 1, false, ct + 1)) := fun h => by
          unfold cPutM
          rw [cB_ok (tick_ok h)]
        have hpR : ∀ {f : Option Nat}, fL f 1 → cPutR (1 + k) (bw, cw, ts, tb, st, 0, 0, la, f, false, ct + 1) = (.ok (), (bw, cw, ts, tb, st, 1 + k, 0, la, fT f 1, false, ct + 1 + 1)) := fun h => by
          unfold cPutR
          rw [cB_ok (tick_ok h)]
        rcases fL_or fu' (3 + wf ts tb st k 6 0) with hL | ⟨j, rfl, hj⟩
        · rw [mLast_ok hL]
          obtain ⟨l1, l2⟩ := fL_T (a := 1) (b := 2 + wf ts tb st k 6 0) (by rw [show 1 + (2 + wf ts tb st k 6 0) = 3 + wf ts tb st k 6 0 by omega]; exact hL)
          obtain ⟨l3, l4⟩ := fL_T (a := 1) (b := 1 + wf ts tb st k 6 0) (by rw [show 1 + (1 + wf ts tb st k 6 0) = 2 + wf ts tb st k 6 0 by omega]; exact l2)
          obtain ⟨l5, l6⟩ := fL_T (a := wf ts tb st k 6 0) (b := 1) (by rw [show wf ts tb st k 6 0 + 1 = 1 + wf ts tb st k 6 0 by omega]; exact l4)
          obtain ⟨bw', cw', ts', tb', vo', mr2, acc', ow', r1, r2, r3, r4, r5, r6, r7⟩ := merges_ok (wo := wo) (th := th) k3 k0 6 0 0 bw cw ts tb vo (1 + k) 0 (fT (fT fu' 1) 1) false (ct + 1 + 1) ow rfl (Nat.le_refl _) (fun b' z1 z2 => by omega) hB hdV hnd l5
          rw [r2, cB_ok (hpM l1), cB_ok (hpR l3)]
          have hm : cMerge k (bw, cw, ts, tb, st, 1 + k, 0, la, fT (fT fu' 1) 1, false, ct + 1 + 1) = (.ok acc', (bw', cw', ts', tb', st, 0, mr2, la, fT fu' (3 + wf ts tb st k 6 0), false, ct + (3 + wf ts tb st k 6 0))) := by
            show cB (cSum (cMerge1 k) 6 0 0) (fun n => cB (cPutR 0) (fun _ => cOk n)) _ = _
            rw [cB_ok r1]
            have hpr : cPutR 0 (bw', cw', ts', tb', st, 1 + k, mr2, la, fT (fT (fT fu' 1) 1) (wf ts tb st k 6 0), false, ct + 1 + 1 + wf ts tb st k 6 0) = (.ok (), (bw', cw', ts', tb', st, 0, mr2, la, fT (fT (fT (fT fu' 1) 1) (wf ts tb st k 6 0)) 1, false, ct + 1 + 1 + wf ts tb st k 6 0 + 1)) := by
              unfold cPutR
              rw [cB_ok (tick_ok l6)]
            rw [cB_ok hpr]
            simp only [fT_T, cOk]
            rw [show 1 + 1 + wf ts tb st k 6 0 + 1 = 3 + wf ts tb st k 6 0 by omega, show ct + 1 + 1 + wf ts tb st k 6 0 + 1 = ct + (3 + wf ts tb st k 6 0) by omega]
          rw [hm]
          exact ⟨rfl, rfl, rfl, rfl, rfl, fT_lt hfu, hla, r3, rfl, fun _ => rfl, fun _ => r4, fun h => (by cases h), fun r h => (by cases h)⟩
        · rw [mLast_no hj]
          rcases (show j = 0 ∨ j = 1 ∨ 2 ≤ j by omega) with rfl | rfl | hj2
          · rw [cB_err (show cPutM 0 (bw, cw, ts, tb, st, 0, mr, la, some 0, false, ct) = (.error 0, (bw, cw, ts, tb, st, 0, mr, la, none, true, ct)) from rfl)]
            exact ⟨rfl, by decide, rfl, rfl, rfl, fun k e => (by cases e), hla, hB, rfl, fun h => (by cases h), h2, fun _ => rfl, fun r h => (by cases h)⟩
          · rw [cB_ok (hpM (f := some 1) (fun j e => by cases e; exact Nat.le_refl _)), cB_err (show cPutR (1 + k) (bw, cw, ts, tb, st, 0, 0, la, fT (some 1) 1, false, ct + 1) = (.error 0, (bw, cw, ts, tb, st, 0, 0, la, none, true, ct + 1)) from rfl)]
            exact ⟨rfl, by decide, rfl, rfl, rfl, fun k e => (by cases e), hla, hB, rfl, fun h => (by cases h), h2, fun _ => rfl, fun r h => (by cases h)⟩
          · have hg : ¬ (some j).getD 0 < 2 := by simp; omega
            rw [cB_ok (hpM (f := some j) (fun i e => by cases e; omega)), cB_ok (hpR (f := fT (some j) 1) (fun i e => by simp [fT] at e; omega))]
            simp only [hg, if_false]
            have ef : fT (fT (some j) 1) 1 = some (j - 2) := by simp [fT]; omega
            rw [ef]
            show Agree N kcRo _ (cB (cSum (cMerge1 k) 6 0 0) (fun n => cB (cPutR 0) (fun _ => cOk n)) (bw, cw, ts, tb, st, 1 + k, 0, la, some (j - 2), false, ct + 1 + 1)) _
            rcases Nat.lt_or_ge (j - 2) (wf ts tb st k 6 0) with hlt | hge
            · obtain ⟨bw', cw', ts', tb', vo', mr2, ow', r1, r2, r3, r4, r5, r6⟩ := merges_cut (wo := wo) (th := th) k3 k0 6 0 0 (j - 2) bw cw ts tb vo (1 + k) 0 false (ct + 1 + 1) ow rfl (Nat.le_refl _) (fun b' z1 z2 => by omega) hB hV hnd hlt
              rw [cB_err r1]
              have r2' : mCutL th wo k 6 0 ((some j).getD 0 - 2) 0 vo ow = (mr2, vo', ow') := r2
              rw [r2']
              refine ⟨rfl, by decide, rfl, rfl, ?_, fun k e => (by cases e), hla, r3, by omega, fun h => (by cases h), fun h => by omega, fun _ => rfl, fun r h => ?_⟩
              · show ct + j = ct + 1 + 1 + (j - 2)
                omega
              · obtain rfl : r = k := by omega
                exact ⟨k3, k0, rfl, r4, r5, r6⟩
            · obtain ⟨bw', cw', ts', tb', vo', mr2, acc', ow', r1, r2, r3, r4, r5, r6, r7⟩ := merges_ok (wo := wo) (th := th) k3 k0 6 0 0 bw cw ts tb vo (1 + k) 0 (some (j - 2)) false (ct + 1 + 1) ow rfl (Nat.le_refl _) (fun b' z1 z2 => by omega) hB hdV hnd (fun i e => by cases e; exact hge)
              have e0 : j - 2 = wf ts tb st k 6 0 := by omega
              rw [cB_ok r1]
              have r2' : mCutL th wo k 6 0 ((some j).getD 0 - 2) 0 vo ow = (mr2, vo', ow') := r7 (j - 2) rfl
              rw [r2']
              have hp : cPutR 0 (bw', cw', ts', tb', st, 1 + k, mr2, la, fT (some (j - 2)) (wf ts tb st k 6 0), false, ct + 1 + 1 + wf ts tb st k 6 0) = (.error 0, (bw', cw', ts', tb', st, 1 + k, mr2, la, none, true, ct + 1 + 1 + wf ts tb st k 6 0)) := by
                rw [e0]
                unfold cPutR
                refine cB_err ?_
                simp [fT, cTick]
              rw [cB_err hp]
              refine ⟨rfl, by decide, rfl, rfl, ?_, fun k e => (by cases e), hla, r3, by omega, fun h => (by cases h), fun h => by omega, fun _ => rfl, fun r h => ?_⟩
              · show ct + j = ct + 1 + 1 + wf ts tb st k 6 0
                omega
              · obtain rfl : r = k := by omega
                exact ⟨k3, k0, rfl, r5, fun i hi hne => absurd (r4 i hi) hne, by rw [nd_none (by omega) r6]; omega⟩
def kcX (k : Nat) : Nat := match k with
  | _ => 1
set_option maxHeartbeats 1000000 in
theorem op_rec {N : Nat} {σ : SV} {A : SM} (hR : Rel N σ A) : Agree N kcX (fun r a => a = r) (cRec σ) (mRec A) := by
  obtain ⟨bw, cw, ts, tb, st, ro, mr, la, fu, dn, wr⟩ := σ
  obtain ⟨co, dn', fu', ct, vo, wo, th, ow, ba, mr'⟩ := A
  obtain ⟨rfl, rfl, rfl, hfu, hla, hB, rfl, h1, h2, h3, h4⟩ := hR
  cases dn' with
  | false => exact ⟨rfl, by decide, rfl, rfl, rfl, hfu, hla, hB, rfl, h1, h2, h3, h4⟩
  | true =>
    have ef := h3 rfl
    subst ef
    cases ba with
    | zero => exact ⟨rfl, rfl, rfl, rfl, rfl, hfu, hla, hB, rfl, fun _ => rfl, h2, fun h => (by cases h), fun r h => (by cases h)⟩
    | succ r =>
      obtain ⟨k3, k0, rfl, m6, hdV, hnd⟩ := h4 r rfl
      obtain ⟨bw', cw', ts', tb', vo', mr2, acc', ow', r1, r2, r3, r4, r5, r6, r7⟩ := merges_ok (wo := wo) (th := th) k3 k0 (6 - mr') mr' 0 bw cw ts tb vo (r + 1) mr' none false ct ow (by omega) (Nat.le_refl _) (fun b' z1 z2 => by omega) hB hdV hnd (fun i e => by cases e)
      have eW := wf_is hB.2.1 k3 k0 (n := 6 - mr') (b := mr') (by omega)
      have hc : cRec (bw, cw, ts, tb, st, r + 1, mr', la, none, true, ct) = (.ok acc', (bw', cw', ts', tb', st, 0, mr2, la, none, false, ct + wf ts tb st r (6 - mr') mr' + 1)) := by
        show cB (cSum (cMerge1 r) (6 - mr') mr' 0) (fun n => cB (cPutR 0) (fun _ => cOk n)) (bw, cw, ts, tb, st, r + 1, mr', la, none, false, ct) = _
        rw [cB_ok r1]
        rfl
      rw [hc]
      simp only [mRec, if_true, r2, eW]
      exact ⟨rfl, rfl, rfl, rfl, rfl, fun k e => (by cases e), hla, r3, rfl, fun _ => rfl, fun _ => r4, fun h => (by cases h), fun r h => (by cases h)⟩
theorem op_fuse {N : Nat} {σ : SV} {A : SM} (hR : Rel N σ A) (n : Int32) : (mFuse n A).1 = (cFuse n σ).1 ∧ Rel N (cFuse n σ).2 (mFuse n A).2 := by
  obtain ⟨bw, cw, ts, tb, st, ro, mr, la, fu, dn, wr⟩ := σ
  obtain ⟨co, dn', fu', ct, vo, wo, th, ow, ba, mr'⟩ := A
  obtain ⟨rfl, rfl, rfl, hfu, hla, hB, rfl, h1, h2, h3, h4⟩ := hR
  unfold mFuse cFuse
  by_cases h : dn' = true ∨ n < -1
  · have h' : n < -1 ∨ dn' = true := h.symm
    simp only [h, h', if_true]
    exact ⟨trivial, rfl, rfl, rfl, hfu, hla, hB, rfl, h1, h2, h3, h4⟩
  · have h' : ¬ (n < -1 ∨ dn' = true) := fun z => h z.symm
    simp only [h, h', if_false]
    refine ⟨trivial, rfl, rfl, rfl, fun k e => ?_, hla, hB, rfl, h1, h2, fun z => absurd (Or.inl z) h, h4⟩
    by_cases hn : n < 0
    · rw [if_pos hn] at e; cases e
    · rw [if_neg hn] at e
      obtain ⟨j, hj, rfl⟩ := nI_of hn
      rw [nI_clamp hj] at e
      cases e
      exact hj
theorem op_used {N : Nat} {σ : SV} {A : SM} (hR : Rel N σ A) : Agree N kcX (fun r a => a = r) (cUsed σ) (mUsedC A) := by
  obtain ⟨bw, cw, ts, tb, st, ro, mr, la, fu, dn, wr⟩ := σ
  obtain ⟨co, dn', fu', ct, vo, wo, th, ow, ba, mr'⟩ := A
  obtain ⟨rfl, rfl, rfl, hfu, hla, hB, rfl, h1, h2, h3, h4⟩ := hR
  unfold cUsed
  cases dn' with
  | true =>
    rw [cB_err up_no]
    exact ⟨rfl, by decide, rfl, rfl, rfl, hfu, hla, hB, rfl, h1, h2, h3, h4⟩
  | false =>
    rw [cB_ok up_ok]
    have eU := used_is hB.1 hB.2.1
    refine ⟨rfl, ?_, rfl, rfl, rfl, hfu, hla, hB, rfl, h1, h2, h3, h4⟩
    show mUsed th ow = 9 - cNF ts st
    omega
theorem op_copyOf {N : Nat} {σ : SV} {A : SM} (hR : Rel N σ A) (s b : Int32) : Agree N kcRS (fun r a => a = r) (cCopyOf s b σ) (mCopyOf s b A) := by
  obtain ⟨bw, cw, ts, tb, st, ro, mr, la, fu, dn, wr⟩ := σ
  obtain ⟨co, dn', fu', ct, vo, wo, th, ow, ba, mr'⟩ := A
  obtain ⟨rfl, rfl, rfl, hfu, hla, hB, rfl, h1, h2, h3, h4⟩ := hR
  unfold cCopyOf
  cases dn' with
  | true =>
    rw [cB_err up_no]
    exact ⟨rfl, by decide, rfl, rfl, rfl, hfu, hla, hB, rfl, h1, h2, h3, h4⟩
  | false =>
    rw [cB_ok up_ok]
    rcases has_S hB.2.1 s with ⟨e1, e2⟩ | ⟨k, e1, e2, k3, rfl, ek, k0, kt⟩
    · rw [cB_err (reqS_no e2)]
      simp only [mCopyOf, Bool.false_eq_true, if_false, e1]
      exact ⟨rfl, by decide, rfl, rfl, rfl, hfu, hla, hB, rfl, h1, h2, h3, h4⟩
    · rw [cB_ok (reqS_ok e2)]
      cases hb : ixI b 6 with
      | none =>
        rw [cB_err (show cReqB b (bw, cw, ts, tb, st, ba, mr, la, fu', false, ct) = (.error 1, _) by unfold cReqB; rw [hb]; rfl)]
        simp only [mCopyOf, Bool.false_eq_true, if_false, e1, hb]
        exact ⟨rfl, by decide, rfl, rfl, rfl, hfu, hla, hB, rfl, h1, h2, h3, h4⟩
      | some b' =>
        obtain ⟨eb, hb6⟩ := cN_of (by decide) hb
        rw [cB_ok (show cReqB b (bw, cw, ts, tb, st, ba, mr, la, fu', false, ct) = (.ok (), _) by unfold cReqB; rw [hb]; rfl)]
        simp only [mCopyOf, Bool.false_eq_true, if_false, e1, hb]
        refine ⟨rfl, ?_, rfl, rfl, rfl, hfu, hla, hB, rfl, h1, h2, h3, h4⟩
        have eO := hB.2.1.2 k k3 k0 b' hb6
        show _ = cFind ts tb st (cN (nI k)) (cN b)
        rw [ek, eb, eO]
        cases cFind ts tb st k b' <;> rfl
theorem op_places {N : Nat} {σ : SV} {A : SM} (hR : Rel N σ A) : Agree N kcX (fun r a => a = r) (cPlaces σ) (mPlaces A) := by
  obtain ⟨bw, cw, ts, tb, st, ro, mr, la, fu, dn, wr⟩ := σ
  obtain ⟨co, dn', fu', ct, vo, wo, th, ow, ba, mr'⟩ := A
  obtain ⟨rfl, rfl, rfl, hfu, hla, hB, rfl, h1, h2, h3, h4⟩ := hR
  unfold cPlaces
  cases dn' with
  | true =>
    rw [cB_err up_no]
    exact ⟨rfl, by decide, rfl, rfl, rfl, hfu, hla, hB, rfl, h1, h2, h3, h4⟩
  | false =>
    rw [cB_ok up_ok]
    refine ⟨rfl, ?_, rfl, rfl, rfl, hfu, hla, hB, rfl, h1, h2, h3, h4⟩
    have t0 := hB.2.1.1 0 (by decide)
    have t1 := hB.2.1.1 1 (by decide)
    have t2 := hB.2.1.1 2 (by decide)
    show (if th 0 then 1 else 0) + (if th 1 then 2 else 0) + (if th 2 then 4 else 0) = cPl st
    rw [t0, t1, t2]
    unfold cPl sm sm sm sm
    by_cases g0 : st 0 = 0 <;> by_cases g1 : st 1 = 0 <;> by_cases g2 : st 2 = 0 <;> simp [g0, g1, g2]
theorem all4 {f g : Nat → Bool} (h : ∀ i, i < 4 → f i = g i) : (List.range 4).all f = (List.range 4).all g := by
  show (f 0 && (f 1 && (f 2 && (f 3 && true)))) = (g 0 && (g 1 && (g 2 && (g 3 && true))))
  rw [h 0 (by decide), h 1 (by decide), h 2 (by decide), h 3 (by decide)]
def kcC (k : Nat) : Nat := match k with
  | 0 => 2
  | _ => 1
theorem op_changed {N : Nat} {σ : SV} {A : SM} (hR : Rel N σ A) (s : Int32) : Agree N kcC (fun r a => a = r) (cChanged s σ) (mChanged s A) := by
  obtain ⟨bw, cw, ts, tb, st, ro, mr, la, fu, dn, wr⟩ := σ
  obtain ⟨co, dn', fu', ct, vo, wo, th, ow, ba, mr'⟩ := A
  obtain ⟨rfl, rfl, rfl, hfu, hla, hB, rfl, h1, h2, h3, h4⟩ := hR
  unfold cChanged
  cases dn' with
  | true =>
    rw [cB_err up_no]
    exact ⟨rfl, by decide, rfl, rfl, rfl, hfu, hla, hB, rfl, h1, h2, h3, h4⟩
  | false =>
    rw [cB_ok up_ok]
    rcases has_S hB.2.1 s with ⟨e1, e2⟩ | ⟨k, e1, e2, k3, rfl, ek, k0, kt⟩
    · rw [cB_err (reqS_no e2)]
      simp only [mChanged, Bool.false_eq_true, if_false, e1]
      exact ⟨rfl, by decide, rfl, rfl, rfl, hfu, hla, hB, rfl, h1, h2, h3, h4⟩
    · rw [cB_ok (reqS_ok e2)]
      simp only [mChanged, Bool.false_eq_true, if_false, e1]
      refine ⟨rfl, ?_, rfl, rfl, rfl, hfu, hla, hB, rfl, h1, h2, h3, h4⟩
      show cnt (fun b => ! mSame vo wo k b) 6 = cCh bw cw ts tb st (cN (nI k))
      rw [ek]
      refine cnt_congr fun b hb => ?_
      unfold mSame cDiff
      have hV := h2 (h1 rfl)
      rw [all4 (fun i hi => show decide (wo (24 * k + 4 * b + i) = vo (4 * b + i)) = decide (cWord bw cw ts tb st k b i = bw (b * 4 + i)) by rw [hB.2.2 k k3 k0 b hb i hi, hV _ (by omega), show 4 * b + i = b * 4 + i by omega])]
