def kcR (k : Nat) : Nat := match k with
  | 0 => 2
  | k => k
theorem op_read {N : Nat} {σ : SV} {A : SM} (hR : Rel N σ A) (b i : Int32) : Agree N kcR (fun r a => a = r) (cRead b i σ) (mRead b i A) := by
  obtain ⟨bw, cw, ts, tb, st, ro, mr, la, fu, dn, wr⟩ := σ
  obtain ⟨co, dn', fu', ct, vo, wo, th, ow, ba, mr'⟩ := A
  obtain ⟨rfl, rfl, rfl, hfu, hla, hB, rfl, h1, h2, h3, h4⟩ := hR
  unfold cRead
  cases dn' with
  | true =>
    rw [cB_err up_no]
    exact ⟨rfl, by decide, rfl, rfl, rfl, hfu, hla, hB, rfl, h1, h2, h3, h4⟩
  | false =>
    rw [cB_ok up_ok]
    cases hb : ixI b 6 with
    | none =>
      rw [cB_err (reqW_no (Or.inl hb) _)]
      simp only [mRead, Bool.false_eq_true, if_false, hb]
      exact ⟨rfl, by decide, rfl, rfl, rfl, hfu, hla, hB, rfl, h1, h2, h3, h4⟩
    | some b' =>
      cases hi : ixI i 4 with
      | none =>
        rw [cB_err (reqW_no (Or.inr hi) _)]
        simp only [mRead, Bool.false_eq_true, if_false, hb, hi]
        exact ⟨rfl, by decide, rfl, rfl, rfl, hfu, hla, hB, rfl, h1, h2, h3, h4⟩
      | some i' =>
        obtain ⟨eb, hb6⟩ := cN_of (by decide) hb
        obtain ⟨ei, hi4⟩ := cN_of (by decide) hi
        rw [cB_ok (reqW_ok hb hi _)]
        simp only [mRead, Bool.false_eq_true, if_false, hb, hi]
        refine ⟨rfl, ?_, rfl, rfl, rfl, hfu, hla, hB, rfl, h1, h2, h3, h4⟩
        show vo (4 * b' + i') = bw (cN b * 4 + cN i)
        rw [eb, ei, h2 (h1 rfl) _ (by omega), show 4 * b' + i' = b' * 4 + i' by omega]
theorem has_S {ts tb st : Nat → Int32} {th : Nat → Bool} {ow : Nat → Nat} (hO : rOw ts tb st th ow) (s : Int32) : (mHasS th s = none ∧ cHas st s = false) ∨ ∃ k, mHasS th s = some k ∧ cHas st s = true ∧ k < 3 ∧ s = nI k ∧ cN s = k ∧ st k ≠ 0 ∧ th k = true := by
  unfold mHasS cHas
  cases hs : ixI s 3 with
  | none => exact Or.inl ⟨rfl, rfl⟩
  | some k =>
    obtain ⟨h1, h2⟩ := ixI_some (by decide) hs
    obtain ⟨h3, -⟩ := cN_of (by decide) hs
    simp only
    rw [hO.1 k h1]
    by_cases h0 : st k = 0
    · left; simp [h0]
    · right
      refine ⟨k, by simp [h0], by simp [h0], h1, h2, h3, h0, by rw [hO.1 k h1]; simp [h0]⟩
theorem reqS_ok {bw cw ts tb st : Nat → Int32} {ro mr la : Nat} {fu : Option Nat} {dn : Bool} {wr : Nat} {s : Int32} (h : cHas st s = true) : cReqS s (bw, cw, ts, tb, st, ro, mr, la, fu, dn, wr) = (.ok (), (bw, cw, ts, tb, st, ro, mr, la, fu, dn, wr)) := if_pos h
theorem reqS_no {bw cw ts tb st : Nat → Int32} {ro mr la : Nat} {fu : Option Nat} {dn : Bool} {wr : Nat} {s : Int32} (h : cHas st s = false) : cReqS s (bw, cw, ts, tb, st, ro, mr, la, fu, dn, wr) = (.error 3, (bw, cw, ts, tb, st, ro, mr, la, fu, dn, wr)) := if_neg (by rw [h]; decide)
def kcRS (k : Nat) : Nat := match k with
  | 0 => 3
  | 1 => 2
  | _ => 1
theorem op_readS {N : Nat} {σ : SV} {A : SM} (hR : Rel N σ A) (s b i : Int32) : Agree N kcRS (fun r a => a = r) (cReadS s b i σ) (mReadS s b i A) := by
  obtain ⟨bw, cw, ts, tb, st, ro, mr, la, fu, dn, wr⟩ := σ
  obtain ⟨co, dn', fu', ct, vo, wo, th, ow, ba, mr'⟩ := A
  obtain ⟨rfl, rfl, rfl, hfu, hla, hB, rfl, h1, h2, h3, h4⟩ := hR
  unfold cReadS
  cases dn' with
  | true =>
    rw [cB_err up_no]
    exact ⟨rfl, by decide, rfl, rfl, rfl, hfu, hla, hB, rfl, h1, h2, h3, h4⟩
  | false =>
    rw [cB_ok up_ok]
    rcases has_S hB.2.1 s with ⟨e1, e2⟩ | ⟨k, e1, e2, k3, rfl, ek, k0, kt⟩
    · rw [cB_err (reqS_no e2)]
      simp only [mReadS, Bool.false_eq_true, if_false, e1]
      exact ⟨rfl, by decide, rfl, rfl, rfl, hfu, hla, hB, rfl, h1, h2, h3, h4⟩
    · rw [cB_ok (reqS_ok e2)]
      cases hb : ixI b 6 with
      | none =>
        rw [cB_err (reqW_no (Or.inl hb) _)]
        simp only [mReadS, Bool.false_eq_true, if_false, e1, hb]
        exact ⟨rfl, by decide, rfl, rfl, rfl, hfu, hla, hB, rfl, h1, h2, h3, h4⟩
      | some b' =>
        cases hi : ixI i 4 with
        | none =>
          rw [cB_err (reqW_no (Or.inr hi) _)]
          simp only [mReadS, Bool.false_eq_true, if_false, e1, hb, hi]
          exact ⟨rfl, by decide, rfl, rfl, rfl, hfu, hla, hB, rfl, h1, h2, h3, h4⟩
        | some i' =>
          obtain ⟨eb, hb6⟩ := cN_of (by decide) hb
          obtain ⟨ei, hi4⟩ := cN_of (by decide) hi
          rw [cB_ok (reqW_ok hb hi _)]
          simp only [mReadS, Bool.false_eq_true, if_false, e1, hb, hi]
          refine ⟨rfl, ?_, rfl, rfl, rfl, hfu, hla, hB, rfl, h1, h2, h3, h4⟩
          show wo (24 * k + 4 * b' + i') = cWord bw cw ts tb st (cN (nI k)) (cN b) (cN i)
          rw [ek, eb, ei, hB.2.2 k k3 k0 b' hb6 i' hi4]
theorem le_is {ts tb st : Nat → Int32} {th : Nat → Bool} {ow : Nat → Nat} (hO : rOw ts tb st th ow) : (cLE st = none ∧ mLE th = 3) ∨ ∃ s, s < 3 ∧ cLE st = some s ∧ mLE th = s ∧ st s = 0 := by
  have t0 := hO.1 0 (by decide)
  have t1 := hO.1 1 (by decide)
  have t2 := hO.1 2 (by decide)
  unfold mLE
  rw [t0, t1, t2]
  by_cases h0 : st 0 = 0
  · right; exact ⟨0, by decide, by simp [cLE, fst, h0], by simp [h0], h0⟩
  · by_cases h1 : st 1 = 0
    · right; exact ⟨1, by decide, by simp [cLE, fst, h0, h1], by simp [h0, h1], h1⟩
    · by_cases h2 : st 2 = 0
      · right; exact ⟨2, by decide, by simp [cLE, fst, h0, h1, h2], by simp [h0, h1, h2], h2⟩
      · left; exact ⟨by simp [cLE, fst, h0, h1, h2], by simp [h0, h1, h2]⟩
theorem find_st {ts tb st st' : Nat → Int32} {s b : Nat} (h : st' s = st s) : cFind ts tb st' s b = cFind ts tb st s b := by
  unfold cFind
  rw [h]
  by_cases h0 : st s = 0
  · rw [if_pos h0, if_pos h0]
  · rw [if_neg h0, if_neg h0]
    refine fst_congr fun j _ _ => ?_
    unfold cTag
    rw [h]
theorem fillW_in {wo vo : Nat → Int32} {a n k : Nat} (h : k < n) : fillW wo vo a n (a + k) = vo k := by
  unfold fillW
  rw [if_pos ⟨by omega, by omega⟩]
  congr 1
  omega
theorem fillW_out {wo vo : Nat → Int32} {a n k : Nat} (h : k < a ∨ a + n ≤ k) : fillW wo vo a n k = wo k := if_neg (by omega)
theorem fillO_in {ow : Nat → Nat} {a n k : Nat} (h : k < n) : fillO ow a n (a + k) = 0 := if_pos ⟨by omega, by omega⟩
theorem fillO_out {ow : Nat → Nat} {a n k : Nat} (h : k < a ∨ a + n ≤ k) : fillO ow a n k = ow k := if_neg (by omega)
def kcS (k : Nat) : Nat := match k with
  | 0 => 2
  | _ => 1
set_option maxHeartbeats 1000000 in
theorem op_snap {N : Nat} {σ : SV} {A : SM} (hR : Rel N σ A) (hN : N + 1 < 2 ^ 30) : Agree (N + 1) kcS (fun r a => a = r) (cSnap σ) (mSnap A) := by
  obtain ⟨bw, cw, ts, tb, st, ro, mr, la, fu, dn, wr⟩ := σ
  obtain ⟨co, dn', fu', ct, vo, wo, th, ow, ba, mr'⟩ := A
  obtain ⟨rfl, rfl, rfl, hfu, hla, hB, rfl, h1, h2, h3, h4⟩ := hR
  unfold cSnap
  cases dn' with
  | true =>
    rw [cB_err up_no]
    exact ⟨rfl, by decide, rfl, rfl, rfl, hfu, by omega, hB, rfl, h1, h2, h3, h4⟩
  | false =>
    have hro : ba = 0 := h1 rfl
    subst hro
    rw [cB_ok up_ok]
    rcases le_is hB.2.1 with ⟨e1, e2⟩ | ⟨s, hs, e1, e2, hst⟩
    · simp only [mSnap, Bool.false_eq_true, if_false, e1, e2, if_true]
      exact ⟨rfl, by decide, rfl, rfl, rfl, hfu, by omega, hB, rfl, h1, h2, h3, h4⟩
    · have ne3 : ¬ s = 3 := by omega
      simp only [mSnap, Bool.false_eq_true, if_false, e1, e2, ne3]
      rcases fL_or fu' 1 with hL | ⟨k, rfl, hk⟩
      · rw [mLast_ok hL]
        have hp : cPutS s (nI (la + 1)) (bw, cw, ts, tb, st, 0, mr, la, fu', false, ct) = (.ok (), (bw, cw, ts, tb, upd st s (nI (la + 1)), 0, mr, la, fT fu' 1, false, ct + 1)) := by
          unfold cPutS
          rw [cB_ok (tick_ok hL)]
        rw [cB_ok hp]
        show Agree (N + 1) kcS (fun r a => a = r) (.ok s, (bw, cw, ts, tb, upd st s (nI (la + 1)), 0, mr, la + 1, fT fu' 1, false, ct + 1)) _
        obtain ⟨hI, hO, hW⟩ := hB
        obtain ⟨i1, i2, i3, i4, i5, i6⟩ := id hI
        have hnew : ∀ k, k ≤ la → nI (la + 1) ≠ nI k := fun k hk => nI_ne (by omega) (by omega) (by omega)
        have hn0 : nI (la + 1) ≠ 0 := nI_ne (b := 0) (by omega) (by decide) (by omega)
        have hts : ∀ c, c < 9 → ts c ≠ nI (la + 1) := fun c hc e => by
          rcases i3 c hc with z | ⟨k, -, g2, z⟩
          · rw [z] at e
            have := congrArg Int32.toInt e
            rw [nI_toInt (by omega)] at this
            have e2 : (-1 : Int32).toInt = -1 := by decide
            rw [e2] at this
            omega
          · exact hnew k g2 (e.symm.trans z)
        have hs' : ∀ s', s' < 3 → s' ≠ s → upd st s (nI (la + 1)) s' = st s' := fun s' _ h => by unfold upd; rw [if_neg h]
        have hss : upd st s (nI (la + 1)) s = nI (la + 1) := by simp [upd]
        have hfs : ∀ b, cFind ts tb (upd st s (nI (la + 1))) s b = none := fun b => by
          unfold cFind
          rw [hss, if_neg hn0]
          refine fst_nil fun j _ hj => ?_
          unfold cTag
          rw [hss]
          simp [hts j (by omega)]
        refine ⟨rfl, rfl, rfl, rfl, rfl, fT_lt hfu, by omega, ⟨⟨by omega, fun s' hs3 => ?_, fun c hc => ?_, i4, fun a ha b hb h0 e => ?_, fun a ha h0 c hc c' hc' g1 g2 g3 => ?_⟩, ⟨fun a ha => ?_, fun a ha h0 b hb => ?_⟩, fun a ha h0 b hb i hi => ?_⟩, rfl, fun _ => rfl, h2, fun h => (by cases h), fun r h => (by cases h)⟩
        · by_cases e : s' = s
          · subst e; exact Or.inr ⟨la + 1, by omega, by omega, hss⟩
          · rw [hs' s' hs3 e]
            rcases i2 s' hs3 with z | ⟨k, z1, z2, z3⟩
            · exact Or.inl z
            · exact Or.inr ⟨k, z1, by omega, z3⟩
        · rcases i3 c hc with z | ⟨k, z1, z2, z3⟩
          · exact Or.inl z
          · exact Or.inr ⟨k, z1, by omega, z3⟩
        · have hold : ∀ a, a < 3 → a ≠ s → st a ≠ nI (la + 1) := fun a ha _ z => by
            rcases i2 a ha with y | ⟨k, -, y2, y3⟩
            · rw [y] at z; exact hn0 z.symm
            · exact hnew k y2 (z.symm.trans y3)
          by_cases ea : a = s <;> by_cases eb : b = s
          · omega
          · subst ea
            rw [hss, hs' b hb eb] at e
            exact absurd e.symm (hold b hb eb)
          · subst eb
            rw [hss, hs' a ha ea] at e
            exact absurd e (hold a ha ea)
          · rw [hs' a ha ea] at h0 e
            rw [hs' b hb eb] at e
            exact i5 a ha b hb h0 e
        · by_cases ea : a = s
          · subst ea
            rw [hss] at g1
            exact absurd g1 (hts c hc)
          · rw [hs' a ha ea] at h0 g1 g2
            exact i6 a ha h0 c hc c' hc' g1 g2 g3
        · by_cases ea : a = s
          · subst ea
            rw [va_up_self, hss]
            simp [hn0]
          · rw [va_up_ne _ _ ea, hs' a ha ea]
            exact hO.1 a ha
        · by_cases ea : a = s
          · subst ea
            rw [hfs, fillO_in (by omega)]
          · rw [find_st (hs' a ha ea), fillO_out (by omega)]
            rw [hs' a ha ea] at h0
            exact hO.2 a ha h0 b hb
        · by_cases ea : a = s
          · subst ea
            unfold cWord
            rw [hfs]
            have := fillW_in (wo := wo) (vo := vo) (a := 24 * a) (n := 24) (k := 4 * b + i) (by omega)
            rw [show 24 * a + (4 * b + i) = 24 * a + 4 * b + i by omega] at this
            rw [this, h2 rfl _ (by omega), show 4 * b + i = b * 4 + i by omega]
          · rw [fillW_out (by omega)]
            rw [hs' a ha ea] at h0
            rw [hW a ha h0 b hb i hi]
            unfold cWord
            rw [find_st (hs' a ha ea)]
      · have hk0 : k = 0 := by omega
        subst hk0
        rw [mLast_no (by decide)]
        have hp : cPutS s (nI (la + 1)) (bw, cw, ts, tb, st, 0, mr, la, some 0, false, ct) = (.error 0, (bw, cw, ts, tb, st, 0, mr, la, none, true, ct)) := rfl
        rw [cB_err hp]
        exact ⟨rfl, by decide, rfl, rfl, rfl, fun k e => (by cases e), by omega, hB, rfl, fun h => (by cases h), h2, fun _ => rfl, fun r h => (by cases h)⟩
def kcD (k : Nat) : Nat := match k with
  | 0 => 2
  | _ => 1
set_option maxHeartbeats 1000000 in
theorem op_drop {N : Nat} {σ : SV} {A : SM} (hR : Rel N σ A) (s : Int32) : Agree N kcD (fun _ _ => True) (cDrop s σ) ((), mDrop s A) := by
  obtain ⟨bw, cw, ts, tb, st, ro, mr, la, fu, dn, wr⟩ := σ
  obtain ⟨co, dn', fu', ct, vo, wo, th, ow, ba, mr'⟩ := A
  obtain ⟨rfl, rfl, rfl, hfu, hla, hB, rfl, h1, h2, h3, h4⟩ := hR
  unfold cDrop
  cases dn' with
  | true =>
    rw [cB_err up_no]
    exact ⟨rfl, by decide, rfl, rfl, rfl, hfu, hla, hB, rfl, h1, h2, h3, h4⟩
  | false =>
    have hro : ba = 0 := h1 rfl
    subst hro
    rw [cB_ok up_ok]
    rcases has_S hB.2.1 s with ⟨e1, e2⟩ | ⟨k, e1, e2, k3, rfl, ek, k0, kt⟩
    · rw [cB_err (reqS_no e2)]
      simp only [mDrop, Bool.false_eq_true, if_false, e1]
      exact ⟨rfl, by decide, rfl, rfl, rfl, hfu, hla, hB, rfl, h1, h2, h3, h4⟩
    · rw [cB_ok (reqS_ok e2), ek]
      simp only [mDrop, Bool.false_eq_true, if_false, e1]
      rcases fL_or fu' 1 with hL | ⟨j, rfl, hj⟩
      · rw [mLast_ok hL]
        have hp : cPutS k 0 (bw, cw, ts, tb, st, 0, mr, la, fu', false, ct) = (.ok (), (bw, cw, ts, tb, upd st k 0, 0, mr, la, fT fu' 1, false, ct + 1)) := by
          unfold cPutS
          rw [cB_ok (tick_ok hL)]
        rw [hp]
        obtain ⟨⟨i1, i2, i3, i4, i5, i6⟩, hO, hW⟩ := hB
        have hs' : ∀ s', s' ≠ k → upd st k 0 s' = st s' := fun s' h => by unfold upd; rw [if_neg h]
        have hss : upd st k 0 k = 0 := by simp [upd]
        have hne : ∀ a, upd st k 0 a ≠ 0 → a ≠ k := fun a h e => h (by rw [e]; exact hss)
        refine ⟨rfl, trivial, rfl, rfl, rfl, fT_lt hfu, hla, ⟨⟨i1, fun a ha => ?_, i3, i4, fun a ha b hb h0 e => ?_, fun a ha h0 c hc c' hc' g1 g2 g3 => ?_⟩, ⟨fun a ha => ?_, fun a ha h0 b hb => ?_⟩, fun a ha h0 b hb i hi => ?_⟩, rfl, fun _ => rfl, h2, fun h => (by cases h), fun r h => (by cases h)⟩
        · by_cases e : a = k
          · subst e; exact Or.inl hss
          · rw [hs' a e]; exact i2 a ha
        · have ea := hne a h0
          rw [hs' a ea] at h0 e
          by_cases eb : b = k
          · subst eb; rw [hss] at e; exact absurd e h0
          · rw [hs' b eb] at e; exact i5 a ha b hb h0 e
        · have ea := hne a h0
          rw [hs' a ea] at h0 g1 g2
          exact i6 a ha h0 c hc c' hc' g1 g2 g3
        · by_cases e : a = k
          · subst e; rw [va_up_self, hss]; simp
          · rw [va_up_ne _ _ e, hs' a e]; exact hO.1 a ha
        · have ea := hne a h0
          rw [find_st (hs' a ea)]
          rw [hs' a ea] at h0
          exact hO.2 a ha h0 b hb
        · have ea := hne a h0
          unfold cWord
          rw [find_st (hs' a ea)]
          rw [hs' a ea] at h0
          exact hW a ha h0 b hb i hi
      · have hk0 : j = 0 := by omega
        subst hk0
        rw [mLast_no (by decide)]
        have hp : cPutS k 0 (bw, cw, ts, tb, st, 0, mr, la, some 0, false, ct) = (.error 0, (bw, cw, ts, tb, st, 0, mr, la, none, true, ct)) := rfl
        rw [hp]
        exact ⟨rfl, by decide, rfl, rfl, rfl, fun k e => (by cases e), hla, hB, rfl, fun h => (by cases h), h2, fun _ => rfl, fun r h => (by cases h)⟩
