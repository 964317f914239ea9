/-! ===== what the class's writes come to, with a fuse and without ===== -/
/-- the fuse lasts for n writes; what is left of it -/
def fL (fu : Option Nat) (n : Nat) : Prop := ∀ k, fu = some k → n ≤ k
def fT (fu : Option Nat) (n : Nat) : Option Nat := fu.map (fun k => k - n)
def cC (f : Nat → Int32) (c : Nat) (g : Nat → Int32) : Nat → Int32 := upd (upd (upd (upd f (c * 4 + 0) (g 0)) (c * 4 + 1) (g 1)) (c * 4 + 2) (g 2)) (c * 4 + 3) (g 3)
theorem cC_in {f g : Nat → Int32} {c i : Nat} (hi : i < 4) : cC f c g (c * 4 + i) = g i := by
  rcases (show i = 0 ∨ i = 1 ∨ i = 2 ∨ i = 3 by omega) with rfl | rfl | rfl | rfl <;> simp [cC, upd]
theorem cC_out {f g : Nat → Int32} {c j : Nat} (h : j < c * 4 ∨ c * 4 + 4 ≤ j) : cC f c g j = f j := by
  unfold cC upd
  rw [if_neg (by omega), if_neg (by omega), if_neg (by omega), if_neg (by omega)]
theorem fL_some {k n : Nat} (h : fL (some k) n) : n ≤ k := h k rfl
theorem fT_T (fu : Option Nat) (a b : Nat) : fT (fT fu a) b = fT fu (a + b) := by
  cases fu with
  | none => rfl
  | some k => simp [fT]; omega
theorem fL_T {fu : Option Nat} {a b : Nat} (h : fL fu (a + b)) : fL fu a ∧ fL (fT fu a) b := by
  refine ⟨fun k e => by have := h k e; omega, fun k e => ?_⟩
  cases fu with
  | none => cases e
  | some j =>
    have := h j rfl
    simp [fT] at e
    omega
theorem fT_0 (fu : Option Nat) : fT fu 0 = fu := by cases fu <;> simp [fT]
section CL
variable {bw cw ts tb st : Nat → Int32} {ro mr la : Nat} {fu : Option Nat} {dn : Bool} {wr : Nat}
theorem tick_ok (h : fL fu 1) : cTick (bw, cw, ts, tb, st, ro, mr, la, fu, dn, wr) = (.ok (), (bw, cw, ts, tb, st, ro, mr, la, fT fu 1, dn, wr + 1)) := by
  cases fu with
  | none => rfl
  | some k =>
    obtain ⟨j, rfl⟩ : ∃ j, k = j + 1 := ⟨k - 1, by have := fL_some h; omega⟩
    rfl
theorem copy_ok {s b c : Nat} {rep : Option Nat} {w : Int32} (hc : cLF ts st = some c) (h : fL fu 5) :
    cCopy s b rep w (bw, cw, ts, tb, st, ro, mr, la, fu, dn, wr) = (.ok (), (bw, cC cw c (fun i => if rep = some i then w else bw (b * 4 + i)), upd ts c (st s), upd tb c (nI b), st, ro, mr, la, fT fu 5, dn, wr + 5)) := by
  cases fu with
  | none => simp [cCopy, hc, cFor, cPutC, cPutT, cB, cTick, fT, cC, cOk]
  | some k =>
    obtain ⟨j, rfl⟩ : ∃ j, k = j + 5 := ⟨k - 5, by have := fL_some h; omega⟩
    simp [cCopy, hc, cFor, cPutC, cPutT, cB, cTick, fT, cC, cOk]
theorem copy_cut {s b c k : Nat} {rep : Option Nat} {w : Int32} (hc : cLF ts st = some c) (hk : k < 5) :
    ∃ cw', (∀ j, j < c * 4 ∨ c * 4 + 4 ≤ j → cw' j = cw j) ∧ cCopy s b rep w (bw, cw, ts, tb, st, ro, mr, la, some k, dn, wr) = (.error 0, (bw, cw', ts, tb, st, ro, mr, la, none, true, wr + k)) := by
  rcases (show k = 0 ∨ k = 1 ∨ k = 2 ∨ k = 3 ∨ k = 4 by omega) with rfl | rfl | rfl | rfl | rfl
  · exact ⟨cw, fun _ _ => rfl, by simp [cCopy, hc, cFor, cPutC, cPutT, cB, cTick, cOk]⟩
  · refine ⟨upd cw (c * 4 + 0) (if rep = some 0 then w else bw (b * 4 + 0)), fun j hj => ?_, by simp [cCopy, hc, cFor, cPutC, cPutT, cB, cTick, cOk]⟩
    unfold upd
    rw [if_neg (by omega)]
  · refine ⟨upd (upd cw (c * 4 + 0) (if rep = some 0 then w else bw (b * 4 + 0))) (c * 4 + 1) (if rep = some 1 then w else bw (b * 4 + 1)), fun j hj => ?_, by simp [cCopy, hc, cFor, cPutC, cPutT, cB, cTick, cOk]⟩
    unfold upd
    rw [if_neg (by omega), if_neg (by omega)]
  · refine ⟨upd (upd (upd cw (c * 4 + 0) (if rep = some 0 then w else bw (b * 4 + 0))) (c * 4 + 1) (if rep = some 1 then w else bw (b * 4 + 1))) (c * 4 + 2) (if rep = some 2 then w else bw (b * 4 + 2)), fun j hj => ?_, by simp [cCopy, hc, cFor, cPutC, cPutT, cB, cTick, cOk]⟩
    unfold upd
    rw [if_neg (by omega), if_neg (by omega), if_neg (by omega)]
  · refine ⟨cC cw c (fun i => if rep = some i then w else bw (b * 4 + i)), fun j hj => cC_out hj, by simp [cCopy, hc, cFor, cPutC, cPutT, cB, cTick, cOk, cC]⟩
theorem back_ok {b c : Nat} (h : fL fu 4) : cBack b c (bw, cw, ts, tb, st, ro, mr, la, fu, dn, wr) = (.ok (), (cC bw b (fun i => cw (c * 4 + i)), cw, ts, tb, st, ro, mr, la, fT fu 4, dn, wr + 4)) := by
  cases fu with
  | none => simp [cBack, cFor, cPutB, cB, cTick, fT, cC, cOk]
  | some k =>
    obtain ⟨j, rfl⟩ : ∃ j, k = j + 4 := ⟨k - 4, by have := fL_some h; omega⟩
    simp [cBack, cFor, cPutB, cB, cTick, fT, cC, cOk]
theorem back_cut {b c k : Nat} (hk : k < 4) : ∃ bw', (∀ j, j < b * 4 ∨ b * 4 + 4 ≤ j → bw' j = bw j) ∧ cBack b c (bw, cw, ts, tb, st, ro, mr, la, some k, dn, wr) = (.error 0, (bw', cw, ts, tb, st, ro, mr, la, none, true, wr + k)) := by
  rcases (show k = 0 ∨ k = 1 ∨ k = 2 ∨ k = 3 by omega) with rfl | rfl | rfl | rfl
  · exact ⟨bw, fun _ _ => rfl, by simp [cBack, cFor, cPutB, cB, cTick, cOk]⟩
  · refine ⟨upd bw (b * 4 + 0) (cw (c * 4 + 0)), fun j hj => ?_, by simp [cBack, cFor, cPutB, cB, cTick, cOk]⟩
    unfold upd
    rw [if_neg (by omega)]
  · refine ⟨upd (upd bw (b * 4 + 0) (cw (c * 4 + 0))) (b * 4 + 1) (cw (c * 4 + 1)), fun j hj => ?_, by simp [cBack, cFor, cPutB, cB, cTick, cOk]⟩
    unfold upd
    rw [if_neg (by omega), if_neg (by omega)]
  · refine ⟨upd (upd (upd bw (b * 4 + 0) (cw (c * 4 + 0))) (b * 4 + 1) (cw (c * 4 + 1))) (b * 4 + 2) (cw (c * 4 + 2)), fun j hj => ?_, by simp [cBack, cFor, cPutB, cB, cTick, cOk]⟩
    unfold upd
    rw [if_neg (by omega), if_neg (by omega), if_neg (by omega)]
end CL
theorem fst_congr {p q : Nat → Bool} : ∀ {n k : Nat}, (∀ j, k ≤ j → j < k + n → p j = q j) → fst p n k = fst q n k := by
  intro n
  induction n with
  | zero => intro k _; rfl
  | succ n ih =>
    intro k h
    unfold fst
    rw [h k (Nat.le_refl _) (by omega), ih (fun j g1 g2 => h j (by omega) (by omega))]
/-- the words that places read -/
def rWo (bw cw ts tb st wo : Nat → Int32) : Prop := ∀ s, s < 3 → st s ≠ 0 → ∀ b, b < 6 → ∀ i, i < 4 → wo (24 * s + 4 * b + i) = cWord bw cw ts tb st s b i
def rB (bw cw ts tb st : Nat → Int32) (la : Nat) (wo : Nat → Int32) (th : Nat → Bool) (ow : Nat → Nat) : Prop := iAll la ts tb st ∧ rOw ts tb st th ow ∧ rWo bw cw ts tb st wo
section CP
variable {bw cw ts tb st wo : Nat → Int32} {la : Nat} {th : Nat → Bool} {ow : Nat → Nat}
/-- a new tag at a free copy block c: of place s, block b, which s shared -/
theorem tag_find {s b c : Nat} (hI : iAll la ts tb st) (hs : s < 3) (h0 : st s ≠ 0) (hb : b < 6) (hc : c < 9) (hf : cFree ts st c = true) (hn : cFind ts tb st s b = none) :
    cFind (upd ts c (st s)) (upd tb c (nI b)) st s b = some c ∧ ∀ s', s' < 3 → ∀ b', b' < 6 → (s' ≠ s ∨ b' ≠ b) → cFind (upd ts c (st s)) (upd tb c (nI b)) st s' b' = cFind ts tb st s' b' := by
  have hfr := free_iff.mp hf
  constructor
  · unfold cFind
    rw [if_neg h0]
    refine fst_intro (by omega) (by omega) ?_ ?_
    · simp [cTag, upd]
    · intro j g1 g2
      have := find_none hn h0 (c := j) (by omega)
      simp only [cTag, decide_eq_false_iff_not]
      unfold upd
      rw [if_neg (by omega), if_neg (by omega)]
      exact this
  · intro s' hs' b' hb' hne
    unfold cFind
    by_cases h0' : st s' = 0
    · rw [if_pos h0', if_pos h0']
    · rw [if_neg h0', if_neg h0']
      refine fst_congr fun j g1 g2 => ?_
      unfold cTag
      by_cases hj : j = c
      · subst hj
        have e1 : ¬ (ts j = st s' ∧ tb j = nI b') := fun z => hfr s' hs' z.1
        have e2 : ¬ (upd ts j (st s) j = st s' ∧ upd tb j (nI b) j = nI b') := by
          simp only [upd, if_true]
          rintro ⟨z1, z2⟩
          have es := hI.2.2.2.2.1 s hs s' hs' h0 z1
          have eb := (nI_eq (a := b) (b := b') (by omega) (by omega)).mp z2
          rcases hne with h | h
          · exact h es.symm
          · exact h eb.symm
        simp [e1, e2]
      · simp [upd, hj]
theorem tag_all {s b c : Nat} (hI : iAll la ts tb st) (hs : s < 3) (h0 : st s ≠ 0) (hb : b < 6) (hc : c < 9) (hf : cFree ts st c = true) (hn : cFind ts tb st s b = none) : iAll la (upd ts c (st s)) (upd tb c (nI b)) st := by
  have hfr := free_iff.mp hf
  obtain ⟨h1, h2, h3, h4, h5, h6⟩ := hI
  refine ⟨h1, h2, fun j hj => ?_, fun j hj => ?_, h5, fun s' hs' h0' j hj j' hj' e1 e2 e3 => ?_⟩
  · by_cases e : j = c
    · subst e
      rcases h2 s hs with z | ⟨k, g1, g2, g3⟩
      · exact absurd z h0
      · exact Or.inr ⟨k, g1, g2, by simp [upd, g3]⟩
    · simp only [upd, if_neg e]
      exact h3 j hj
  · by_cases e : j = c
    · subst e
      exact ⟨b, hb, by simp [upd]⟩
    · simp only [upd, if_neg e]
      exact h4 j hj
  · by_cases z1 : j = c <;> by_cases z2 : j' = c
    · omega
    · subst z1
      simp only [upd, if_true, if_neg z2] at e1 e2 e3
      have es := h5 s hs s' hs' h0 e1
      subst es
      exact absurd ⟨e2, e3.symm⟩ (find_none hn h0 hj')
    · subst z2
      simp only [upd, if_true, if_neg z1] at e1 e2 e3
      have es := h5 s hs s' hs' h0 e2
      subst es
      exact absurd ⟨e1, e3⟩ (find_none hn h0 hj)
    · simp only [upd, if_neg z1, if_neg z2] at e1 e2 e3
      exact h6 s' hs' h0' j hj j' hj' e1 e2 e3
theorem tag_free {s c : Nat} (hs : s < 3) (hc : c < 9) (hf : cFree ts st c = true) (b : Nat) : cNF (upd ts c (st s)) st + 1 = cNF ts st := by
  have h1 : ∀ j, cFree (upd ts c (st s)) st j = (cFree ts st j && ! decide (j = c)) := by
    intro j
    by_cases e : j = c
    · subst e
      have : cFree (upd ts j (st s)) st j = false := by
        cases z : cFree (upd ts j (st s)) st j
        · rfl
        · exact absurd (by simp [upd]) (free_iff.mp z s hs)
      rw [this]; simp
    · have : cFree (upd ts c (st s)) st j = cFree ts st j := by simp [cFree, upd, e]
      rw [this]; simp [e]
  have h2 : ∀ n, cnt (fun j => cFree ts st j && ! decide (j = c)) n + (if c < n then 1 else 0) = cnt (cFree ts st) n := by
    intro n
    induction n with
    | zero => rfl
    | succ n ih =>
      unfold cnt
      by_cases e : n = c
      · subst e
        rw [hf]
        simp at ih ⊢
        omega
      · have e2 : (c < n + 1) ↔ (c < n) := by omega
        simp only [e2]
        have e3 : (decide (n = c)) = false := by simp [e]
        rw [e3]
        simp only [Bool.not_false, Bool.and_true]
        omega
  have h3 := h2 9
  rw [if_pos hc] at h3
  unfold cNF
  rw [cnt_congr (fun j _ => h1 j)]
  exact h3
/-- one copy, made whole: the class's state goes with the reference's -/
theorem copy_rel {s b c : Nat} {g wo' : Nat → Int32} (hB : rB bw cw ts tb st la wo th ow) (hs : s < 3) (h0 : st s ≠ 0) (hb : b < 6) (hc : cLF ts st = some c) (hn : cFind ts tb st s b = none)
    (hg : ∀ i, i < 4 → wo' (24 * s + 4 * b + i) = g i) (hw : ∀ j, j < 24 * s + 4 * b ∨ 24 * s + 4 * b + 4 ≤ j → wo' j = wo j) :
    rB bw (cC cw c g) (upd ts c (st s)) (upd tb c (nI b)) st la wo' th (va_up ow (6 * s + b) (mLow th ow)) := by
  obtain ⟨hI, hO, hW⟩ := hB
  obtain ⟨-, c9, hf, -⟩ := fst_some (show fst (cFree ts st) 9 0 = some c from hc)
  have c9 : c < 9 := by omega
  obtain ⟨hF1, hF2⟩ := tag_find hI hs h0 hb c9 hf hn
  refine ⟨tag_all hI hs h0 hb c9 hf hn, ⟨hO.1, fun s' hs' h0' b' hb' => ?_⟩, fun s' hs' h0' b' hb' i hi => ?_⟩
  · rw [low_is hI hO hc]
    by_cases e : s' = s ∧ b' = b
    · obtain ⟨rfl, rfl⟩ := e
      rw [hF1, va_up_self]
    · rw [va_up_ne _ _ (by omega), hF2 s' hs' b' hb' (by omega)]
      exact hO.2 s' hs' h0' b' hb'
  · unfold cWord
    by_cases e : s' = s ∧ b' = b
    · obtain ⟨rfl, rfl⟩ := e
      rw [hF1]
      show _ = cC cw c g (c * 4 + i)
      rw [cC_in hi, hg i hi]
    · rw [hF2 s' hs' b' hb' (by omega), hw _ (by omega), hW s' hs' h0' b' hb' i hi]
      unfold cWord
      cases hx : cFind ts tb st s' b' with
      | none => rfl
      | some c' =>
        obtain ⟨-, g2, g3, -⟩ := find_some hx
        have hne : c' ≠ c := fun z => by
          subst z
          exact absurd g3 (free_iff.mp hf s' hs')
        show cw (c' * 4 + i) = cC cw c g (c' * 4 + i)
        rw [cC_out (by omega)]
/-- a copy that was cut: nobody sees it -/
theorem cut_rel {c : Nat} {cw' : Nat → Int32} (hB : rB bw cw ts tb st la wo th ow) (hc : cLF ts st = some c) (hw : ∀ j, j < c * 4 ∨ c * 4 + 4 ≤ j → cw' j = cw j) : rB bw cw' ts tb st la wo th ow := by
  obtain ⟨hI, hO, hW⟩ := hB
  obtain ⟨-, -, hf, -⟩ := fst_some (show fst (cFree ts st) 9 0 = some c from hc)
  refine ⟨hI, hO, fun s' hs' h0' b' hb' i hi => ?_⟩
  rw [hW s' hs' h0' b' hb' i hi]
  unfold cWord
  cases hx : cFind ts tb st s' b' with
  | none => rfl
  | some c' =>
    obtain ⟨-, g2, g3, -⟩ := find_some hx
    have hne : c' ≠ c := fun z => by
      subst z
      exact absurd g3 (free_iff.mp hf s' hs')
    show cw (c' * 4 + i) = cw' (c' * 4 + i)
    rw [hw _ (by omega)]
end CP
