/-! ===== finding, counting: pure rows ===== -/
theorem fst_intro {p : Nat → Bool} : ∀ {n k c : Nat}, k ≤ c → c < k + n → p c = true → (∀ j, k ≤ j → j < c → p j = false) → fst p n k = some c := by
  intro n
  induction n with
  | zero => intro k c h1 h2; omega
  | succ n ih =>
    intro k c h1 h2 h3 h4
    unfold fst
    by_cases hk : k = c
    · subst hk; rw [if_pos h3]
    · rw [h4 k (Nat.le_refl _) (by omega)]
      exact ih (by omega) (by omega) h3 (fun j g1 g2 => h4 j (by omega) g2)
theorem fst_nil {p : Nat → Bool} : ∀ {n k : Nat}, (∀ j, k ≤ j → j < k + n → p j = false) → fst p n k = none := by
  intro n
  induction n with
  | zero => intro k _; rfl
  | succ n ih =>
    intro k h
    unfold fst
    rw [h k (Nat.le_refl _) (by omega)]
    exact ih (fun j g1 g2 => h j (by omega) (by omega))
theorem cnt_congr {p q : Nat → Bool} : ∀ {n : Nat}, (∀ j, j < n → p j = q j) → cnt p n = cnt q n := by
  intro n
  induction n with
  | zero => intro _; rfl
  | succ n ih =>
    intro h
    unfold cnt
    rw [ih (fun j hj => h j (by omega)), h n (by omega)]
theorem cnt_zero {p : Nat → Bool} : ∀ {n : Nat}, (∀ j, j < n → p j = false) → cnt p n = 0 := by
  intro n
  induction n with
  | zero => intro _; rfl
  | succ n ih =>
    intro h
    unfold cnt
    rw [ih (fun j hj => h j (by omega)), h n (by omega)]
    rfl
theorem cnt_one {p : Nat → Bool} : ∀ {n c : Nat}, c < n → p c = true → (∀ j, j < n → p j = true → j = c) → cnt p n = 1 := by
  intro n
  induction n with
  | zero => intro c h; omega
  | succ n ih =>
    intro c hc hp hu
    unfold cnt
    by_cases hn : p n = true
    · have e := hu n (by omega) hn
      subst e
      rw [if_pos hn, cnt_zero (fun j hj => by
        cases h : p j
        · rfl
        · have := hu j (by omega) h
          omega)]
    · rw [if_neg hn]
      have hcn : c ≠ n := fun e => hn (e ▸ hp)
      rw [ih (c := c) (by omega) hp (fun j hj h => hu j (by omega) h)]
theorem cnt_not (p : Nat → Bool) : ∀ n : Nat, cnt p n + cnt (fun j => ! p j) n = n := by
  intro n
  induction n with
  | zero => rfl
  | succ n ih =>
    unfold cnt
    cases p n <;> simp <;> omega
theorem sm_add (f g : Nat → Nat) : ∀ n : Nat, sm (fun j => f j + g j) n = sm f n + sm g n := by
  intro n
  induction n with
  | zero => rfl
  | succ n ih =>
    unfold sm
    rw [ih]
    omega
theorem sm_congr {f g : Nat → Nat} : ∀ {n : Nat}, (∀ j, j < n → f j = g j) → sm f n = sm g n := by
  intro n
  induction n with
  | zero => intro _; rfl
  | succ n ih =>
    intro h
    unfold sm
    rw [ih (fun j hj => h j (by omega)), h n (by omega)]
theorem sm_zero : ∀ n : Nat, sm (fun _ => 0) n = 0 := by
  intro n
  induction n with
  | zero => rfl
  | succ n ih => unfold sm; rw [ih]
theorem sm_swap (f : Nat → Nat → Nat) (n : Nat) : ∀ k : Nat, sm (fun i => sm (f i) k) n = sm (fun j => sm (fun i => f i j) n) k := by
  intro k
  induction k with
  | zero => exact sm_zero n
  | succ k ih =>
    show sm (fun i => sm (f i) k + f i k) n = sm (fun j => sm (fun i => f i j) n) k + sm (fun i => f i k) n
    rw [sm_add, ih]
theorem cnt_sm (p : Nat → Bool) : ∀ n : Nat, cnt p n = sm (fun j => if p j then 1 else 0) n := by
  intro n
  induction n with
  | zero => rfl
  | succ n ih => unfold cnt sm; rw [ih]
/-! ===== what holds of the class's state between calls ===== -/
def iSt (la : Nat) (st : Nat → Int32) : Prop := ∀ s, s < 3 → st s = 0 ∨ ∃ k, 1 ≤ k ∧ k ≤ la ∧ st s = nI k
def iTs (la : Nat) (ts : Nat → Int32) : Prop := ∀ c, c < 9 → ts c = -1 ∨ ∃ k, 1 ≤ k ∧ k ≤ la ∧ ts c = nI k
def iTb (tb : Nat → Int32) : Prop := ∀ c, c < 9 → ∃ b, b < 6 ∧ tb c = nI b
def iDs (st : Nat → Int32) : Prop := ∀ s, s < 3 → ∀ s', s' < 3 → st s ≠ 0 → st s = st s' → s = s'
def iUn (ts tb st : Nat → Int32) : Prop := ∀ s, s < 3 → st s ≠ 0 → ∀ c, c < 9 → ∀ c', c' < 9 → ts c = st s → ts c' = st s → tb c = tb c' → c = c'
def iAll (la : Nat) (ts tb st : Nat → Int32) : Prop := la < 2 ^ 30 ∧ iSt la st ∧ iTs la ts ∧ iTb tb ∧ iDs st ∧ iUn ts tb st
theorem nI_ne {a b : Nat} (ha : a < 2 ^ 31) (hb : b < 2 ^ 31) (h : a ≠ b) : nI a ≠ nI b := fun e => h ((nI_eq ha hb).mp e)
theorem i_ts0 {la : Nat} {ts : Nat → Int32} (hl : la < 2 ^ 30) (h : iTs la ts) {c : Nat} (hc : c < 9) : ts c ≠ 0 := by
  rcases h c hc with e | ⟨k, h1, h2, e⟩
  · rw [e]; decide
  · rw [e]
    exact nI_ne (b := 0) (by omega) (by decide) (by omega)
theorem find_some {ts tb st : Nat → Int32} {s b c : Nat} (h : cFind ts tb st s b = some c) : st s ≠ 0 ∧ c < 9 ∧ ts c = st s ∧ tb c = nI b := by
  unfold cFind at h
  by_cases h0 : st s = 0
  · rw [if_pos h0] at h; cases h
  · rw [if_neg h0] at h
    obtain ⟨-, h2, h3, -⟩ := fst_some h
    simp only [cTag, decide_eq_true_eq] at h3
    exact ⟨h0, by omega, h3.1, h3.2⟩
theorem find_none {ts tb st : Nat → Int32} {s b : Nat} (h : cFind ts tb st s b = none) (h0 : st s ≠ 0) {c : Nat} (hc : c < 9) : ¬ (ts c = st s ∧ tb c = nI b) := by
  unfold cFind at h
  rw [if_neg h0] at h
  have := fst_none h c (by omega) (by omega)
  simpa [cTag] using this
theorem find_is {la : Nat} {ts tb st : Nat → Int32} (hI : iAll la ts tb st) {s b c : Nat} (hs : s < 3) (h0 : st s ≠ 0) (hc : c < 9) (h1 : ts c = st s) (h2 : tb c = nI b) : cFind ts tb st s b = some c := by
  cases h : cFind ts tb st s b with
  | none => exact absurd ⟨h1, h2⟩ (find_none h h0 hc)
  | some c' =>
    obtain ⟨-, g2, g3, g4⟩ := find_some h
    rw [hI.2.2.2.2.2 s hs h0 c hc c' g2 h1 g3 (h2.trans g4.symm)]
theorem free_iff {ts st : Nat → Int32} {c : Nat} : cFree ts st c = true ↔ ∀ s, s < 3 → ts c ≠ st s := by
  simp [cFree]
theorem nfree_iff {la : Nat} {ts tb st : Nat → Int32} (hI : iAll la ts tb st) {c : Nat} (hc : c < 9) : cFree ts st c = false ↔ ∃ s b, s < 3 ∧ b < 6 ∧ st s ≠ 0 ∧ cFind ts tb st s b = some c := by
  constructor
  · intro h
    have h1 : ¬ ∀ s, s < 3 → ts c ≠ st s := fun z => by rw [free_iff.mpr z] at h; cases h
    obtain ⟨s, hs⟩ := Classical.not_forall.mp h1
    obtain ⟨hs3, he⟩ := Classical.not_imp.mp hs
    have he : ts c = st s := Classical.not_not.mp he
    have h0 : st s ≠ 0 := by rw [← he]; exact i_ts0 hI.1 hI.2.2.1 hc
    obtain ⟨b, hb, e⟩ := hI.2.2.2.1 c hc
    exact ⟨s, b, hs3, hb, h0, find_is hI hs3 h0 hc he e⟩
  · rintro ⟨s, b, hs, -, h0, hf⟩
    obtain ⟨-, -, h1, -⟩ := find_some hf
    cases h : cFree ts st c
    · rfl
    · exact absurd h1 (free_iff.mp h s hs)
/-- the reference's places and copies are the class's -/
def rOw (ts tb st : Nat → Int32) (th : Nat → Bool) (ow : Nat → Nat) : Prop := (∀ s, s < 3 → th s = decide (st s ≠ 0)) ∧ ∀ s, s < 3 → st s ≠ 0 → ∀ b, b < 6 → ow (6 * s + b) = (match cFind ts tb st s b with
  | none => 0
  | some c => c + 1)
theorem tkn_iff {la : Nat} {ts tb st : Nat → Int32} {th : Nat → Bool} {ow : Nat → Nat} (hI : iAll la ts tb st) (hO : rOw ts tb st th ow) {c : Nat} (hc : c < 9) : mTkn th ow (c + 1) = ! cFree ts st c := by
  have key : mTkn th ow (c + 1) = true ↔ cFree ts st c = false := by
    rw [nfree_iff hI hc]
    constructor
    · intro h
      obtain ⟨k, hk8, ht, ho⟩ := mTkn_iff.mp h
      have hs : k / 6 < 3 := by omega
      have hb : k % 6 < 6 := by omega
      have ek : 6 * (k / 6) + k % 6 = k := by omega
      rw [hO.1 _ hs] at ht
      have h0 : st (k / 6) ≠ 0 := by simpa using ht
      have h2 := hO.2 _ hs h0 _ hb
      rw [ek, ho] at h2
      refine ⟨k / 6, k % 6, hs, hb, h0, ?_⟩
      cases hf : cFind ts tb st (k / 6) (k % 6) with
      | none => rw [hf] at h2; simp at h2
      | some c' => rw [hf] at h2; simp at h2; rw [h2]
    · rintro ⟨s, b, hs, hb, h0, hf⟩
      have h2 := hO.2 s hs h0 b hb
      rw [hf] at h2
      have e1 : (6 * s + b) / 6 = s := by omega
      exact mTkn_iff.mpr ⟨6 * s + b, by omega, by rw [e1, hO.1 s hs]; simpa using h0, h2⟩
  cases h : cFree ts st c
  · rw [h] at key; simp at key; rw [key]; rfl
  · rw [h] at key; simp at key; rw [key]; rfl
theorem low_is {la : Nat} {ts tb st : Nat → Int32} {th : Nat → Bool} {ow : Nat → Nat} (hI : iAll la ts tb st) (hO : rOw ts tb st th ow) {c : Nat} (h : cLF ts st = some c) : mLow th ow = c + 1 := by
  obtain ⟨-, h2, h3, h4⟩ := fst_some (show fst (cFree ts st) 9 0 = some c from h)
  have h5 : fst (fun c => ! mTkn th ow c) 10 1 = some (c + 1) := by
    refine fst_intro (by omega) (by omega) ?_ ?_
    · show (! mTkn th ow (c + 1)) = true
      rw [tkn_iff hI hO (by omega), h3]
      rfl
    · intro j g1 g2
      obtain ⟨j', rfl⟩ : ∃ j', j = j' + 1 := ⟨j - 1, by omega⟩
      show (! mTkn th ow (j' + 1)) = false
      rw [tkn_iff hI hO (by omega), h4 j' (by omega) (by omega)]
      rfl
  unfold mLow
  rw [h5]
  rfl
theorem own_le {ts tb st : Nat → Int32} {th : Nat → Bool} {ow : Nat → Nat} (hO : rOw ts tb st th ow) {k : Nat} (hk : k < 18) (ht : th (k / 6) = true) : ow k ≤ 9 := by
  have hs : k / 6 < 3 := by omega
  have ek : 6 * (k / 6) + k % 6 = k := by omega
  rw [hO.1 _ hs] at ht
  have h2 := hO.2 _ hs (by simpa using ht) (k % 6) (by omega)
  rw [ek] at h2
  rw [h2]
  cases hf : cFind ts tb st (k / 6) (k % 6) with
  | none => simp
  | some c =>
    obtain ⟨-, g, -⟩ := find_some hf
    show c + 1 ≤ 9
    omega
theorem used_is {la : Nat} {ts tb st : Nat → Int32} {th : Nat → Bool} {ow : Nat → Nat} (hI : iAll la ts tb st) (hO : rOw ts tb st th ow) : mUsed th ow + cNF ts st = 9 := by
  have h1 : mUsed th ow = cnt (fun c => ! cFree ts st c) 9 := by
    unfold mUsed
    rw [cnt_sm, cnt_sm]
    have hrow : ∀ k, k < 18 → (if (th (k / 6) && decide (0 < ow k)) = true then 1 else 0) = sm (fun c => if (th (k / 6) && decide (ow k = c + 1)) = true then 1 else 0) 9 := by
      intro k hk
      rw [← cnt_sm (fun c => th (k / 6) && decide (ow k = c + 1)) 9]
      cases ht : th (k / 6)
      · rw [cnt_zero (fun j _ => by simp)]; simp
      · by_cases h0 : 0 < ow k
        · have h9 := own_le hO hk ht
          rw [cnt_one (c := ow k - 1) (by omega) (by simp; omega) (fun j _ hj => by simp at hj; omega)]
          simp [h0]
        · rw [cnt_zero (fun j _ => by simp; omega)]
          simp [h0]
    rw [sm_congr hrow, sm_swap]
    refine sm_congr fun c hc => ?_
    rw [← cnt_sm (fun k => th (k / 6) && decide (ow k = c + 1)) 18]
    cases hf : cFree ts st c
    · obtain ⟨s, b, hs, hb, h0, hfd⟩ := (nfree_iff hI hc).mp hf
      have h2 := hO.2 s hs h0 b hb
      rw [hfd] at h2
      have e1 : (6 * s + b) / 6 = s := by omega
      rw [cnt_one (c := 6 * s + b) (by omega) (by simp [e1, hO.1 s hs, h0, h2]) ?_]
      · rfl
      · intro k hk hkk
        simp only [Bool.and_eq_true, decide_eq_true_eq] at hkk
        have hs' : k / 6 < 3 := by omega
        have ek : 6 * (k / 6) + k % 6 = k := by omega
        have ht := hkk.1
        rw [hO.1 _ hs'] at ht
        have h0' : st (k / 6) ≠ 0 := by simpa using ht
        have h3 := hO.2 _ hs' h0' (k % 6) (by omega)
        rw [ek, hkk.2] at h3
        cases hg : cFind ts tb st (k / 6) (k % 6) with
        | none => rw [hg] at h3; simp at h3
        | some c' =>
          rw [hg] at h3
          have : c' = c := by simpa using h3.symm
          subst this
          obtain ⟨-, -, g3, g4⟩ := find_some hg
          obtain ⟨-, -, g5, g6⟩ := find_some hfd
          have es := hI.2.2.2.2.1 s hs (k / 6) hs' h0 (g5.symm.trans g3)
          have eb : b = k % 6 := (nI_eq (by omega) (by omega)).mp (g6.symm.trans g4)
          omega
    · rw [cnt_zero (fun k hk => ?_)]
      · rfl
      · cases hx : (th (k / 6) && decide (ow k = c + 1))
        · rfl
        · exfalso
          have h5 := tkn_iff hI hO hc
          rw [hf] at h5
          simp only [Bool.and_eq_true, decide_eq_true_eq] at hx
          have h7 : mTkn th ow (c + 1) = true := mTkn_iff.mpr ⟨k, hk, hx⟩
          rw [h7] at h5
          cases h5
  have h2 := cnt_not (cFree ts st) 9
  unfold cNF
  omega
