/-! ===== what the relation says to the walks ===== -/
theorem nd_is {ts tb st : Nat → Int32} {th : Nat → Bool} {ow : Nat → Nat} (hO : rOw ts tb st th ow) {s : Nat} (hs : s < 3) (h0 : st s ≠ 0) : ∀ {n b : Nat}, b + n = 6 → mNd th ow s n b = nd ts tb st s n b := by
  intro n
  induction n with
  | zero => intro b _; rfl
  | succ n ih =>
    intro b hb
    show (if mHas ow s b = true then mShr th ow b (some s) else 0) + mNd th ow s n (b + 1) = (if (cFind ts tb st s b).isSome = true then cNS ts tb st b else 0) + nd ts tb st s n (b + 1)
    rw [ih (by omega), has_is hO hs h0 (show b < 6 by omega)]
    cases hc : cFind ts tb st s b with
    | none => rfl
    | some c => rw [shr_is hO (show b < 6 by omega) hc]
theorem rel_oB {ts tb st : Nat → Int32} {th : Nat → Bool} {ow : Nat → Nat} (hO : rOw ts tb st th ow) : oB th ow := by
  intro k hk ht
  have h1 : k / 6 < 3 := by omega
  have h2 : st (k / 6) ≠ 0 := by
    have := hO.1 (k / 6) h1
    rw [ht] at this
    simpa using this.symm
  have h3 := hO.2 (k / 6) h1 h2 (k % 6) (by omega)
  rw [show 6 * (k / 6) + k % 6 = k by omega] at h3
  rw [h3]
  cases hc : cFind ts tb st (k / 6) (k % 6) with
  | none => exact Nat.zero_le _
  | some c =>
    have := cFind_lt hc
    show c + 1 ≤ 9
    omega
theorem rel_f {N : Nat} {bw cw ts tb st : Nat → Int32} {ro mr la : Nat} {fu : Option Nat} {dn : Bool} {wr co : Nat} {dn' : Bool} {fu' : Option Nat} {ct : Nat} {vo wo : Nat → Int32} {th : Nat → Bool} {ow : Nat → Nat} {ba mr' : Nat} (h : Rel N (bw, cw, ts, tb, st, ro, mr, la, fu, dn, wr) (co, dn', fu', ct, vo, wo, th, ow, ba, mr')) :
    (∀ k, fu = some k → k < 2 ^ 31) ∧ (∀ k, fu' = some k → k < 2 ^ 31) ∧ oB th ow ∧ mUsed th ow ≤ 9 ∧ (∀ r, ba = r + 1 → r < 3 ∧ th r = true ∧ mr' ≤ 6 ∧ mUsed th ow + mNd th ow r (6 - mr') mr' ≤ 9) ∧ ba < 2 ^ 31 ∧ (∀ r, ro = r + 1 → mr ≤ 6) ∧ ro ≤ 3 ∧ (dn = true → fu = none) ∧ dn' = dn ∧ ct = wr := by
  obtain ⟨rfl, rfl, rfl, hfu, hla, hB, rfl, h1, h2, h3, h4⟩ := h
  have hu := used_is hB.1 hB.2.1
  refine ⟨hfu, hfu, rel_oB hB.2.1, by omega, ?_, ?_, ?_, ?_, h3, rfl, rfl⟩
  · intro r hr
    obtain ⟨k3, k0, rfl, m6, -, hnd⟩ := h4 r hr
    refine ⟨k3, ?_, m6, ?_⟩
    · rw [hB.2.1.1 r k3]
      simpa using k0
    · show mUsed th ow + mNd th ow r (6 - mr') mr' ≤ 9
      rw [nd_is hB.2.1 k3 k0 (by omega)]
      omega
  · show ba < 2 ^ 31
    cases ba with
    | zero => decide
    | succ r => have := (h4 r rfl).1; omega
  · intro r hr
    exact (h4 r hr).2.2.2.1
  · show ba ≤ 3
    cases ba with
    | zero => decide
    | succ r => have := (h4 r rfl).1; omega
theorem rel_mono {N N' : Nat} {u : SV} {w : SM} (hN : N ≤ N') (h : Rel N u w) : Rel N' u w := by
  obtain ⟨bw, cw, ts, tb, st, ro, mr, la, fu, dn, wr⟩ := u
  obtain ⟨co, dn', fu', ct, vo, wo, th, ow, ba, mr'⟩ := w
  obtain ⟨e1, e2, e3, hfu, hla, r⟩ := h
  exact ⟨e1, e2, e3, hfu, Nat.le_trans hla hN, r⟩
theorem rel_co {N co' : Nat} {u : SV} {co : Nat} {dn : Bool} {fu : Option Nat} {ct : Nat} {vo wo : Nat → Int32} {th : Nat → Bool} {ow : Nat → Nat} {ba mr : Nat} (h : Rel N u (co, dn, fu, ct, vo, wo, th, ow, ba, mr)) : Rel N u (co', dn, fu, ct, vo, wo, th, ow, ba, mr) := h
theorem rel_init {N : Nat} {u : SV} {co : Nat} {vo wo : Nat → Int32} {th : Nat → Bool} {ow : Nat → Nat} {mr : Nat} (h : sv0 u) (hv : ∀ k, k < 24 → vo k = nI 0) (ht : ∀ k, k < 3 → th k = false) : Rel N u (co, false, none, 0, vo, wo, th, ow, 0, mr) := by
  obtain ⟨bw, cw, ts, tb, st, ro, mr', la, fu, dn, wr⟩ := u
  obtain ⟨h1, h2, h3, h4, h5, rfl, rfl, rfl, rfl, rfl, rfl⟩ := h
  have s0 : ∀ s, s < 3 → st s = 0 := fun s hs => h5 s hs
  refine ⟨rfl, rfl, rfl, fun k e => (by cases e), Nat.zero_le _, ⟨⟨by decide, fun s hs => Or.inl (s0 s hs), fun c hc => Or.inl (h3 c hc), fun c hc => ⟨0, by decide, h4 c hc⟩, fun s hs s' hs' h0 => absurd (s0 s hs) h0, fun s hs h0 => absurd (s0 s hs) h0⟩, ⟨fun s hs => ?_, fun s hs h0 => absurd (s0 s hs) h0⟩, fun s hs h0 => absurd (s0 s hs) h0⟩, rfl, fun _ => rfl, fun _ j hj => (by rw [hv j hj, h1 j hj]), fun e => (by cases e), fun r e => (by cases e)⟩
  rw [ht s hs, s0 s hs]
  rfl
/-- a wrapper's answer and the reference's, as the law meets them -/
theorem ag_w {ρ τ : Type} {N : Nat} {F : CM ρ} {E : ρ → (Nat → Int64) → Prop} {kc : Nat → Nat} {eqv : ρ → τ → Prop} {u : SV} {r : Int32} {v : (Nat → Int64) × SV} {mm : τ × SM} (hkc : ∀ k, k < 4 → kc k < 5) (hw : wP F E kc u r v) (ha : Agree N kc eqv (F u) mm) :
    Rel N v.2 mm.2 ∧ r = nI mm.2.1 ∧ ((∃ a, mm.2.1 = 0 ∧ E a v.1 ∧ eqv a mm.1) ∨ (0 < mm.2.1 ∧ mm.2.1 < 5)) := by
  rcases hw with ⟨a, h1, h2, h3⟩ | ⟨k, hk, h1, h2⟩
  · rw [h1] at ha
    obtain ⟨q1, q2, q3⟩ := ha
    exact ⟨q3, by rw [h2, q1], Or.inl ⟨a, q1, h3, q2⟩⟩
  · rw [h1] at ha
    obtain ⟨q1, q2, q3⟩ := ha
    exact ⟨q3, by rw [h2, q1], Or.inr ⟨by rw [q1]; exact q2, by rw [q1]; exact hkc k hk⟩⟩
