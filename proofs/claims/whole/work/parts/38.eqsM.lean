/-! ===== small rows for the walks of the reference ===== -/
theorem any_t {f : Nat → Bool} {k : Nat} (h : (List.range k).any f = true ∨ f k = true) : true = (List.range (k + 1)).any f := by
  rw [List.range_succ, List.any_append]
  rcases h with h | h <;> simp [h]
theorem any_f {f : Nat → Bool} {k : Nat} (h1 : (List.range k).any f = false) (h2 : f k = false) : false = (List.range (k + 1)).any f := by
  rw [List.range_succ, List.any_append]
  simp [h1, h2]
theorem all_t {f : Nat → Bool} {k : Nat} (h1 : (List.range k).all f = true) (h2 : f k = true) : true = (List.range (k + 1)).all f := by
  rw [List.range_succ, List.all_append]
  simp [h1, h2]
theorem all_f {f : Nat → Bool} {k : Nat} (h : (List.range k).all f = false ∨ f k = false) : false = (List.range (k + 1)).all f := by
  rw [List.range_succ, List.all_append]
  rcases h with h | h <;> simp [h]
/-- what the places that are there own is a number from 0 to 9 -/
def oB (th : Nat → Bool) (ow : Nat → Nat) : Prop := ∀ k, k < 18 → th (k / 6) = true → ow k ≤ 9
theorem oB.sb {th : Nat → Bool} {ow : Nat → Nat} (h : oB th ow) {s b : Nat} (hs : s < 3) (hb : b < 6) (ht : th s = true) : ow (6 * s + b) ≤ 9 := h (6 * s + b) (by omega) (by rw [show (6 * s + b) / 6 = s by omega]; exact ht)
theorem oB.ten {th : Nat → Bool} {ow : Nat → Nat} (h : oB th ow) : mTkn th ow 10 = false := by
  cases hx : mTkn th ow 10
  · rfl
  · obtain ⟨k, h1, h2, h3⟩ := mTkn_iff.mp hx
    have := h k h1 h2
    omega
theorem cnt_or1 {p q : Nat → Bool} {a : Nat} : ∀ {n : Nat}, (∀ j, j < n → j ≠ a → q j = p j) → cnt q n ≤ cnt p n + 1 := by
  intro n
  induction n with
  | zero => intro _; exact Nat.zero_le _
  | succ n ih =>
    intro h
    show cnt q n + (if q n then 1 else 0) ≤ cnt p n + (if p n then 1 else 0) + 1
    by_cases e : n = a
    · have h1 : cnt q n = cnt p n := cnt_congr (fun j hj => h j (by omega) (by omega))
      rw [h1]
      split <;> split <;> omega
    · rw [h n (by omega) e]
      have := ih (fun j hj hne => h j (by omega) hne)
      omega
theorem pig_n {P : Nat → Bool} {ow : Nat → Nat} : ∀ n, cnt (fun c => (List.range n).any fun k => P k && decide (ow k = c + 1)) 9 ≤ cnt (fun k => P k && decide (0 < ow k)) n := by
  intro n
  induction n with
  | zero => exact Nat.le_of_eq (cnt_zero (fun j _ => by simp))
  | succ n ih =>
    have hs : ∀ c, ((List.range (n + 1)).any fun k => P k && decide (ow k = c + 1)) = (((List.range n).any fun k => P k && decide (ow k = c + 1)) || (P n && decide (ow n = c + 1))) := by
      intro c
      rw [List.range_succ, List.any_append]
      simp
    by_cases hp : (P n && decide (0 < ow n)) = true
    · rw [cnt_y (p := fun k => P k && decide (0 < ow k)) hp]
      refine Nat.le_trans (cnt_or1 (a := ow n - 1) (p := fun c => (List.range n).any fun k => P k && decide (ow k = c + 1)) (fun j _ hne => ?_)) (by omega)
      rw [hs j]
      have : decide (ow n = j + 1) = false := by simp; omega
      rw [this]
      simp
    · have hp' : (P n && decide (0 < ow n)) = false := by simpa using hp
      rw [cnt_s (p := fun k => P k && decide (0 < ow k)) hp']
      refine Nat.le_trans (Nat.le_of_eq (cnt_congr (fun j _ => ?_))) ih
      rw [hs j]
      have : (P n && decide (ow n = j + 1)) = false := by
        cases h1 : P n
        · rfl
        · rw [h1] at hp'
          simp at hp'
          simp
          omega
      rw [this]
      simp
theorem cnt_full {p : Nat → Bool} : ∀ {n : Nat}, (∀ j, j < n → p j = true) → cnt p n = n := by
  intro n
  induction n with
  | zero => intro _; rfl
  | succ n ih =>
    intro h
    rw [cnt_y (h n (by omega)), ih (fun j hj => h j (by omega))]
theorem fst_ex {p : Nat → Bool} : ∀ {n k c : Nat}, k ≤ c → c < k + n → p c = true → ∃ c', fst p n k = some c' ∧ k ≤ c' ∧ c' ≤ c := by
  intro n
  induction n with
  | zero => intro k c h1 h2; omega
  | succ n ih =>
    intro k c h1 h2 h3
    by_cases h : p k = true
    · exact ⟨k, fst_y h, Nat.le_refl _, h1⟩
    · have h' : p k = false := by simpa using h
      have hne : k ≠ c := fun e => by rw [e, h3] at h'; cases h'
      obtain ⟨c', e1, e2, e3⟩ := ih (k := k + 1) (by omega) (by omega) h3
      exact ⟨c', by rw [fst_s h']; exact e1, by omega, e3⟩
theorem mLow_le {th : Nat → Bool} {ow : Nat → Nat} (hu : mUsed th ow ≤ 8) : 1 ≤ mLow th ow ∧ mLow th ow ≤ 9 := by
  have h1 := pig_n (P := fun k => th (k / 6)) (ow := ow) 18
  have h2 : ∃ c, c < 9 ∧ mTkn th ow (c + 1) = false := by
    refine Classical.byContradiction fun hn => ?_
    have h3 : cnt (fun c => mTkn th ow (c + 1)) 9 = 9 := cnt_full (fun j hj => by
      cases hx : mTkn th ow (j + 1)
      · exact absurd ⟨j, hj, hx⟩ hn
      · rfl)
    have h4 : cnt (fun c => mTkn th ow (c + 1)) 9 ≤ mUsed th ow := h1
    omega
  obtain ⟨c, hc, ht⟩ := h2
  obtain ⟨c', e1, e2, e3⟩ := fst_ex (p := fun c => ! mTkn th ow c) (n := 10) (k := 1) (c := c + 1) (by omega) (by omega) (by simp [ht])
  have : mLow th ow = c' := by unfold mLow; rw [e1]; rfl
  omega
theorem mUsed_up (th : Nat → Bool) (ow : Nat → Nat) (k v : Nat) : mUsed th (va_up ow k v) ≤ mUsed th ow + 1 := cnt_or1 (a := k) (fun j _ hne => by
  show (th (j / 6) && decide (0 < va_up ow k v j)) = _
  unfold va_up
  rw [if_neg hne])
theorem mIsS_up {th : Nat → Bool} {but : Option Nat} {ow : Nat → Nat} {b s j v : Nat} (hne : j ≠ s) : mIsS th but (va_up ow (6 * s + b) v) b j = mIsS th but ow b j := by
  unfold mIsS va_up
  rw [if_neg (by omega)]
theorem cntR_up {th : Nat → Bool} {but : Option Nat} {ow : Nat → Nat} {b s v : Nat} : ∀ {n j : Nat}, s < j → cntR (mIsS th but (va_up ow (6 * s + b) v) b) n j = cntR (mIsS th but ow b) n j := by
  intro n
  induction n with
  | zero => intro j _; rfl
  | succ n ih =>
    intro j hj
    show (if _ then 1 else 0) + _ = (if _ then 1 else 0) + _
    rw [mIsS_up (by omega), ih (by omega)]
/-- a part's way: the bounds are kept -/
theorem partL_ok {th : Nat → Bool} {but : Option Nat} {b : Nat} (hb : b < 6) : ∀ (n s left : Nat) (ow : Nat → Nat), s + n = 3 → oB th ow → mUsed th ow + cntR (mIsS th but ow b) n s ≤ 9 → oB th (mPartL th b but n s left ow) ∧ mUsed th (mPartL th b but n s left ow) ≤ mUsed th ow + cntR (mIsS th but ow b) n s := by
  intro n
  induction n with
  | zero => intro s left ow _ h1 h2; exact ⟨h1, Nat.le_add_right _ _⟩
  | succ n ih =>
    intro s left ow hs h1 h2
    have e : cntR (mIsS th but ow b) (n + 1) s = (if mIsS th but ow b s then 1 else 0) + cntR (mIsS th but ow b) n (s + 1) := rfl
    rw [e] at h2 ⊢
    unfold mPartL
    split
    · exact ⟨h1, Nat.le_add_right _ _⟩
    · split
      · rename_i hx
        rw [if_pos hx] at h2
        have hl := mLow_le (th := th) (ow := ow) (by omega)
        have hu := mUsed_up th ow (6 * s + b) (mLow th ow)
        have h1' : oB th (va_up ow (6 * s + b) (mLow th ow)) := by
          intro k hk ht
          unfold va_up
          split
          · omega
          · exact h1 k hk ht
        have hc : cntR (mIsS th but (va_up ow (6 * s + b) (mLow th ow)) b) n (s + 1) = cntR (mIsS th but ow b) n (s + 1) := cntR_up (Nat.lt_succ_self s)
        have q := ih (s + 1) (left - 1) (va_up ow (6 * s + b) (mLow th ow)) (by omega) h1' (by rw [hc]; omega)
        rw [hc] at q
        exact ⟨q.1, by omega⟩
      · rename_i hx
        rw [if_neg hx] at h2
        have q := ih (s + 1) left ow (by omega) h1 (by omega)
        exact ⟨q.1, by omega⟩
theorem mPart_ok {th : Nat → Bool} {ow : Nat → Nat} {b : Nat} {but : Option Nat} {many : Nat} (hb : b < 6) (h1 : oB th ow) (h2 : mUsed th ow + mShr th ow b but ≤ 9) : oB th (mPart th ow b but many) ∧ mUsed th (mPart th ow b but many) ≤ mUsed th ow + mShr th ow b but := by
  have e : mShr th ow b but = cntR (mIsS th but ow b) 3 0 := cnt3 _
  rw [e] at h2 ⊢
  exact partL_ok hb 3 0 many ow rfl h1 h2
/-- other blocks are not touched -/
theorem partL_out {th : Nat → Bool} {but : Option Nat} {b : Nat} (hb : b < 6) : ∀ (n s left : Nat) (ow : Nat → Nat) {s' b' : Nat}, b' < 6 → b' ≠ b → mPartL th b but n s left ow (6 * s' + b') = ow (6 * s' + b') := by
  intro n
  induction n with
  | zero => intro s left ow s' b' _ _; rfl
  | succ n ih =>
    intro s left ow s' b' hb' hne
    unfold mPartL
    split
    · rfl
    · split
      · rw [ih _ _ _ hb' hne]
        unfold va_up
        rw [if_neg (by omega)]
      · exact ih _ _ _ hb' hne
theorem mPart_out {th : Nat → Bool} {ow : Nat → Nat} {b : Nat} {but : Option Nat} {many s' b' : Nat} (hb : b < 6) (hb' : b' < 6) (hne : b' ≠ b) : mPart th ow b but many (6 * s' + b') = ow (6 * s' + b') := partL_out hb 3 0 many ow hb' hne
/-- what a rollback asks from block b on -/
def mNd (th : Nat → Bool) (ow : Nat → Nat) (s : Nat) : Nat → Nat → Nat
  | 0, _ => 0
  | n + 1, b => (if mHas ow s b then mShr th ow b (some s) else 0) + mNd th ow s n (b + 1)
theorem mNd_out {th : Nat → Bool} {ow ow' : Nat → Nat} {s b : Nat} (h : ∀ s' b', b' < 6 → b' ≠ b → ow' (6 * s' + b') = ow (6 * s' + b')) : ∀ {n b' : Nat}, b' + n = 6 → b < b' → mNd th ow' s n b' = mNd th ow s n b' := by
  intro n
  induction n with
  | zero => intro b' _ _; rfl
  | succ n ih =>
    intro b' hn hb
    have e1 : mHas ow' s b' = mHas ow s b' := by unfold mHas; rw [h s b' (by omega) (by omega)]
    have e2 : mShr th ow' b' (some s) = mShr th ow b' (some s) := cnt_congr (fun j _ => by unfold mIsS; rw [h j b' (by omega) (by omega)])
    show (if _ then _ else 0) + _ = (if _ then _ else 0) + _
    rw [e1, e2, ih (by omega) (by omega)]
theorem mNeed_nd (th : Nat → Bool) (ow : Nat → Nat) (s : Nat) : mNeed th ow s = mNd th ow s 6 0 := by
  unfold mNeed
  simp only [sm, mNd, Nat.reduceAdd]
  omega
section LAST
variable {fu fl : Option Nat} {ct cl w : Nat} {dn dl : Bool}
theorem mLast_n : mLast none ct dn w = (true, none, ct + w, dn) := rfl
theorem mLast_y {k : Nat} (h : w ≤ k) : mLast (some k) ct dn w = (true, some (k - w), ct + w, dn) := if_pos h
theorem mLast_c {k : Nat} (h : ¬ w ≤ k) : mLast (some k) ct dn w = (false, some k, ct + k, true) := if_neg h
theorem mLast_false (h : mLast fu ct dn w = (false, fl, cl, dl)) : ∃ k, fl = some k ∧ k < w := by
  cases fu with
  | none => cases h
  | some k =>
    by_cases hw : w ≤ k
    · rw [mLast_y hw] at h; cases h
    · rw [mLast_c hw] at h; cases h; exact ⟨k, rfl, by omega⟩
theorem mLast_fu {bl : Bool} (h : mLast fu ct dn w = (bl, fl, cl, dl)) (hf : ∀ k, fu = some k → k < 2 ^ 31) : ∀ k, fl = some k → k < 2 ^ 31 := by
  cases fu with
  | none => cases h; intro k e; cases e
  | some k =>
    by_cases hw : w ≤ k
    · rw [mLast_y hw] at h; cases h; intro j e; cases e; have := hf _ rfl; omega
    · rw [mLast_c hw] at h; cases h; intro j e; cases e; exact hf _ rfl
end LAST
theorem isW {x y : Int32} (h : ((ixI x 6).isSome && (ixI y 4).isSome) = true) : (∃ k, k < 6 ∧ x = nI k) ∧ ∃ i, i < 4 ∧ y = nI i := by
  cases hx : ixI x 6 with
  | none => rw [hx] at h; cases h
  | some k =>
    cases hy : ixI y 4 with
    | none => rw [hx, hy] at h; cases h
    | some i => exact ⟨⟨k, ixI_some (by decide) hx⟩, i, ixI_some (by decide) hy⟩
theorem isS_in {x : Int32} (h : (ixI x 3).isSome = true) : ∃ k, k < 3 ∧ x = nI k := by
  cases hx : ixI x 3 with
  | none => rw [hx] at h; cases h
  | some k => exact ⟨k, ixI_some (by decide) hx⟩
theorem isB_in {x : Int32} (h : (ixI x 6).isSome = true) : ∃ k, k < 6 ∧ x = nI k := by
  cases hx : ixI x 6 with
  | none => rw [hx] at h; cases h
  | some k => exact ⟨k, ixI_some (by decide) hx⟩
theorem none_of {α : Type} {o : Option α} (h : o.isSome = false) : o = none := by cases o <;> simp_all
theorem mHasS_n {th : Nat → Bool} {k : Nat} (hk : k < 3) : mHasS th (nI k) = if th k then some k else none := by
  unfold mHasS
  rw [ixI_nI hk (by decide)]
theorem mHasS_in {th : Nat → Bool} {x : Int32} (h : (mHasS th x).isSome = true) : ∃ k, k < 3 ∧ x = nI k ∧ th k = true ∧ mHasS th x = some k := by
  unfold mHasS at h
  cases hx : ixI x 3 with
  | none => rw [hx] at h; cases h
  | some k =>
    obtain ⟨h1, rfl⟩ := ixI_some (by decide) hx
    rw [hx] at h
    cases ht : th k with
    | false => simp [ht] at h
    | true => exact ⟨k, h1, rfl, ht, by rw [mHasS_n h1, ht]; rfl⟩
theorem ixI_in {v : Int32} {n : Nat} (hn : n + 1 < 2 ^ 31) (h1 : ¬ v < nI 0) (h2 : ¬ nI n < v) : (ixI v (n + 1)).isSome = true := by
  have h3 : ¬ v < 0 := h1
  have h4 : ¬ nI (n + 1) ≤ v := by
    intro z
    apply h2
    rw [Int32.le_iff_toInt_le] at z
    rw [Int32.lt_iff_toInt_lt]
    rw [nI_toInt hn] at z
    rw [nI_toInt (by omega)]
    omega
  obtain ⟨j, hj, rfl⟩ := ixI_of hn h3 h4
  rw [ixI_nI hj hn]
  rfl
theorem ixI_up {v : Int32} {n : Nat} (hn : n + 1 < 2 ^ 31) (h : nI n < v) : (ixI v (n + 1)).isSome = false := by
  rw [ixI_hi]
  · rfl
  · rw [Int32.le_iff_toInt_le, nI_toInt hn]
    rw [Int32.lt_iff_toInt_lt, nI_toInt (by omega)] at h
    omega
/-! static calls out of static methods -/
section EST2
variable {p : Program} {l : Launch} {e : Env} {R : Room} {s : State} {m : MethodId} {args : Array Value} {below : List Frame} {meth : Method} {c : Code} {H : Heap} {locs : List Loc} {cells slots : Nat} {Q : State → Prop}
variable {cc bytes : ByteArray} {nL maxL pc sz n index : Nat} {ls : Array Slot} {avs rest st0 : List Value} {y : MethodName} {ret : Option FieldType} {rm : Room} {own : String}
theorem st_rz' {post : Int32 → Prop} {b : Bool} (C : gC p s m args meth c cc nL own) (hr : meth.sig.returnType = some .boolean) (hS : va_S (va_A [] sz) s.heap H locs) (hp : post (bI b)) (hdg : decode cc pc = .ok (.ireturn, 1)) : W p l e R s m args below meth c H locs 0 0 (MQ below (va_Qi (fun r (_ : Unit) => post r) (fun _ _ => True) (va_A [] sz)) args s 0 0 (va_A [] sz)) (F0 m pc ls [.int (bI b)]) :=
  W.zret (v := bI b) C.1 C.2.1 hr (bI_narrow b) (fun t ht hW => ⟨⟨bI b, (), rfl, hp, trivial⟩, hS.F ht⟩) (fun q hq => hS.2.2 q hq) hdg C.2.2.2.2.2
theorem st_cs {post : Int32 → Prop} (C : gC p s m args meth c cc nL own) (hS : va_S (va_A [] sz) s.heap H locs) (hsz : s.heap.size = sz) (hM : stMi l H.size y (.code y bytes maxL ret) rm avs post) (k : lkS own index y bytes maxL ret n) (hrc : rm.cells = 0) (hrs : rm.slots = 0) (hR : rm.frames + 1 ≤ R.frames ∧ 8 + (maxL + 11) + rm.locals ≤ R.locals) (hcl : cells ≤ R.cells ∧ slots ≤ R.slots) (hn : avs.length = n) (hl : ls.size = nL) (hst : st0 = avs.reverse ++ rest) (hrest : (rest.map fun v => v.category).sum ≤ 8) (hdg : decode cc pc = .ok (.invokestatic index, 3)) (kk : ∀ (r : Int32) (H1 : Heap) (locs1 : List Loc), post r → va_S (va_A [] sz) s.heap H1 locs1 → W p l e R s m args below meth c H1 locs1 cells slots Q (F0 m (pc + 3) ls (.int r :: rest))) : W p l e R s m args below meth c H locs cells slots Q (F0 m pc ls st0) := by
  have cw := k.cw (R := R) (rm := rm) (args := args) (s := s) C.2.2.2.2.1 hR
  rw [hrc, hrs] at cw
  refine va_calli (va_runS (As := avs) (rest := rest) ⟨C.1, C.2.1, C.2.2.1, C.2.2.2.1, C.2.2.2.2.1⟩ hM cw ⟨fun a U g mk q => ⟨q.1, q.2⟩, fun U hU hW => ⟨rfl, congrArg Array.size hU⟩⟩ rfl hn hl hst (lv_room hrest) hdg hcl) hS (fun q hq hz => absurd (st_A hz) (by omega)) (fun q hq => Or.inr (Nat.le_trans (by rw [← hsz]; exact hS.1) (st_A hq))) (fun r u' t H1 locs1 ht hvm hw hB hz hk hS => ?_)
  exact kk r H1 locs1 hw hS
end EST2
