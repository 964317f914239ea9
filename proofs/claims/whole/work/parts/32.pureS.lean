set_option maxHeartbeats 4000000 in
set_option maxRecDepth 100000 in
/-- R_S.hasSnapshot -/
theorem c_S_hasSnapshot (l : Launch) (D : va_G) (cA : Nat → ClassId) (h : Nat → Nat) (sz : Nat) (bw : (Nat → Int32)) (cw : (Nat → Int32)) (ts : (Nat → Int32)) (tb : (Nat → Int32)) (st : (Nat → Int32)) (ro : Nat) (mr : Nat) (la : Nat) (fu : Option Nat) (dn : Bool) (wr : Nat) (x : Int32) : svMi l D cA h (bw, cw, ts, tb, st, ro, mr, la, fu, dn, wr) sz y_S_hasSnapshot (.code y_S_hasSnapshot b_S_hasSnapshot 2 (some .boolean)) (rmL 0) [.int x] (fun r u' => r = bI (cHas st x) ∧ u' = (bw, cw, ts, tb, st, ro, mr, la, fu, dn, wr)) := by
  refine sv_mi (by decide) rfl (Nat.le_of_ble_eq_true rfl) ?_
  intro p e s m args below meth c C hr hsz I ls hl
  generalize svA cA h (bw, cw, ts, tb, st, ro, mr, la, fu, dn, wr) sz = A at I ⊢
  have hl : lv_has ls 2 [(0, .ref (h 0)), (1, .int x)] := hl
  refine lv_iload_n C.1 C.2.1 d_S_hasSnapshot_0 rfl (lv_at hl 1 rfl) ?_
  refine lv_if_lt (x := x) (tgt := 22) C.1 C.2.1 d_S_hasSnapshot_1 (by decide) (fun q1 => ?_) (fun q1 => ?_)
  · refine lv_iconst (v := nI 0) C.1 C.2.1 d_S_hasSnapshot_22 (by decide) ?_
    exact sv_rz (b := false) C hr I ⟨congrArg bI (by first | exact (cHas_none (ixI_lo q1)).symm | exact (cHas_none (ixI_hi q6)).symm | (rw [cHas_n _ hk]; simp [q15])), rfl⟩ d_S_hasSnapshot_23
  · refine lv_iload_n C.1 C.2.1 d_S_hasSnapshot_4 rfl (lv_at hl 1 rfl) ?_
    refine lv_iconst (v := nI 3) C.1 C.2.1 d_S_hasSnapshot_5 (by decide) ?_
    refine lv_icmp_ge (x := x) (y := nI 3) (tgt := 22) C.1 C.2.1 d_S_hasSnapshot_6 (by decide) (fun q6 => ?_) (fun q6 => ?_)
    · refine lv_iconst (v := nI 0) C.1 C.2.1 d_S_hasSnapshot_22 (by decide) ?_
      exact sv_rz (b := false) C hr I ⟨congrArg bI (by first | exact (cHas_none (ixI_lo q1)).symm | exact (cHas_none (ixI_hi q6)).symm | (rw [cHas_n _ hk]; simp [q15])), rfl⟩ d_S_hasSnapshot_23
    · obtain ⟨k, hk, rfl⟩ := ixI_of (n := 3) (by decide) q1 q6
      refine lv_aload_n C.1 C.2.1 d_S_hasSnapshot_9 rfl (lv_at hl 0 rfl) ?_
      refine sv_g4 C I d_S_hasSnapshot_10 ?_
      refine lv_iload_n C.1 C.2.1 d_S_hasSnapshot_13 rfl (lv_at hl 1 rfl) ?_
      refine sv_l5 C I (k := k) (by omega) d_S_hasSnapshot_14 ?_
      refine lv_if_eq (x := (st k)) (tgt := 22) C.1 C.2.1 d_S_hasSnapshot_15 (by decide) (fun q15 => ?_) (fun q15 => ?_)
      · refine lv_iconst (v := nI 0) C.1 C.2.1 d_S_hasSnapshot_22 (by decide) ?_
        exact sv_rz (b := false) C hr I ⟨congrArg bI (by first | exact (cHas_none (ixI_lo q1)).symm | exact (cHas_none (ixI_hi q6)).symm | (rw [cHas_n _ hk]; simp [q15])), rfl⟩ d_S_hasSnapshot_23
      · refine lv_iconst (v := nI 1) C.1 C.2.1 d_S_hasSnapshot_18 (by decide) ?_
        refine lv_goto (tgt := 23) C.1 C.2.1 d_S_hasSnapshot_19 (by decide) ?_
        exact sv_rz (b := true) C hr I ⟨congrArg bI (by first | exact (cHas_none (ixI_lo q1)).symm | exact (cHas_none (ixI_hi q6)).symm | (rw [cHas_n _ hk]; simp [q15])), rfl⟩ d_S_hasSnapshot_23
set_option maxHeartbeats 4000000 in
set_option maxRecDepth 100000 in
theorem lp_S_lowestEmptyPlace_2 {p : Program} {l : Launch} {e : Env} {s : State} {m : MethodId} {args : Array Value} {below : List Frame} {meth : Method} {c : Code} {D : va_G} {cA : Nat → ClassId} {A : Nat → Prop} {h : Nat → Nat} {bw : (Nat → Int32)} {cw : (Nat → Int32)} {ts : (Nat → Int32)} {tb : (Nat → Int32)} {st : (Nat → Int32)} {ro : Nat} {mr : Nat} {la : Nat} {fu : Option Nat} {dn : Bool} {wr : Nat} (C : gC p s m args meth c b_S_lowestEmptyPlace 2 R_S) (hr : meth.sig.returnType = (some .int))    : ∀ (fuel : Nat) (i : Nat), 3 - i < fuel → i ≤ 3 → cLE st = fst (fun s => decide (st s = 0)) (3 - i) i → ∀ (H : Heap) (locs : List Loc), svI D cA A s h (bw, cw, ts, tb, st, ro, mr, la, fu, dn, wr) H locs → ∀ (ls : Array Slot), lv_has ls 2 [(0, .ref (h 0)), (1, .int (nI i))] → W p l e (rmL 1) s m args below meth c H locs 0 0 (MQ below (va_Qi (fun r u' => r = oI (cLE st) ∧ u' = (bw, cw, ts, tb, st, ro, mr, la, fu, dn, wr)) (svAt D cA A h) A) args s 0 0 A) (F0 m 2 ls []) := by
  intro fuel
  induction fuel with
  | zero =>
    intro _ hfuel
    exact absurd hfuel (Nat.not_lt_zero _)
  | succ fuel ih =>
    intro i hfuel hi hf H locs I ls hl
    refine lv_iload_n C.1 C.2.1 d_S_lowestEmptyPlace_2 rfl (lv_at hl 1 rfl) ?_
    refine lv_iconst (v := nI 3) C.1 C.2.1 d_S_lowestEmptyPlace_3 (by decide) ?_
    refine n_icmp_ge C.1 C.2.1 (a := i) (b := 3) (tgt := 23) (by omega) (by omega) d_S_lowestEmptyPlace_4 (by decide) (fun q4 => ?_) (fun q4 => ?_)
    · refine lv_iconst (v := oI none) C.1 C.2.1 d_S_lowestEmptyPlace_23 (by decide) ?_
      exact sv_ri (v := oI none) C hr I ⟨show oI none = _ from congrArg oI (by rw [hf, show 3 - i = 0 by omega]; rfl), rfl⟩ d_S_lowestEmptyPlace_24
    · refine lv_aload_n C.1 C.2.1 d_S_lowestEmptyPlace_7 rfl (lv_at hl 0 rfl) ?_
      refine lv_iload_n C.1 C.2.1 d_S_lowestEmptyPlace_8 rfl (lv_at hl 1 rfl) ?_
      refine sv_ci C I (c_S_hasSnapshot l D cA h _ bw cw ts tb st ro mr la fu dn wr (nI i)) lk_S119 rfl rfl ⟨by decide, by decide⟩ ⟨Nat.zero_le _, Nat.zero_le _⟩ rfl hl.1 (rest := []) rfl (Nat.le_of_ble_eq_true rfl) d_S_lowestEmptyPlace_9 (fun r u' H locs w9 I => ?_)
      obtain ⟨rfl, rfl⟩ := w9
      refine n_ifne (b := cHas st (nI i)) (tgt := 17) C.1 C.2.1 d_S_lowestEmptyPlace_12 (by decide) (fun q12 => ?_) (fun q12 => ?_)
      · refine lv_iinc (v := nI (i + 1)) (lv' := [(1, .int (nI (i + 1))), (0, .ref (h 0))]) C.1 C.2.1 d_S_lowestEmptyPlace_17 hl (k := 1) rfl (by rw [show nI (i + 1) = nI i + nI 1 from (nI_add _ _).symm]; rfl) (by decide) rfl (fun ls hl => ?_)
        refine lv_goto (tgt := 2) C.1 C.2.1 d_S_lowestEmptyPlace_20 (by decide) ?_
        exact ih (i + 1) (by omega) (by omega) (by rw [hf, show 3 - i = (3 - (i + 1)) + 1 by omega]; exact fst_s (by rw [cHas_n _ (by omega)] at q12; simpa using q12)) _ _ I ls (lv_sub hl [1, 0] rfl)
      · refine lv_iload_n C.1 C.2.1 d_S_lowestEmptyPlace_15 rfl (lv_at hl 1 rfl) ?_
        exact sv_ri (v := nI i) C hr I ⟨show oI (some i) = _ from congrArg oI (by rw [hf, show 3 - i = (2 - i) + 1 by omega]; exact (fst_y (by rw [cHas_n _ (by omega)] at q12; simpa using q12)).symm), rfl⟩ d_S_lowestEmptyPlace_16
set_option maxHeartbeats 4000000 in
set_option maxRecDepth 100000 in
/-- R_S.lowestEmptyPlace -/
theorem c_S_lowestEmptyPlace (l : Launch) (D : va_G) (cA : Nat → ClassId) (h : Nat → Nat) (sz : Nat) (bw : (Nat → Int32)) (cw : (Nat → Int32)) (ts : (Nat → Int32)) (tb : (Nat → Int32)) (st : (Nat → Int32)) (ro : Nat) (mr : Nat) (la : Nat) (fu : Option Nat) (dn : Bool) (wr : Nat)  : svMi l D cA h (bw, cw, ts, tb, st, ro, mr, la, fu, dn, wr) sz y_S_lowestEmptyPlace (.code y_S_lowestEmptyPlace b_S_lowestEmptyPlace 2 (some .int)) (rmL 1) [] (fun r u' => r = oI (cLE st) ∧ u' = (bw, cw, ts, tb, st, ro, mr, la, fu, dn, wr)) := by
  refine sv_mi (by decide) rfl (Nat.le_of_ble_eq_true rfl) ?_
  intro p e s m args below meth c C hr hsz I ls hl
  generalize svA cA h (bw, cw, ts, tb, st, ro, mr, la, fu, dn, wr) sz = A at I ⊢
  have hl : lv_has ls 2 [(0, .ref (h 0))] := hl
  refine lv_iconst (v := nI 0) C.1 C.2.1 d_S_lowestEmptyPlace_0 (by decide) ?_
  refine lv_istore_n (lv' := [(1, .int (nI 0)), (0, .ref (h 0))]) C.1 C.2.1 d_S_lowestEmptyPlace_1 rfl hl (by decide) rfl (fun ls hl => ?_)
  exact lp_S_lowestEmptyPlace_2 C hr   _ 0 (Nat.lt_succ_self _) (by omega) rfl _ _ I ls (lv_sub hl [1, 0] rfl)
set_option maxHeartbeats 4000000 in
set_option maxRecDepth 100000 in
theorem lp_S_isFree_2 {p : Program} {l : Launch} {e : Env} {s : State} {m : MethodId} {args : Array Value} {below : List Frame} {meth : Method} {c : Code} {D : va_G} {cA : Nat → ClassId} {A : Nat → Prop} {h : Nat → Nat} {bw : (Nat → Int32)} {cw : (Nat → Int32)} {ts : (Nat → Int32)} {tb : (Nat → Int32)} {st : (Nat → Int32)} {ro : Nat} {mr : Nat} {la : Nat} {fu : Option Nat} {dn : Bool} {wr : Nat} (C : gC p s m args meth c b_S_isFree 3 R_S) (hr : meth.sig.returnType = (some .boolean)) (k0 : Nat) (hk0 : k0 < 9)   : ∀ (fuel : Nat) (i : Nat), 3 - i < fuel → i ≤ 3 → (∀ j, j < i → ts k0 ≠ st j) → ∀ (H : Heap) (locs : List Loc), svI D cA A s h (bw, cw, ts, tb, st, ro, mr, la, fu, dn, wr) H locs → ∀ (ls : Array Slot), lv_has ls 3 [(0, .ref (h 0)), (1, .int (nI k0)), (2, .int (nI i))] → W p l e (rmL 0) s m args below meth c H locs 0 0 (MQ below (va_Qi (fun r u' => r = bI (cFree ts st k0) ∧ u' = (bw, cw, ts, tb, st, ro, mr, la, fu, dn, wr)) (svAt D cA A h) A) args s 0 0 A) (F0 m 2 ls []) := by
  intro fuel
  induction fuel with
  | zero =>
    intro _ hfuel
    exact absurd hfuel (Nat.not_lt_zero _)
  | succ fuel ih =>
    intro i hfuel hi hj H locs I ls hl
    refine lv_iload_n C.1 C.2.1 d_S_isFree_2 rfl (lv_at hl 2 rfl) ?_
    refine lv_iconst (v := nI 3) C.1 C.2.1 d_S_isFree_3 (by decide) ?_
    refine n_icmp_ge C.1 C.2.1 (a := i) (b := 3) (tgt := 30) (by omega) (by omega) d_S_isFree_4 (by decide) (fun q4 => ?_) (fun q4 => ?_)
    · refine lv_iconst (v := nI 1) C.1 C.2.1 d_S_isFree_30 (by decide) ?_
      exact sv_rz (b := true) C hr I ⟨congrArg bI (free_iff.mpr (fun s hs => hj s (by omega))).symm, rfl⟩ d_S_isFree_31
    · refine lv_aload_n C.1 C.2.1 d_S_isFree_7 rfl (lv_at hl 0 rfl) ?_
      refine sv_g2 C I d_S_isFree_8 ?_
      refine lv_iload_n C.1 C.2.1 d_S_isFree_11 rfl (lv_at hl 1 rfl) ?_
      refine sv_l3 C I (k := k0) (by omega) d_S_isFree_12 ?_
      refine lv_aload_n C.1 C.2.1 d_S_isFree_13 rfl (lv_at hl 0 rfl) ?_
      refine sv_g4 C I d_S_isFree_14 ?_
      refine lv_iload_n C.1 C.2.1 d_S_isFree_17 rfl (lv_at hl 2 rfl) ?_
      refine sv_l5 C I (k := i) (by omega) d_S_isFree_18 ?_
      refine lv_icmp_ne (x := (ts k0)) (y := (st i)) (tgt := 24) C.1 C.2.1 d_S_isFree_19 (by decide) (fun q19 => ?_) (fun q19 => ?_)
      · refine lv_iinc (v := nI (i + 1)) (lv' := [(2, .int (nI (i + 1))), (0, .ref (h 0)), (1, .int (nI k0))]) C.1 C.2.1 d_S_isFree_24 hl (k := 2) rfl (by rw [show nI (i + 1) = nI i + nI 1 from (nI_add _ _).symm]; rfl) (by decide) rfl (fun ls hl => ?_)
        refine lv_goto (tgt := 2) C.1 C.2.1 d_S_isFree_27 (by decide) ?_
        exact ih (i + 1) (by omega) (by omega) (fun j hj2 => by rcases Nat.lt_or_ge j i with g | g; exact hj j g; rw [show j = i by omega]; exact q19) _ _ I ls (lv_sub hl [1, 2, 0] rfl)
      · refine lv_iconst (v := nI 0) C.1 C.2.1 d_S_isFree_22 (by decide) ?_
        exact sv_rz (b := false) C hr I ⟨congrArg bI (by symm; cases hx : cFree ts st k0; rfl; exact absurd q19 (free_iff.mp hx i (by omega))), rfl⟩ d_S_isFree_23
set_option maxHeartbeats 4000000 in
set_option maxRecDepth 100000 in
/-- R_S.isFree -/
theorem c_S_isFree (l : Launch) (D : va_G) (cA : Nat → ClassId) (h : Nat → Nat) (sz : Nat) (bw : (Nat → Int32)) (cw : (Nat → Int32)) (ts : (Nat → Int32)) (tb : (Nat → Int32)) (st : (Nat → Int32)) (ro : Nat) (mr : Nat) (la : Nat) (fu : Option Nat) (dn : Bool) (wr : Nat) (k0 : Nat) (hk0 : k0 < 9) : svMi l D cA h (bw, cw, ts, tb, st, ro, mr, la, fu, dn, wr) sz y_S_isFree (.code y_S_isFree b_S_isFree 3 (some .boolean)) (rmL 0) [.int (nI k0)] (fun r u' => r = bI (cFree ts st k0) ∧ u' = (bw, cw, ts, tb, st, ro, mr, la, fu, dn, wr)) := by
  refine sv_mi (by decide) rfl (Nat.le_of_ble_eq_true rfl) ?_
  intro p e s m args below meth c C hr hsz I ls hl
  generalize svA cA h (bw, cw, ts, tb, st, ro, mr, la, fu, dn, wr) sz = A at I ⊢
  have hl : lv_has ls 3 [(0, .ref (h 0)), (1, .int (nI k0))] := hl
  refine lv_iconst (v := nI 0) C.1 C.2.1 d_S_isFree_0 (by decide) ?_
  refine lv_istore_n (lv' := [(2, .int (nI 0)), (0, .ref (h 0)), (1, .int (nI k0))]) C.1 C.2.1 d_S_isFree_1 rfl hl (by decide) rfl (fun ls hl => ?_)
  exact lp_S_isFree_2 C hr k0 hk0  _ 0 (Nat.lt_succ_self _) (by omega) (fun j hj => absurd hj (Nat.not_lt_zero j)) _ _ I ls (lv_sub hl [1, 2, 0] rfl)
set_option maxHeartbeats 4000000 in
set_option maxRecDepth 100000 in
theorem lp_S_countFree_4 {p : Program} {l : Launch} {e : Env} {s : State} {m : MethodId} {args : Array Value} {below : List Frame} {meth : Method} {c : Code} {D : va_G} {cA : Nat → ClassId} {A : Nat → Prop} {h : Nat → Nat} {bw : (Nat → Int32)} {cw : (Nat → Int32)} {ts : (Nat → Int32)} {tb : (Nat → Int32)} {st : (Nat → Int32)} {ro : Nat} {mr : Nat} {la : Nat} {fu : Option Nat} {dn : Bool} {wr : Nat} (C : gC p s m args meth c b_S_countFree 3 R_S) (hr : meth.sig.returnType = (some .int))    : ∀ (fuel : Nat) (i : Nat) (a : Nat), 9 - i < fuel → i ≤ 9 → a = cnt (cFree ts st) i → ∀ (H : Heap) (locs : List Loc), svI D cA A s h (bw, cw, ts, tb, st, ro, mr, la, fu, dn, wr) H locs → ∀ (ls : Array Slot), lv_has ls 3 [(0, .ref (h 0)), (1, .int (nI a)), (2, .int (nI i))] → W p l e (rmL 1) s m args below meth c H locs 0 0 (MQ below (va_Qi (fun r u' => r = nI (cNF ts st) ∧ u' = (bw, cw, ts, tb, st, ro, mr, la, fu, dn, wr)) (svAt D cA A h) A) args s 0 0 A) (F0 m 4 ls []) := by
  intro fuel
  induction fuel with
  | zero =>
    intro _ _ hfuel
    exact absurd hfuel (Nat.not_lt_zero _)
  | succ fuel ih =>
    intro i a hfuel hi ha H locs I ls hl
    subst ha
    have hc9 := cnt_le (cFree ts st) i
    refine lv_iload_n C.1 C.2.1 d_S_countFree_4 rfl (lv_at hl 2 rfl) ?_
    refine lv_bipush (v := nI 9) C.1 C.2.1 d_S_countFree_5 (by decide) ?_
    refine n_icmp_ge C.1 C.2.1 (a := i) (b := 9) (tgt := 27) (by omega) (by omega) d_S_countFree_7 (by decide) (fun q7 => ?_) (fun q7 => ?_)
    · refine lv_iload_n C.1 C.2.1 d_S_countFree_27 rfl (lv_at hl 1 rfl) ?_
      exact sv_ri (v := nI (cnt (cFree ts st) i)) C hr I ⟨congrArg nI (by rw [show i = 9 by omega]; rfl), rfl⟩ d_S_countFree_28
    · refine lv_aload_n C.1 C.2.1 d_S_countFree_10 rfl (lv_at hl 0 rfl) ?_
      refine lv_iload_n C.1 C.2.1 d_S_countFree_11 rfl (lv_at hl 2 rfl) ?_
      refine sv_ci C I (c_S_isFree l D cA h _ bw cw ts tb st ro mr la fu dn wr i (by omega)) lk_S149 rfl rfl ⟨by decide, by decide⟩ ⟨Nat.zero_le _, Nat.zero_le _⟩ rfl hl.1 (rest := []) rfl (Nat.le_of_ble_eq_true rfl) d_S_countFree_12 (fun r u' H locs w12 I => ?_)
      obtain ⟨rfl, rfl⟩ := w12
      refine n_ifeq (b := cFree ts st i) (tgt := 21) C.1 C.2.1 d_S_countFree_15 (by decide) (fun q15 => ?_) (fun q15 => ?_)
      · refine lv_iinc (v := nI (i + 1)) (lv' := [(2, .int (nI (i + 1))), (0, .ref (h 0)), (1, .int (nI (cnt (cFree ts st) i)))]) C.1 C.2.1 d_S_countFree_21 hl (k := 2) rfl (by rw [show nI (i + 1) = nI i + nI 1 from (nI_add _ _).symm]; rfl) (by decide) rfl (fun ls hl => ?_)
        refine lv_goto (tgt := 4) C.1 C.2.1 d_S_countFree_24 (by decide) ?_
        exact ih (i + 1) (cnt (cFree ts st) i) (by omega) (by omega) (by first | exact (cnt_y q15).symm | exact (cnt_s q15).symm) _ _ I ls (lv_sub hl [1, 2, 0] rfl)
      · refine lv_iinc (v := nI (cnt (cFree ts st) i + 1)) (lv' := [(1, .int (nI (cnt (cFree ts st) i + 1))), (0, .ref (h 0)), (2, .int (nI i))]) C.1 C.2.1 d_S_countFree_18 hl (k := 1) rfl (by rw [show nI (cnt (cFree ts st) i + 1) = nI (cnt (cFree ts st) i) + nI 1 from (nI_add _ _).symm]; rfl) (by decide) rfl (fun ls hl => ?_)
        refine lv_iinc (v := nI (i + 1)) (lv' := [(2, .int (nI (i + 1))), (1, .int (nI (cnt (cFree ts st) i + 1))), (0, .ref (h 0))]) C.1 C.2.1 d_S_countFree_21 hl (k := 2) rfl (by rw [show nI (i + 1) = nI i + nI 1 from (nI_add _ _).symm]; rfl) (by decide) rfl (fun ls hl => ?_)
        refine lv_goto (tgt := 4) C.1 C.2.1 d_S_countFree_24 (by decide) ?_
        exact ih (i + 1) (cnt (cFree ts st) i + 1) (by omega) (by omega) (by first | exact (cnt_y q15).symm | exact (cnt_s q15).symm) _ _ I ls (lv_sub hl [2, 1, 0] rfl)
set_option maxHeartbeats 4000000 in
set_option maxRecDepth 100000 in
/-- R_S.countFree -/
theorem c_S_countFree (l : Launch) (D : va_G) (cA : Nat → ClassId) (h : Nat → Nat) (sz : Nat) (bw : (Nat → Int32)) (cw : (Nat → Int32)) (ts : (Nat → Int32)) (tb : (Nat → Int32)) (st : (Nat → Int32)) (ro : Nat) (mr : Nat) (la : Nat) (fu : Option Nat) (dn : Bool) (wr : Nat)  : svMi l D cA h (bw, cw, ts, tb, st, ro, mr, la, fu, dn, wr) sz y_S_countFree (.code y_S_countFree b_S_countFree 3 (some .int)) (rmL 1) [] (fun r u' => r = nI (cNF ts st) ∧ u' = (bw, cw, ts, tb, st, ro, mr, la, fu, dn, wr)) := by
  refine sv_mi (by decide) rfl (Nat.le_of_ble_eq_true rfl) ?_
  intro p e s m args below meth c C hr hsz I ls hl
  generalize svA cA h (bw, cw, ts, tb, st, ro, mr, la, fu, dn, wr) sz = A at I ⊢
  have hl : lv_has ls 3 [(0, .ref (h 0))] := hl
  refine lv_iconst (v := nI 0) C.1 C.2.1 d_S_countFree_0 (by decide) ?_
  refine lv_istore_n (lv' := [(1, .int (nI 0)), (0, .ref (h 0))]) C.1 C.2.1 d_S_countFree_1 rfl hl (by decide) rfl (fun ls hl => ?_)
  refine lv_iconst (v := nI 0) C.1 C.2.1 d_S_countFree_2 (by decide) ?_
  refine lv_istore_n (lv' := [(2, .int (nI 0)), (1, .int (nI 0)), (0, .ref (h 0))]) C.1 C.2.1 d_S_countFree_3 rfl hl (by decide) rfl (fun ls hl => ?_)
  exact lp_S_countFree_4 C hr   _ 0 0 (Nat.lt_succ_self _) (by omega) rfl _ _ I ls (lv_sub hl [2, 1, 0] rfl)
set_option maxHeartbeats 4000000 in
set_option maxRecDepth 100000 in
theorem lp_S_lowestFree_2 {p : Program} {l : Launch} {e : Env} {s : State} {m : MethodId} {args : Array Value} {below : List Frame} {meth : Method} {c : Code} {D : va_G} {cA : Nat → ClassId} {A : Nat → Prop} {h : Nat → Nat} {bw : (Nat → Int32)} {cw : (Nat → Int32)} {ts : (Nat → Int32)} {tb : (Nat → Int32)} {st : (Nat → Int32)} {ro : Nat} {mr : Nat} {la : Nat} {fu : Option Nat} {dn : Bool} {wr : Nat} (C : gC p s m args meth c b_S_lowestFree 2 R_S) (hr : meth.sig.returnType = (some .int))    : ∀ (fuel : Nat) (i : Nat), 9 - i < fuel → i ≤ 9 → cLF ts st = fst (cFree ts st) (9 - i) i → ∀ (H : Heap) (locs : List Loc), svI D cA A s h (bw, cw, ts, tb, st, ro, mr, la, fu, dn, wr) H locs → ∀ (ls : Array Slot), lv_has ls 2 [(0, .ref (h 0)), (1, .int (nI i))] → W p l e (rmL 1) s m args below meth c H locs 0 0 (MQ below (va_Qi (fun r u' => r = oI (cLF ts st) ∧ u' = (bw, cw, ts, tb, st, ro, mr, la, fu, dn, wr)) (svAt D cA A h) A) args s 0 0 A) (F0 m 2 ls []) := by
  intro fuel
  induction fuel with
  | zero =>
    intro _ hfuel
    exact absurd hfuel (Nat.not_lt_zero _)
  | succ fuel ih =>
    intro i hfuel hi hf H locs I ls hl
    refine lv_iload_n C.1 C.2.1 d_S_lowestFree_2 rfl (lv_at hl 1 rfl) ?_
    refine lv_bipush (v := nI 9) C.1 C.2.1 d_S_lowestFree_3 (by decide) ?_
    refine n_icmp_ge C.1 C.2.1 (a := i) (b := 9) (tgt := 24) (by omega) (by omega) d_S_lowestFree_5 (by decide) (fun q5 => ?_) (fun q5 => ?_)
    · refine lv_iconst (v := oI none) C.1 C.2.1 d_S_lowestFree_24 (by decide) ?_
      exact sv_ri (v := oI none) C hr I ⟨show oI none = _ from congrArg oI (by rw [hf, show 9 - i = 0 by omega]; rfl), rfl⟩ d_S_lowestFree_25
    · refine lv_aload_n C.1 C.2.1 d_S_lowestFree_8 rfl (lv_at hl 0 rfl) ?_
      refine lv_iload_n C.1 C.2.1 d_S_lowestFree_9 rfl (lv_at hl 1 rfl) ?_
      refine sv_ci C I (c_S_isFree l D cA h _ bw cw ts tb st ro mr la fu dn wr i (by omega)) lk_S149 rfl rfl ⟨by decide, by decide⟩ ⟨Nat.zero_le _, Nat.zero_le _⟩ rfl hl.1 (rest := []) rfl (Nat.le_of_ble_eq_true rfl) d_S_lowestFree_10 (fun r u' H locs w10 I => ?_)
      obtain ⟨rfl, rfl⟩ := w10
      refine n_ifeq (b := cFree ts st i) (tgt := 18) C.1 C.2.1 d_S_lowestFree_13 (by decide) (fun q13 => ?_) (fun q13 => ?_)
      · refine lv_iinc (v := nI (i + 1)) (lv' := [(1, .int (nI (i + 1))), (0, .ref (h 0))]) C.1 C.2.1 d_S_lowestFree_18 hl (k := 1) rfl (by rw [show nI (i + 1) = nI i + nI 1 from (nI_add _ _).symm]; rfl) (by decide) rfl (fun ls hl => ?_)
        refine lv_goto (tgt := 2) C.1 C.2.1 d_S_lowestFree_21 (by decide) ?_
        exact ih (i + 1) (by omega) (by omega) (by rw [hf, show 9 - i = (9 - (i + 1)) + 1 by omega]; exact fst_s q13) _ _ I ls (lv_sub hl [1, 0] rfl)
      · refine lv_iload_n C.1 C.2.1 d_S_lowestFree_16 rfl (lv_at hl 1 rfl) ?_
        exact sv_ri (v := nI i) C hr I ⟨show oI (some i) = _ from congrArg oI (by rw [hf, show 9 - i = (8 - i) + 1 by omega]; exact (fst_y q13).symm), rfl⟩ d_S_lowestFree_17
set_option maxHeartbeats 4000000 in
set_option maxRecDepth 100000 in
/-- R_S.lowestFree -/
theorem c_S_lowestFree (l : Launch) (D : va_G) (cA : Nat → ClassId) (h : Nat → Nat) (sz : Nat) (bw : (Nat → Int32)) (cw : (Nat → Int32)) (ts : (Nat → Int32)) (tb : (Nat → Int32)) (st : (Nat → Int32)) (ro : Nat) (mr : Nat) (la : Nat) (fu : Option Nat) (dn : Bool) (wr : Nat)  : svMi l D cA h (bw, cw, ts, tb, st, ro, mr, la, fu, dn, wr) sz y_S_lowestFree (.code y_S_lowestFree b_S_lowestFree 2 (some .int)) (rmL 1) [] (fun r u' => r = oI (cLF ts st) ∧ u' = (bw, cw, ts, tb, st, ro, mr, la, fu, dn, wr)) := by
  refine sv_mi (by decide) rfl (Nat.le_of_ble_eq_true rfl) ?_
  intro p e s m args below meth c C hr hsz I ls hl
  generalize svA cA h (bw, cw, ts, tb, st, ro, mr, la, fu, dn, wr) sz = A at I ⊢
  have hl : lv_has ls 2 [(0, .ref (h 0))] := hl
  refine lv_iconst (v := nI 0) C.1 C.2.1 d_S_lowestFree_0 (by decide) ?_
  refine lv_istore_n (lv' := [(1, .int (nI 0)), (0, .ref (h 0))]) C.1 C.2.1 d_S_lowestFree_1 rfl hl (by decide) rfl (fun ls hl => ?_)
  exact lp_S_lowestFree_2 C hr   _ 0 (Nat.lt_succ_self _) (by omega) rfl _ _ I ls (lv_sub hl [1, 0] rfl)
set_option maxHeartbeats 4000000 in
set_option maxRecDepth 100000 in
theorem lp_S_findCopy_12 {p : Program} {l : Launch} {e : Env} {s : State} {m : MethodId} {args : Array Value} {below : List Frame} {meth : Method} {c : Code} {D : va_G} {cA : Nat → ClassId} {A : Nat → Prop} {h : Nat → Nat} {bw : (Nat → Int32)} {cw : (Nat → Int32)} {ts : (Nat → Int32)} {tb : (Nat → Int32)} {st : (Nat → Int32)} {ro : Nat} {mr : Nat} {la : Nat} {fu : Option Nat} {dn : Bool} {wr : Nat} (C : gC p s m args meth c b_S_findCopy 4 R_S) (hr : meth.sig.returnType = (some .int)) (s0 b0 : Nat) (hs0 : s0 < 3) (hb0 : b0 < 6)   : ∀ (fuel : Nat) (i : Nat), 9 - i < fuel → i ≤ 9 → cFind ts tb st s0 b0 = fst (cTag ts tb st s0 b0) (9 - i) i → ∀ (H : Heap) (locs : List Loc), svI D cA A s h (bw, cw, ts, tb, st, ro, mr, la, fu, dn, wr) H locs → ∀ (ls : Array Slot), lv_has ls 4 [(0, .ref (h 0)), (1, .int (nI s0)), (2, .int (nI b0)), (3, .int (nI i))] → W p l e (rmL 1) s m args below meth c H locs 0 0 (MQ below (va_Qi (fun r u' => r = oI (cFind ts tb st s0 b0) ∧ u' = (bw, cw, ts, tb, st, ro, mr, la, fu, dn, wr)) (svAt D cA A h) A) args s 0 0 A) (F0 m 12 ls []) := by
  intro fuel
  induction fuel with
  | zero =>
    intro _ hfuel
    exact absurd hfuel (Nat.not_lt_zero _)
  | succ fuel ih =>
    intro i hfuel hi hf H locs I ls hl
    refine lv_iload_n C.1 C.2.1 d_S_findCopy_12 rfl (lv_at hl 3 rfl) ?_
    refine lv_bipush (v := nI 9) C.1 C.2.1 d_S_findCopy_13 (by decide) ?_
    refine n_icmp_ge C.1 C.2.1 (a := i) (b := 9) (tgt := 51) (by omega) (by omega) d_S_findCopy_15 (by decide) (fun q15 => ?_) (fun q15 => ?_)
    · refine lv_iconst (v := oI none) C.1 C.2.1 d_S_findCopy_51 (by decide) ?_
      exact sv_ri (v := oI none) C hr I ⟨show oI none = _ from congrArg oI (by rw [hf, show 9 - i = 0 by omega]; rfl), rfl⟩ d_S_findCopy_52
    · refine lv_aload_n C.1 C.2.1 d_S_findCopy_18 rfl (lv_at hl 0 rfl) ?_
      refine sv_g2 C I d_S_findCopy_19 ?_
      refine lv_iload_n C.1 C.2.1 d_S_findCopy_22 rfl (lv_at hl 3 rfl) ?_
      refine sv_l3 C I (k := i) (by omega) d_S_findCopy_23 ?_
      refine lv_aload_n C.1 C.2.1 d_S_findCopy_24 rfl (lv_at hl 0 rfl) ?_
      refine sv_g4 C I d_S_findCopy_25 ?_
      refine lv_iload_n C.1 C.2.1 d_S_findCopy_28 rfl (lv_at hl 1 rfl) ?_
      refine sv_l5 C I (k := s0) (by omega) d_S_findCopy_29 ?_
      refine lv_icmp_ne (x := (ts i)) (y := (st s0)) (tgt := 45) C.1 C.2.1 d_S_findCopy_30 (by decide) (fun q30 => ?_) (fun q30 => ?_)
      · refine lv_iinc (v := nI (i + 1)) (lv' := [(3, .int (nI (i + 1))), (0, .ref (h 0)), (1, .int (nI s0)), (2, .int (nI b0))]) C.1 C.2.1 d_S_findCopy_45 hl (k := 3) rfl (by rw [show nI (i + 1) = nI i + nI 1 from (nI_add _ _).symm]; rfl) (by decide) rfl (fun ls hl => ?_)
        refine lv_goto (tgt := 12) C.1 C.2.1 d_S_findCopy_48 (by decide) ?_
        exact ih (i + 1) (by omega) (by omega) (by rw [hf, show 9 - i = (9 - (i + 1)) + 1 by omega]; exact fst_s (by first | (simp [cTag, q40]; done) | (simp [cTag, q30]; done))) _ _ I ls (lv_sub hl [1, 2, 3, 0] rfl)
      · refine lv_aload_n C.1 C.2.1 d_S_findCopy_33 rfl (lv_at hl 0 rfl) ?_
        refine sv_g3 C I d_S_findCopy_34 ?_
        refine lv_iload_n C.1 C.2.1 d_S_findCopy_37 rfl (lv_at hl 3 rfl) ?_
        refine sv_l4 C I (k := i) (by omega) d_S_findCopy_38 ?_
        refine lv_iload_n C.1 C.2.1 d_S_findCopy_39 rfl (lv_at hl 2 rfl) ?_
        refine lv_icmp_ne (x := (tb i)) (y := nI b0) (tgt := 45) C.1 C.2.1 d_S_findCopy_40 (by decide) (fun q40 => ?_) (fun q40 => ?_)
        · refine lv_iinc (v := nI (i + 1)) (lv' := [(3, .int (nI (i + 1))), (0, .ref (h 0)), (1, .int (nI s0)), (2, .int (nI b0))]) C.1 C.2.1 d_S_findCopy_45 hl (k := 3) rfl (by rw [show nI (i + 1) = nI i + nI 1 from (nI_add _ _).symm]; rfl) (by decide) rfl (fun ls hl => ?_)
          refine lv_goto (tgt := 12) C.1 C.2.1 d_S_findCopy_48 (by decide) ?_
          exact ih (i + 1) (by omega) (by omega) (by rw [hf, show 9 - i = (9 - (i + 1)) + 1 by omega]; exact fst_s (by first | (simp [cTag, q40]; done) | (simp [cTag, q30]; done))) _ _ I ls (lv_sub hl [1, 2, 3, 0] rfl)
        · refine lv_iload_n C.1 C.2.1 d_S_findCopy_43 rfl (lv_at hl 3 rfl) ?_
          exact sv_ri (v := nI i) C hr I ⟨show oI (some i) = _ from congrArg oI (by rw [hf, show 9 - i = (8 - i) + 1 by omega]; exact (fst_y (by simp [cTag, q30, q40])).symm), rfl⟩ d_S_findCopy_44
set_option maxHeartbeats 4000000 in
set_option maxRecDepth 100000 in
/-- R_S.findCopy -/
theorem c_S_findCopy (l : Launch) (D : va_G) (cA : Nat → ClassId) (h : Nat → Nat) (sz : Nat) (bw : (Nat → Int32)) (cw : (Nat → Int32)) (ts : (Nat → Int32)) (tb : (Nat → Int32)) (st : (Nat → Int32)) (ro : Nat) (mr : Nat) (la : Nat) (fu : Option Nat) (dn : Bool) (wr : Nat) (s0 b0 : Nat) (hs0 : s0 < 3) (hb0 : b0 < 6) : svMi l D cA h (bw, cw, ts, tb, st, ro, mr, la, fu, dn, wr) sz y_S_findCopy (.code y_S_findCopy b_S_findCopy 4 (some .int)) (rmL 1) [.int (nI s0), .int (nI b0)] (fun r u' => r = oI (cFind ts tb st s0 b0) ∧ u' = (bw, cw, ts, tb, st, ro, mr, la, fu, dn, wr)) := by
  refine sv_mi (by decide) rfl (Nat.le_of_ble_eq_true rfl) ?_
  intro p e s m args below meth c C hr hsz I ls hl
  generalize svA cA h (bw, cw, ts, tb, st, ro, mr, la, fu, dn, wr) sz = A at I ⊢
  have hl : lv_has ls 4 [(0, .ref (h 0)), (1, .int (nI s0)), (2, .int (nI b0))] := hl
  refine lv_aload_n C.1 C.2.1 d_S_findCopy_0 rfl (lv_at hl 0 rfl) ?_
  refine lv_iload_n C.1 C.2.1 d_S_findCopy_1 rfl (lv_at hl 1 rfl) ?_
  refine sv_ci C I (c_S_hasSnapshot l D cA h _ bw cw ts tb st ro mr la fu dn wr (nI s0)) lk_S119 rfl rfl ⟨by decide, by decide⟩ ⟨Nat.zero_le _, Nat.zero_le _⟩ rfl hl.1 (rest := []) rfl (Nat.le_of_ble_eq_true rfl) d_S_findCopy_2 (fun r u' H locs w2 I => ?_)
  obtain ⟨rfl, rfl⟩ := w2
  refine n_ifne (b := cHas st (nI s0)) (tgt := 10) C.1 C.2.1 d_S_findCopy_5 (by decide) (fun q5 => ?_) (fun q5 => ?_)
  · have h0 : st s0 ≠ 0 := by rw [cHas_n _ hs0] at q5; simpa using q5
    refine lv_iconst (v := nI 0) C.1 C.2.1 d_S_findCopy_10 (by decide) ?_
    refine lv_istore_n (lv' := [(3, .int (nI 0)), (0, .ref (h 0)), (1, .int (nI s0)), (2, .int (nI b0))]) C.1 C.2.1 d_S_findCopy_11 rfl hl (by decide) rfl (fun ls hl => ?_)
    exact lp_S_findCopy_12 C hr s0 b0 hs0 hb0  _ 0 (Nat.lt_succ_self _) (by omega) (by unfold cFind; rw [if_neg h0]) _ _ I ls (lv_sub hl [1, 2, 3, 0] rfl)
  · refine lv_iconst (v := oI none) C.1 C.2.1 d_S_findCopy_8 (by decide) ?_
    exact sv_ri (v := oI none) C hr I ⟨show oI none = _ from congrArg oI (by rw [cHas_n _ hs0] at q5; unfold cFind; rw [if_pos (by simpa using q5)]), rfl⟩ d_S_findCopy_9
set_option maxHeartbeats 4000000 in
set_option maxRecDepth 100000 in
/-- R_S.snapshotWord -/
theorem c_S_snapshotWord (l : Launch) (D : va_G) (cA : Nat → ClassId) (h : Nat → Nat) (sz : Nat) (bw : (Nat → Int32)) (cw : (Nat → Int32)) (ts : (Nat → Int32)) (tb : (Nat → Int32)) (st : (Nat → Int32)) (ro : Nat) (mr : Nat) (la : Nat) (fu : Option Nat) (dn : Bool) (wr : Nat) (s0 b0 : Nat) (hs0 : s0 < 3) (hb0 : b0 < 6) (i0 : Nat) (hi0 : i0 < 4) : svMi l D cA h (bw, cw, ts, tb, st, ro, mr, la, fu, dn, wr) sz y_S_snapshotWord (.code y_S_snapshotWord b_S_snapshotWord 5 (some .int)) (rmL 2) [.int (nI s0), .int (nI b0), .int (nI i0)] (fun r u' => r = cWord bw cw ts tb st s0 b0 i0 ∧ u' = (bw, cw, ts, tb, st, ro, mr, la, fu, dn, wr)) := by
  refine sv_mi (by decide) rfl (Nat.le_of_ble_eq_true rfl) ?_
  intro p e s m args below meth c C hr hsz I ls hl
  generalize svA cA h (bw, cw, ts, tb, st, ro, mr, la, fu, dn, wr) sz = A at I ⊢
  have hl : lv_has ls 5 [(0, .ref (h 0)), (1, .int (nI s0)), (2, .int (nI b0)), (3, .int (nI i0))] := hl
  refine lv_aload_n C.1 C.2.1 d_S_snapshotWord_0 rfl (lv_at hl 0 rfl) ?_
  refine lv_iload_n C.1 C.2.1 d_S_snapshotWord_1 rfl (lv_at hl 1 rfl) ?_
  refine lv_iload_n C.1 C.2.1 d_S_snapshotWord_2 rfl (lv_at hl 2 rfl) ?_
  refine sv_ci C I (c_S_findCopy l D cA h _ bw cw ts tb st ro mr la fu dn wr s0 b0 (by omega) (by omega)) lk_S75 rfl rfl ⟨by decide, by decide⟩ ⟨Nat.zero_le _, Nat.zero_le _⟩ rfl hl.1 (rest := []) rfl (Nat.le_of_ble_eq_true rfl) d_S_snapshotWord_3 (fun r u' H locs w3 I => ?_)
  obtain ⟨rfl, rfl⟩ := w3
  rcases hc : cFind ts tb st s0 b0 with _ | c
  · refine lv_istore (lv' := [(4, .int (oI none)), (0, .ref (h 0)), (1, .int (nI s0)), (2, .int (nI b0)), (3, .int (nI i0))]) C.1 C.2.1 d_S_snapshotWord_6 hl (by decide) rfl (fun ls hl => ?_)
    refine lv_iload C.1 C.2.1 d_S_snapshotWord_8 (lv_at hl 0 rfl) ?_
    refine lv_iconst (v := oI none) C.1 C.2.1 d_S_snapshotWord_10 (by decide) ?_
    refine lv_icmp_ne (x := oI none) (y := oI none) (tgt := 27) C.1 C.2.1 d_S_snapshotWord_11 (by decide) (fun q11 => absurd rfl q11) (fun q11 => ?_)
    refine lv_aload_n C.1 C.2.1 d_S_snapshotWord_14 rfl (lv_at hl 1 rfl) ?_
    refine sv_g0 C I d_S_snapshotWord_15 ?_
    refine lv_iload_n C.1 C.2.1 d_S_snapshotWord_18 rfl (lv_at hl 3 rfl) ?_
    refine lv_iconst (v := nI 4) C.1 C.2.1 d_S_snapshotWord_19 (by decide) ?_
    refine n_imul C.1 C.2.1 (a := b0) (b := 4) d_S_snapshotWord_20 ?_
    refine lv_iload_n C.1 C.2.1 d_S_snapshotWord_21 rfl (lv_at hl 4 rfl) ?_
    refine n_iadd C.1 C.2.1 (a := b0 * 4) (b := i0) d_S_snapshotWord_22 ?_
    refine sv_l1 C I (k := (b0 * 4) + i0) (by omega) d_S_snapshotWord_23 ?_
    refine lv_goto (tgt := 38) C.1 C.2.1 d_S_snapshotWord_24 (by decide) ?_
    exact sv_ri (v := (bw ((b0 * 4) + i0))) C hr I ⟨(by unfold cWord; rw [hc]), rfl⟩ d_S_snapshotWord_38
  · have hcl := cFind_lt hc
    refine lv_istore (lv' := [(4, .int (nI c)), (0, .ref (h 0)), (1, .int (nI s0)), (2, .int (nI b0)), (3, .int (nI i0))]) C.1 C.2.1 d_S_snapshotWord_6 hl (by decide) rfl (fun ls hl => ?_)
    refine lv_iload C.1 C.2.1 d_S_snapshotWord_8 (lv_at hl 0 rfl) ?_
    refine lv_iconst (v := oI none) C.1 C.2.1 d_S_snapshotWord_10 (by decide) ?_
    refine lv_icmp_ne (x := nI c) (y := oI none) (tgt := 27) C.1 C.2.1 d_S_snapshotWord_11 (by decide) (fun q11 => ?_) (fun q11 => absurd ((oI_n (o := none) (by omega) (fun _ e => by cases e)).mp q11) (fun z => by cases z))
    refine lv_aload_n C.1 C.2.1 d_S_snapshotWord_27 rfl (lv_at hl 1 rfl) ?_
    refine sv_g1 C I d_S_snapshotWord_28 ?_
    refine lv_iload C.1 C.2.1 d_S_snapshotWord_31 (lv_at hl 0 rfl) ?_
    refine lv_iconst (v := nI 4) C.1 C.2.1 d_S_snapshotWord_33 (by decide) ?_
    refine n_imul C.1 C.2.1 (a := c) (b := 4) d_S_snapshotWord_34 ?_
    refine lv_iload_n C.1 C.2.1 d_S_snapshotWord_35 rfl (lv_at hl 4 rfl) ?_
    refine n_iadd C.1 C.2.1 (a := c * 4) (b := i0) d_S_snapshotWord_36 ?_
    refine sv_l2 C I (k := (c * 4) + i0) (by omega) d_S_snapshotWord_37 ?_
    exact sv_ri (v := (cw ((c * 4) + i0))) C hr I ⟨(by unfold cWord; rw [hc]), rfl⟩ d_S_snapshotWord_38
set_option maxHeartbeats 4000000 in
set_option maxRecDepth 100000 in
theorem lp_S_differs_2 {p : Program} {l : Launch} {e : Env} {s : State} {m : MethodId} {args : Array Value} {below : List Frame} {meth : Method} {c : Code} {D : va_G} {cA : Nat → ClassId} {A : Nat → Prop} {h : Nat → Nat} {bw : (Nat → Int32)} {cw : (Nat → Int32)} {ts : (Nat → Int32)} {tb : (Nat → Int32)} {st : (Nat → Int32)} {ro : Nat} {mr : Nat} {la : Nat} {fu : Option Nat} {dn : Bool} {wr : Nat} (C : gC p s m args meth c b_S_differs 4 R_S) (hr : meth.sig.returnType = (some .boolean)) (s0 b0 : Nat) (hs0 : s0 < 3) (hb0 : b0 < 6)   : ∀ (fuel : Nat) (i : Nat), 4 - i < fuel → i ≤ 4 → (∀ j, j < i → cWord bw cw ts tb st s0 b0 j = bw (b0 * 4 + j)) → ∀ (H : Heap) (locs : List Loc), svI D cA A s h (bw, cw, ts, tb, st, ro, mr, la, fu, dn, wr) H locs → ∀ (ls : Array Slot), lv_has ls 4 [(0, .ref (h 0)), (1, .int (nI s0)), (2, .int (nI b0)), (3, .int (nI i))] → W p l e (rmL 3) s m args below meth c H locs 0 0 (MQ below (va_Qi (fun r u' => r = bI (cDiff bw cw ts tb st s0 b0) ∧ u' = (bw, cw, ts, tb, st, ro, mr, la, fu, dn, wr)) (svAt D cA A h) A) args s 0 0 A) (F0 m 2 ls []) := by
  intro fuel
  induction fuel with
  | zero =>
    intro _ hfuel
    exact absurd hfuel (Nat.not_lt_zero _)
  | succ fuel ih =>
    intro i hfuel hi hj H locs I ls hl
    refine lv_iload_n C.1 C.2.1 d_S_differs_2 rfl (lv_at hl 3 rfl) ?_
    refine lv_iconst (v := nI 4) C.1 C.2.1 d_S_differs_3 (by decide) ?_
    refine n_icmp_ge C.1 C.2.1 (a := i) (b := 4) (tgt := 35) (by omega) (by omega) d_S_differs_4 (by decide) (fun q4 => ?_) (fun q4 => ?_)
    · refine lv_iconst (v := nI 0) C.1 C.2.1 d_S_differs_35 (by decide) ?_
      exact sv_rz (b := false) C hr I ⟨congrArg bI (by symm; unfold cDiff; rw [Bool.not_eq_false']; exact List.all_eq_true.mpr (fun j hj2 => by have := List.mem_range.mp hj2; simpa using hj j (by omega))), rfl⟩ d_S_differs_36
    · refine lv_aload_n C.1 C.2.1 d_S_differs_7 rfl (lv_at hl 0 rfl) ?_
      refine lv_iload_n C.1 C.2.1 d_S_differs_8 rfl (lv_at hl 1 rfl) ?_
      refine lv_iload_n C.1 C.2.1 d_S_differs_9 rfl (lv_at hl 2 rfl) ?_
      refine lv_iload_n C.1 C.2.1 d_S_differs_10 rfl (lv_at hl 3 rfl) ?_
      refine sv_ci C I (c_S_snapshotWord l D cA h _ bw cw ts tb st ro mr la fu dn wr s0 b0 (by omega) (by omega) i (by omega)) lk_S71 rfl rfl ⟨by decide, by decide⟩ ⟨Nat.zero_le _, Nat.zero_le _⟩ rfl hl.1 (rest := []) rfl (Nat.le_of_ble_eq_true rfl) d_S_differs_11 (fun r u' H locs w11 I => ?_)
      obtain ⟨rfl, rfl⟩ := w11
      refine lv_aload_n C.1 C.2.1 d_S_differs_14 rfl (lv_at hl 0 rfl) ?_
      refine sv_g0 C I d_S_differs_15 ?_
      refine lv_iload_n C.1 C.2.1 d_S_differs_18 rfl (lv_at hl 2 rfl) ?_
      refine lv_iconst (v := nI 4) C.1 C.2.1 d_S_differs_19 (by decide) ?_
      refine n_imul C.1 C.2.1 (a := b0) (b := 4) d_S_differs_20 ?_
      refine lv_iload_n C.1 C.2.1 d_S_differs_21 rfl (lv_at hl 3 rfl) ?_
      refine n_iadd C.1 C.2.1 (a := b0 * 4) (b := i) d_S_differs_22 ?_
      refine sv_l1 C I (k := (b0 * 4) + i) (by omega) d_S_differs_23 ?_
      refine lv_icmp_eq (x := (cWord bw cw ts tb st s0 b0 i)) (y := (bw ((b0 * 4) + i))) (tgt := 29) C.1 C.2.1 d_S_differs_24 (by decide) (fun q24 => ?_) (fun q24 => ?_)
      · refine lv_iinc (v := nI (i + 1)) (lv' := [(3, .int (nI (i + 1))), (0, .ref (h 0)), (1, .int (nI s0)), (2, .int (nI b0))]) C.1 C.2.1 d_S_differs_29 hl (k := 3) rfl (by rw [show nI (i + 1) = nI i + nI 1 from (nI_add _ _).symm]; rfl) (by decide) rfl (fun ls hl => ?_)
        refine lv_goto (tgt := 2) C.1 C.2.1 d_S_differs_32 (by decide) ?_
        exact ih (i + 1) (by omega) (by omega) (fun j hj2 => by rcases Nat.lt_or_ge j i with g | g; exact hj j g; rw [show j = i by omega]; exact q24) _ _ I ls (lv_sub hl [1, 2, 3, 0] rfl)
      · refine lv_iconst (v := nI 1) C.1 C.2.1 d_S_differs_27 (by decide) ?_
        exact sv_rz (b := true) C hr I ⟨congrArg bI (by symm; unfold cDiff; rw [Bool.not_eq_true']; cases hx : ((List.range 4).all fun i => decide (cWord bw cw ts tb st s0 b0 i = bw (b0 * 4 + i))); rfl; exact absurd (by simpa using List.all_eq_true.mp hx i (List.mem_range.mpr (by omega))) q24), rfl⟩ d_S_differs_28
set_option maxHeartbeats 4000000 in
set_option maxRecDepth 100000 in
/-- R_S.differs -/
theorem c_S_differs (l : Launch) (D : va_G) (cA : Nat → ClassId) (h : Nat → Nat) (sz : Nat) (bw : (Nat → Int32)) (cw : (Nat → Int32)) (ts : (Nat → Int32)) (tb : (Nat → Int32)) (st : (Nat → Int32)) (ro : Nat) (mr : Nat) (la : Nat) (fu : Option Nat) (dn : Bool) (wr : Nat) (s0 b0 : Nat) (hs0 : s0 < 3) (hb0 : b0 < 6) : svMi l D cA h (bw, cw, ts, tb, st, ro, mr, la, fu, dn, wr) sz y_S_differs (.code y_S_differs b_S_differs 4 (some .boolean)) (rmL 3) [.int (nI s0), .int (nI b0)] (fun r u' => r = bI (cDiff bw cw ts tb st s0 b0) ∧ u' = (bw, cw, ts, tb, st, ro, mr, la, fu, dn, wr)) := by
  refine sv_mi (by decide) rfl (Nat.le_of_ble_eq_true rfl) ?_
  intro p e s m args below meth c C hr hsz I ls hl
  generalize svA cA h (bw, cw, ts, tb, st, ro, mr, la, fu, dn, wr) sz = A at I ⊢
  have hl : lv_has ls 4 [(0, .ref (h 0)), (1, .int (nI s0)), (2, .int (nI b0))] := hl
  refine lv_iconst (v := nI 0) C.1 C.2.1 d_S_differs_0 (by decide) ?_
  refine lv_istore_n (lv' := [(3, .int (nI 0)), (0, .ref (h 0)), (1, .int (nI s0)), (2, .int (nI b0))]) C.1 C.2.1 d_S_differs_1 rfl hl (by decide) rfl (fun ls hl => ?_)
  exact lp_S_differs_2 C hr s0 b0 hs0 hb0  _ 0 (Nat.lt_succ_self _) (by omega) (fun j hj => absurd hj (Nat.not_lt_zero j)) _ _ I ls (lv_sub hl [1, 2, 3, 0] rfl)
set_option maxHeartbeats 4000000 in
set_option maxRecDepth 100000 in
/-- R_S.shares -/
theorem c_S_shares (l : Launch) (D : va_G) (cA : Nat → ClassId) (h : Nat → Nat) (sz : Nat) (bw : (Nat → Int32)) (cw : (Nat → Int32)) (ts : (Nat → Int32)) (tb : (Nat → Int32)) (st : (Nat → Int32)) (ro : Nat) (mr : Nat) (la : Nat) (fu : Option Nat) (dn : Bool) (wr : Nat) (s0 b0 : Nat) (hs0 : s0 < 3) (hb0 : b0 < 6) : svMi l D cA h (bw, cw, ts, tb, st, ro, mr, la, fu, dn, wr) sz y_S_shares (.code y_S_shares b_S_shares 3 (some .boolean)) (rmL 2) [.int (nI s0), .int (nI b0)] (fun r u' => r = bI (cShares ts tb st b0 s0) ∧ u' = (bw, cw, ts, tb, st, ro, mr, la, fu, dn, wr)) := by
  refine sv_mi (by decide) rfl (Nat.le_of_ble_eq_true rfl) ?_
  intro p e s m args below meth c C hr hsz I ls hl
  generalize svA cA h (bw, cw, ts, tb, st, ro, mr, la, fu, dn, wr) sz = A at I ⊢
  have hl : lv_has ls 3 [(0, .ref (h 0)), (1, .int (nI s0)), (2, .int (nI b0))] := hl
  refine lv_aload_n C.1 C.2.1 d_S_shares_0 rfl (lv_at hl 0 rfl) ?_
  refine lv_iload_n C.1 C.2.1 d_S_shares_1 rfl (lv_at hl 1 rfl) ?_
  refine sv_ci C I (c_S_hasSnapshot l D cA h _ bw cw ts tb st ro mr la fu dn wr (nI s0)) lk_S119 rfl rfl ⟨by decide, by decide⟩ ⟨Nat.zero_le _, Nat.zero_le _⟩ rfl hl.1 (rest := []) rfl (Nat.le_of_ble_eq_true rfl) d_S_shares_2 (fun r u' H locs w2 I => ?_)
  obtain ⟨rfl, rfl⟩ := w2
  refine n_ifeq (b := cHas st (nI s0)) (tgt := 22) C.1 C.2.1 d_S_shares_5 (by decide) (fun q5 => ?_) (fun q5 => ?_)
  · refine lv_iconst (v := nI 0) C.1 C.2.1 d_S_shares_22 (by decide) ?_
    exact sv_rz (b := false) C hr I ⟨congrArg bI (by rw [cHas_n _ hs0] at q5; unfold cShares; first | (rw [(oI_none (fun j e => Nat.lt_trans (cFind_lt e) (by decide))).mp q15, q5]; rfl) | (rw [q5]; rfl) | (rw [q5]; cases hx : cFind ts tb st s0 b0 with | none => rw [hx] at q15; exact absurd rfl q15 | some c => rfl)), rfl⟩ d_S_shares_23
  · refine lv_aload_n C.1 C.2.1 d_S_shares_8 rfl (lv_at hl 0 rfl) ?_
    refine lv_iload_n C.1 C.2.1 d_S_shares_9 rfl (lv_at hl 1 rfl) ?_
    refine lv_iload_n C.1 C.2.1 d_S_shares_10 rfl (lv_at hl 2 rfl) ?_
    refine sv_ci C I (c_S_findCopy l D cA h _ bw cw ts tb st ro mr la fu dn wr s0 b0 (by omega) (by omega)) lk_S75 rfl rfl ⟨by decide, by decide⟩ ⟨Nat.zero_le _, Nat.zero_le _⟩ rfl hl.1 (rest := []) rfl (Nat.le_of_ble_eq_true rfl) d_S_shares_11 (fun r u' H locs w11 I => ?_)
    obtain ⟨rfl, rfl⟩ := w11
    refine lv_iconst (v := oI none) C.1 C.2.1 d_S_shares_14 (by decide) ?_
    refine lv_icmp_ne (x := oI (cFind ts tb st s0 b0)) (y := oI none) (tgt := 22) C.1 C.2.1 d_S_shares_15 (by decide) (fun q15 => ?_) (fun q15 => ?_)
    · refine lv_iconst (v := nI 0) C.1 C.2.1 d_S_shares_22 (by decide) ?_
      exact sv_rz (b := false) C hr I ⟨congrArg bI (by rw [cHas_n _ hs0] at q5; unfold cShares; first | (rw [(oI_none (fun j e => Nat.lt_trans (cFind_lt e) (by decide))).mp q15, q5]; rfl) | (rw [q5]; rfl) | (rw [q5]; cases hx : cFind ts tb st s0 b0 with | none => rw [hx] at q15; exact absurd rfl q15 | some c => rfl)), rfl⟩ d_S_shares_23
    · refine lv_iconst (v := nI 1) C.1 C.2.1 d_S_shares_18 (by decide) ?_
      refine lv_goto (tgt := 23) C.1 C.2.1 d_S_shares_19 (by decide) ?_
      exact sv_rz (b := true) C hr I ⟨congrArg bI (by rw [cHas_n _ hs0] at q5; unfold cShares; first | (rw [(oI_none (fun j e => Nat.lt_trans (cFind_lt e) (by decide))).mp q15, q5]; rfl) | (rw [q5]; rfl) | (rw [q5]; cases hx : cFind ts tb st s0 b0 with | none => rw [hx] at q15; exact absurd rfl q15 | some c => rfl)), rfl⟩ d_S_shares_23
set_option maxHeartbeats 4000000 in
set_option maxRecDepth 100000 in
theorem lp_S_countSharers_4 {p : Program} {l : Launch} {e : Env} {s : State} {m : MethodId} {args : Array Value} {below : List Frame} {meth : Method} {c : Code} {D : va_G} {cA : Nat → ClassId} {A : Nat → Prop} {h : Nat → Nat} {bw : (Nat → Int32)} {cw : (Nat → Int32)} {ts : (Nat → Int32)} {tb : (Nat → Int32)} {st : (Nat → Int32)} {ro : Nat} {mr : Nat} {la : Nat} {fu : Option Nat} {dn : Bool} {wr : Nat} (C : gC p s m args meth c b_S_countSharers 4 R_S) (hr : meth.sig.returnType = (some .int)) (b0 : Nat) (hb0 : b0 < 6)   : ∀ (fuel : Nat) (i : Nat) (a : Nat), 3 - i < fuel → i ≤ 3 → a = cnt (cShares ts tb st b0) i → ∀ (H : Heap) (locs : List Loc), svI D cA A s h (bw, cw, ts, tb, st, ro, mr, la, fu, dn, wr) H locs → ∀ (ls : Array Slot), lv_has ls 4 [(0, .ref (h 0)), (1, .int (nI b0)), (2, .int (nI a)), (3, .int (nI i))] → W p l e (rmL 3) s m args below meth c H locs 0 0 (MQ below (va_Qi (fun r u' => r = nI (cNS ts tb st b0) ∧ u' = (bw, cw, ts, tb, st, ro, mr, la, fu, dn, wr)) (svAt D cA A h) A) args s 0 0 A) (F0 m 4 ls []) := by
  intro fuel
  induction fuel with
  | zero =>
    intro _ _ hfuel
    exact absurd hfuel (Nat.not_lt_zero _)
  | succ fuel ih =>
    intro i a hfuel hi ha H locs I ls hl
    subst ha
    have hc9 := cnt_le (cShares ts tb st b0) i
    refine lv_iload_n C.1 C.2.1 d_S_countSharers_4 rfl (lv_at hl 3 rfl) ?_
    refine lv_iconst (v := nI 3) C.1 C.2.1 d_S_countSharers_5 (by decide) ?_
    refine n_icmp_ge C.1 C.2.1 (a := i) (b := 3) (tgt := 27) (by omega) (by omega) d_S_countSharers_6 (by decide) (fun q6 => ?_) (fun q6 => ?_)
    · refine lv_iload_n C.1 C.2.1 d_S_countSharers_27 rfl (lv_at hl 2 rfl) ?_
      exact sv_ri (v := nI (cnt (cShares ts tb st b0) i)) C hr I ⟨congrArg nI (by rw [show i = 3 by omega]; rfl), rfl⟩ d_S_countSharers_28
    · refine lv_aload_n C.1 C.2.1 d_S_countSharers_9 rfl (lv_at hl 0 rfl) ?_
      refine lv_iload_n C.1 C.2.1 d_S_countSharers_10 rfl (lv_at hl 3 rfl) ?_
      refine lv_iload_n C.1 C.2.1 d_S_countSharers_11 rfl (lv_at hl 1 rfl) ?_
      refine sv_ci C I (c_S_shares l D cA h _ bw cw ts tb st ro mr la fu dn wr i b0 (by omega) (by omega)) lk_S152 rfl rfl ⟨by decide, by decide⟩ ⟨Nat.zero_le _, Nat.zero_le _⟩ rfl hl.1 (rest := []) rfl (Nat.le_of_ble_eq_true rfl) d_S_countSharers_12 (fun r u' H locs w12 I => ?_)
      obtain ⟨rfl, rfl⟩ := w12
      refine n_ifeq (b := cShares ts tb st b0 i) (tgt := 21) C.1 C.2.1 d_S_countSharers_15 (by decide) (fun q15 => ?_) (fun q15 => ?_)
      · refine lv_iinc (v := nI (i + 1)) (lv' := [(3, .int (nI (i + 1))), (0, .ref (h 0)), (1, .int (nI b0)), (2, .int (nI (cnt (cShares ts tb st b0) i)))]) C.1 C.2.1 d_S_countSharers_21 hl (k := 3) rfl (by rw [show nI (i + 1) = nI i + nI 1 from (nI_add _ _).symm]; rfl) (by decide) rfl (fun ls hl => ?_)
        refine lv_goto (tgt := 4) C.1 C.2.1 d_S_countSharers_24 (by decide) ?_
        exact ih (i + 1) (cnt (cShares ts tb st b0) i) (by omega) (by omega) (by first | exact (cnt_y q15).symm | exact (cnt_s q15).symm) _ _ I ls (lv_sub hl [1, 2, 3, 0] rfl)
      · refine lv_iinc (v := nI (cnt (cShares ts tb st b0) i + 1)) (lv' := [(2, .int (nI (cnt (cShares ts tb st b0) i + 1))), (0, .ref (h 0)), (1, .int (nI b0)), (3, .int (nI i))]) C.1 C.2.1 d_S_countSharers_18 hl (k := 2) rfl (by rw [show nI (cnt (cShares ts tb st b0) i + 1) = nI (cnt (cShares ts tb st b0) i) + nI 1 from (nI_add _ _).symm]; rfl) (by decide) rfl (fun ls hl => ?_)
        refine lv_iinc (v := nI (i + 1)) (lv' := [(3, .int (nI (i + 1))), (2, .int (nI (cnt (cShares ts tb st b0) i + 1))), (0, .ref (h 0)), (1, .int (nI b0))]) C.1 C.2.1 d_S_countSharers_21 hl (k := 3) rfl (by rw [show nI (i + 1) = nI i + nI 1 from (nI_add _ _).symm]; rfl) (by decide) rfl (fun ls hl => ?_)
        refine lv_goto (tgt := 4) C.1 C.2.1 d_S_countSharers_24 (by decide) ?_
        exact ih (i + 1) (cnt (cShares ts tb st b0) i + 1) (by omega) (by omega) (by first | exact (cnt_y q15).symm | exact (cnt_s q15).symm) _ _ I ls (lv_sub hl [2, 3, 1, 0] rfl)
set_option maxHeartbeats 4000000 in
set_option maxRecDepth 100000 in
/-- R_S.countSharers -/
theorem c_S_countSharers (l : Launch) (D : va_G) (cA : Nat → ClassId) (h : Nat → Nat) (sz : Nat) (bw : (Nat → Int32)) (cw : (Nat → Int32)) (ts : (Nat → Int32)) (tb : (Nat → Int32)) (st : (Nat → Int32)) (ro : Nat) (mr : Nat) (la : Nat) (fu : Option Nat) (dn : Bool) (wr : Nat) (b0 : Nat) (hb0 : b0 < 6) : svMi l D cA h (bw, cw, ts, tb, st, ro, mr, la, fu, dn, wr) sz y_S_countSharers (.code y_S_countSharers b_S_countSharers 4 (some .int)) (rmL 3) [.int (nI b0)] (fun r u' => r = nI (cNS ts tb st b0) ∧ u' = (bw, cw, ts, tb, st, ro, mr, la, fu, dn, wr)) := by
  refine sv_mi (by decide) rfl (Nat.le_of_ble_eq_true rfl) ?_
  intro p e s m args below meth c C hr hsz I ls hl
  generalize svA cA h (bw, cw, ts, tb, st, ro, mr, la, fu, dn, wr) sz = A at I ⊢
  have hl : lv_has ls 4 [(0, .ref (h 0)), (1, .int (nI b0))] := hl
  refine lv_iconst (v := nI 0) C.1 C.2.1 d_S_countSharers_0 (by decide) ?_
  refine lv_istore_n (lv' := [(2, .int (nI 0)), (0, .ref (h 0)), (1, .int (nI b0))]) C.1 C.2.1 d_S_countSharers_1 rfl hl (by decide) rfl (fun ls hl => ?_)
  refine lv_iconst (v := nI 0) C.1 C.2.1 d_S_countSharers_2 (by decide) ?_
  refine lv_istore_n (lv' := [(3, .int (nI 0)), (2, .int (nI 0)), (0, .ref (h 0)), (1, .int (nI b0))]) C.1 C.2.1 d_S_countSharers_3 rfl hl (by decide) rfl (fun ls hl => ?_)
  exact lp_S_countSharers_4 C hr b0 hb0  _ 0 0 (Nat.lt_succ_self _) (by omega) rfl _ _ I ls (lv_sub hl [2, 3, 1, 0] rfl)
set_option maxHeartbeats 4000000 in
set_option maxRecDepth 100000 in
theorem lp_S_countCopiesToMerge_4 {p : Program} {l : Launch} {e : Env} {s : State} {m : MethodId} {args : Array Value} {below : List Frame} {meth : Method} {c : Code} {D : va_G} {cA : Nat → ClassId} {A : Nat → Prop} {h : Nat → Nat} {bw : (Nat → Int32)} {cw : (Nat → Int32)} {ts : (Nat → Int32)} {tb : (Nat → Int32)} {st : (Nat → Int32)} {ro : Nat} {mr : Nat} {la : Nat} {fu : Option Nat} {dn : Bool} {wr : Nat} (C : gC p s m args meth c b_S_countCopiesToMerge 4 R_S) (hr : meth.sig.returnType = (some .int)) (s0 : Nat) (hs0 : s0 < 3)   : ∀ (fuel : Nat) (i : Nat) (a : Nat), 6 - i < fuel → i ≤ 6 → a = sm (fun b => if (cFind ts tb st s0 b).isSome then cNS ts tb st b else 0) i → ∀ (H : Heap) (locs : List Loc), svI D cA A s h (bw, cw, ts, tb, st, ro, mr, la, fu, dn, wr) H locs → ∀ (ls : Array Slot), lv_has ls 4 [(0, .ref (h 0)), (1, .int (nI s0)), (2, .int (nI a)), (3, .int (nI i))] → W p l e (rmL 4) s m args below meth c H locs 0 0 (MQ below (va_Qi (fun r u' => r = nI (cNM ts tb st s0) ∧ u' = (bw, cw, ts, tb, st, ro, mr, la, fu, dn, wr)) (svAt D cA A h) A) args s 0 0 A) (F0 m 4 ls []) := by
  intro fuel
  induction fuel with
  | zero =>
    intro _ _ hfuel
    exact absurd hfuel (Nat.not_lt_zero _)
  | succ fuel ih =>
    intro i a hfuel hi ha H locs I ls hl
    subst ha
    refine lv_iload_n C.1 C.2.1 d_S_countCopiesToMerge_4 rfl (lv_at hl 3 rfl) ?_
    refine lv_bipush (v := nI 6) C.1 C.2.1 d_S_countCopiesToMerge_5 (by decide) ?_
    refine n_icmp_ge C.1 C.2.1 (a := i) (b := 6) (tgt := 34) (by omega) (by omega) d_S_countCopiesToMerge_7 (by decide) (fun q7 => ?_) (fun q7 => ?_)
    · refine lv_iload_n C.1 C.2.1 d_S_countCopiesToMerge_34 rfl (lv_at hl 2 rfl) ?_
      exact sv_ri (v := nI (sm (fun b => if (cFind ts tb st s0 b).isSome then cNS ts tb st b else 0) i)) C hr I ⟨congrArg nI (by rw [show i = 6 by omega]; rfl), rfl⟩ d_S_countCopiesToMerge_35
    · refine lv_aload_n C.1 C.2.1 d_S_countCopiesToMerge_10 rfl (lv_at hl 0 rfl) ?_
      refine lv_iload_n C.1 C.2.1 d_S_countCopiesToMerge_11 rfl (lv_at hl 1 rfl) ?_
      refine lv_iload_n C.1 C.2.1 d_S_countCopiesToMerge_12 rfl (lv_at hl 3 rfl) ?_
      refine sv_ci C I (c_S_findCopy l D cA h _ bw cw ts tb st ro mr la fu dn wr s0 i (by omega) (by omega)) lk_S75 rfl rfl ⟨by decide, by decide⟩ ⟨Nat.zero_le _, Nat.zero_le _⟩ rfl hl.1 (rest := []) rfl (Nat.le_of_ble_eq_true rfl) d_S_countCopiesToMerge_13 (fun r u' H locs w13 I => ?_)
      obtain ⟨rfl, rfl⟩ := w13
      refine lv_iconst (v := oI none) C.1 C.2.1 d_S_countCopiesToMerge_16 (by decide) ?_
      refine lv_icmp_eq (x := oI (cFind ts tb st s0 i)) (y := oI none) (tgt := 28) C.1 C.2.1 d_S_countCopiesToMerge_17 (by decide) (fun q17 => ?_) (fun q17 => ?_)
      · refine lv_iinc (v := nI (i + 1)) (lv' := [(3, .int (nI (i + 1))), (0, .ref (h 0)), (1, .int (nI s0)), (2, .int (nI (sm (fun b => if (cFind ts tb st s0 b).isSome then cNS ts tb st b else 0) i)))]) C.1 C.2.1 d_S_countCopiesToMerge_28 hl (k := 3) rfl (by rw [show nI (i + 1) = nI i + nI 1 from (nI_add _ _).symm]; rfl) (by decide) rfl (fun ls hl => ?_)
        refine lv_goto (tgt := 4) C.1 C.2.1 d_S_countCopiesToMerge_31 (by decide) ?_
        exact ih (i + 1) (sm (fun b => if (cFind ts tb st s0 b).isSome then cNS ts tb st b else 0) i) (by omega) (by omega) (by show _ = sm (fun b => if (cFind ts tb st s0 b).isSome then cNS ts tb st b else 0) i + (fun b => if (cFind ts tb st s0 b).isSome then cNS ts tb st b else 0) i; first | (have z := (oI_none (fun j e => Nat.lt_trans (cFind_lt e) (by decide))).mp q17; simp [z]) | (cases hx : cFind ts tb st s0 i with | none => rw [hx] at q17; exact absurd rfl q17 | some c => simp [hx])) _ _ I ls (lv_sub hl [1, 2, 3, 0] rfl)
      · refine lv_iload_n C.1 C.2.1 d_S_countCopiesToMerge_20 rfl (lv_at hl 2 rfl) ?_
        refine lv_aload_n C.1 C.2.1 d_S_countCopiesToMerge_21 rfl (lv_at hl 0 rfl) ?_
        refine lv_iload_n C.1 C.2.1 d_S_countCopiesToMerge_22 rfl (lv_at hl 3 rfl) ?_
        refine sv_ci C I (c_S_countSharers l D cA h _ bw cw ts tb st ro mr la fu dn wr i (by omega)) lk_S35 rfl rfl ⟨by decide, by decide⟩ ⟨Nat.zero_le _, Nat.zero_le _⟩ rfl hl.1 (rest := [.int (nI (sm (fun b => if (cFind ts tb st s0 b).isSome then cNS ts tb st b else 0) i))]) rfl (Nat.le_of_ble_eq_true rfl) d_S_countCopiesToMerge_23 (fun r u' H locs w23 I => ?_)
        obtain ⟨rfl, rfl⟩ := w23
        refine n_iadd C.1 C.2.1 (a := sm (fun b => if (cFind ts tb st s0 b).isSome then cNS ts tb st b else 0) i) (b := cNS ts tb st i) d_S_countCopiesToMerge_26 ?_
        refine lv_istore_n (lv' := [(2, .int (nI ((sm (fun b => if (cFind ts tb st s0 b).isSome then cNS ts tb st b else 0) i) + (cNS ts tb st i)))), (0, .ref (h 0)), (1, .int (nI s0)), (3, .int (nI i))]) C.1 C.2.1 d_S_countCopiesToMerge_27 rfl hl (by decide) rfl (fun ls hl => ?_)
        refine lv_iinc (v := nI (i + 1)) (lv' := [(3, .int (nI (i + 1))), (2, .int (nI ((sm (fun b => if (cFind ts tb st s0 b).isSome then cNS ts tb st b else 0) i) + (cNS ts tb st i)))), (0, .ref (h 0)), (1, .int (nI s0))]) C.1 C.2.1 d_S_countCopiesToMerge_28 hl (k := 3) rfl (by rw [show nI (i + 1) = nI i + nI 1 from (nI_add _ _).symm]; rfl) (by decide) rfl (fun ls hl => ?_)
        refine lv_goto (tgt := 4) C.1 C.2.1 d_S_countCopiesToMerge_31 (by decide) ?_
        exact ih (i + 1) ((sm (fun b => if (cFind ts tb st s0 b).isSome then cNS ts tb st b else 0) i) + (cNS ts tb st i)) (by omega) (by omega) (by show _ = sm (fun b => if (cFind ts tb st s0 b).isSome then cNS ts tb st b else 0) i + (fun b => if (cFind ts tb st s0 b).isSome then cNS ts tb st b else 0) i; first | (have z := (oI_none (fun j e => Nat.lt_trans (cFind_lt e) (by decide))).mp q17; simp [z]) | (cases hx : cFind ts tb st s0 i with | none => rw [hx] at q17; exact absurd rfl q17 | some c => simp [hx])) _ _ I ls (lv_sub hl [2, 3, 1, 0] rfl)
set_option maxHeartbeats 4000000 in
set_option maxRecDepth 100000 in
/-- R_S.countCopiesToMerge -/
theorem c_S_countCopiesToMerge (l : Launch) (D : va_G) (cA : Nat → ClassId) (h : Nat → Nat) (sz : Nat) (bw : (Nat → Int32)) (cw : (Nat → Int32)) (ts : (Nat → Int32)) (tb : (Nat → Int32)) (st : (Nat → Int32)) (ro : Nat) (mr : Nat) (la : Nat) (fu : Option Nat) (dn : Bool) (wr : Nat) (s0 : Nat) (hs0 : s0 < 3) : svMi l D cA h (bw, cw, ts, tb, st, ro, mr, la, fu, dn, wr) sz y_S_countCopiesToMerge (.code y_S_countCopiesToMerge b_S_countCopiesToMerge 4 (some .int)) (rmL 4) [.int (nI s0)] (fun r u' => r = nI (cNM ts tb st s0) ∧ u' = (bw, cw, ts, tb, st, ro, mr, la, fu, dn, wr)) := by
  refine sv_mi (by decide) rfl (Nat.le_of_ble_eq_true rfl) ?_
  intro p e s m args below meth c C hr hsz I ls hl
  generalize svA cA h (bw, cw, ts, tb, st, ro, mr, la, fu, dn, wr) sz = A at I ⊢
  have hl : lv_has ls 4 [(0, .ref (h 0)), (1, .int (nI s0))] := hl
  refine lv_iconst (v := nI 0) C.1 C.2.1 d_S_countCopiesToMerge_0 (by decide) ?_
  refine lv_istore_n (lv' := [(2, .int (nI 0)), (0, .ref (h 0)), (1, .int (nI s0))]) C.1 C.2.1 d_S_countCopiesToMerge_1 rfl hl (by decide) rfl (fun ls hl => ?_)
  refine lv_iconst (v := nI 0) C.1 C.2.1 d_S_countCopiesToMerge_2 (by decide) ?_
  refine lv_istore_n (lv' := [(3, .int (nI 0)), (2, .int (nI 0)), (0, .ref (h 0)), (1, .int (nI s0))]) C.1 C.2.1 d_S_countCopiesToMerge_3 rfl hl (by decide) rfl (fun ls hl => ?_)
  exact lp_S_countCopiesToMerge_4 C hr s0 hs0  _ 0 0 (Nat.lt_succ_self _) (by omega) rfl _ _ I ls (lv_sub hl [2, 3, 1, 0] rfl)
