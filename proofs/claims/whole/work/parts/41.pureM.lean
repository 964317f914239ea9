set_option maxHeartbeats 4000000 in
set_option maxRecDepth 100000 in
/-- R_M.thrown -/
theorem c_M_thrown (l : Launch) (D : va_G) (cA : Nat → ClassId) (h : Nat → Nat) (sz : Nat) (co : Nat) (dn : Bool) (fu : Option Nat) (ct : Nat) (vo : (Nat → Int32)) (wo : (Nat → Int32)) (th : (Nat → Bool)) (ow : (Nat → Nat)) (ba : Nat) (mr : Nat)  : smMi l D cA h (co, dn, fu, ct, vo, wo, th, ow, ba, mr) sz y_M_thrown (.code y_M_thrown b_M_thrown 1 (some .int)) (rmL 0) [] (fun r u' => r = nI (co) ∧ u' = (co, dn, fu, ct, vo, wo, th, ow, ba, mr)) := by
  refine sm_mi (by decide) rfl (Nat.le_of_ble_eq_true rfl) ?_
  intro p e s m args below meth c C hr hsz I ls hl
  generalize smA cA h (co, dn, fu, ct, vo, wo, th, ow, ba, mr) sz = A at I ⊢
  have hl : lv_has ls 1 [(0, .ref (h 0))] := hl
  refine lv_aload_n C.1 C.2.1 d_M_thrown_0 rfl (lv_at hl 0 rfl) ?_
  refine sm_g0 C I d_M_thrown_1 ?_
  exact sm_ri (v := nI co) C hr I ⟨congrArg nI rfl, rfl⟩ d_M_thrown_4
set_option maxHeartbeats 4000000 in
set_option maxRecDepth 100000 in
/-- R_M.isSnapshot -/
theorem c_M_isSnapshot (l : Launch) (D : va_G) (cA : Nat → ClassId) (h : Nat → Nat) (sz : Nat) (co : Nat) (dn : Bool) (fu : Option Nat) (ct : Nat) (vo : (Nat → Int32)) (wo : (Nat → Int32)) (th : (Nat → Bool)) (ow : (Nat → Nat)) (ba : Nat) (mr : Nat) (x : Int32) : smMi l D cA h (co, dn, fu, ct, vo, wo, th, ow, ba, mr) sz y_M_isSnapshot (.code y_M_isSnapshot b_M_isSnapshot 2 (some .boolean)) (rmL 1) [.int x] (fun r u' => r = bI ((mHasS th x).isSome) ∧ u' = (co, dn, fu, ct, vo, wo, th, ow, ba, mr)) := by
  refine sm_mi (by decide) rfl (Nat.le_of_ble_eq_true rfl) ?_
  intro p e s m args below meth c C hr hsz I ls hl
  generalize smA cA h (co, dn, fu, ct, vo, wo, th, ow, ba, mr) sz = A at I ⊢
  have hl : lv_has ls 2 [(0, .ref (h 0)), (1, .int x)] := hl
  refine lv_iload_n C.1 C.2.1 d_M_isSnapshot_0 rfl (lv_at hl 1 rfl) ?_
  refine lv_iconst (v := nI 0) C.1 C.2.1 d_M_isSnapshot_1 (by decide) ?_
  refine lv_iconst (v := nI 2) C.1 C.2.1 d_M_isSnapshot_2 (by decide) ?_
  refine sm_cs C I (c_M_within l _ x 2 (by decide)) lk_M40 rfl rfl ⟨by decide, by decide⟩ ⟨Nat.zero_le _, Nat.zero_le _⟩ rfl hl.1 (rest := []) rfl (Nat.le_of_ble_eq_true rfl) d_M_isSnapshot_3 (fun r H locs w3 I => ?_)
  subst w3
  refine n_ifeq (b := (ixI x 3).isSome) (tgt := 22) C.1 C.2.1 d_M_isSnapshot_6 (by decide) (fun q6 => ?_) (fun q6 => ?_)
  · refine lv_iconst (v := nI 0) C.1 C.2.1 d_M_isSnapshot_22 (by decide) ?_
    exact sm_rz (b := false) C hr I ⟨congrArg bI (by first | (unfold mHasS; rw [none_of q6]; rfl) | (rw [mHasS_n hk, q15]; rfl)), rfl⟩ d_M_isSnapshot_23
  · obtain ⟨k, hk, rfl⟩ := isS_in q6
    refine lv_aload_n C.1 C.2.1 d_M_isSnapshot_9 rfl (lv_at hl 0 rfl) ?_
    refine sm_g6 C I d_M_isSnapshot_10 ?_
    refine lv_iload_n C.1 C.2.1 d_M_isSnapshot_13 rfl (lv_at hl 1 rfl) ?_
    refine sm_l3 C I (k := k) (by omega) d_M_isSnapshot_14 ?_
    refine n_ifeq (b := (th k)) (tgt := 22) C.1 C.2.1 d_M_isSnapshot_15 (by decide) (fun q15 => ?_) (fun q15 => ?_)
    · refine lv_iconst (v := nI 0) C.1 C.2.1 d_M_isSnapshot_22 (by decide) ?_
      exact sm_rz (b := false) C hr I ⟨congrArg bI (by first | (unfold mHasS; rw [none_of q6]; rfl) | (rw [mHasS_n hk, q15]; rfl)), rfl⟩ d_M_isSnapshot_23
    · refine lv_iconst (v := nI 1) C.1 C.2.1 d_M_isSnapshot_18 (by decide) ?_
      refine lv_goto (tgt := 23) C.1 C.2.1 d_M_isSnapshot_19 (by decide) ?_
      exact sm_rz (b := true) C hr I ⟨congrArg bI (by first | (unfold mHasS; rw [none_of q6]; rfl) | (rw [mHasS_n hk, q15]; rfl)), rfl⟩ d_M_isSnapshot_23
set_option maxHeartbeats 4000000 in
set_option maxRecDepth 100000 in
theorem lp_M_usedCopies_4 {p : Program} {l : Launch} {e : Env} {s : State} {m : MethodId} {args : Array Value} {below : List Frame} {meth : Method} {c : Code} {D : va_G} {cA : Nat → ClassId} {A : Nat → Prop} {h : Nat → Nat} {co : Nat} {dn : Bool} {fu : Option Nat} {ct : Nat} {vo : (Nat → Int32)} {wo : (Nat → Int32)} {th : (Nat → Bool)} {ow : (Nat → Nat)} {ba : Nat} {mr : Nat} (C : gC p s m args meth c b_M_usedCopies 3 R_M) (hr : meth.sig.returnType = (some .int)) (how : oB th ow)   : ∀ (fuel : Nat) (i : Nat) (a : Nat), 18 - i < fuel → i ≤ 18 → a = cnt (fun k => th (k / 6) && decide (0 < ow k)) i → ∀ (H : Heap) (locs : List Loc), smI D cA A s h (co, dn, fu, ct, vo, wo, th, ow, ba, mr) H locs → ∀ (ls : Array Slot), lv_has ls 3 [(0, .ref (h 0)), (1, .int (nI a)), (2, .int (nI i))] → W p l e (rmL 0) s m args below meth c H locs 0 0 (MQ below (va_Qi (fun r u' => r = nI (mUsed th ow) ∧ u' = (co, dn, fu, ct, vo, wo, th, ow, ba, mr)) (smAt D cA A h) A) args s 0 0 A) (F0 m 4 ls []) := by
  intro fuel
  induction fuel with
  | zero =>
    intro _ _ hfuel
    exact absurd hfuel (Nat.not_lt_zero _)
  | succ fuel ih =>
    intro i a hfuel hi ha H locs I ls hl
    subst ha
    refine lv_iload_n C.1 C.2.1 d_M_usedCopies_4 rfl (lv_at hl 2 rfl) ?_
    refine lv_bipush (v := nI 18) C.1 C.2.1 d_M_usedCopies_5 (by decide) ?_
    refine n_icmp_ge C.1 C.2.1 (a := i) (b := 18) (tgt := 45) (by omega) (by omega) d_M_usedCopies_7 (by decide) (fun q7 => ?_) (fun q7 => ?_)
    · refine lv_iload_n C.1 C.2.1 d_M_usedCopies_45 rfl (lv_at hl 1 rfl) ?_
      exact sm_ri (v := nI (cnt (fun k => th (k / 6) && decide (0 < ow k)) i)) C hr I ⟨congrArg nI (by rw [show i = 18 by omega]; rfl), rfl⟩ d_M_usedCopies_46
    · refine lv_aload_n C.1 C.2.1 d_M_usedCopies_10 rfl (lv_at hl 0 rfl) ?_
      refine sm_g6 C I d_M_usedCopies_11 ?_
      refine lv_iload_n C.1 C.2.1 d_M_usedCopies_14 rfl (lv_at hl 2 rfl) ?_
      refine lv_bipush (v := nI 6) C.1 C.2.1 d_M_usedCopies_15 (by decide) ?_
      refine n_idiv C.1 C.2.1 (a := i) (b := 6) (by omega) (by omega) (by omega) d_M_usedCopies_17 ?_
      refine sm_l3 C I (k := i / 6) (by omega) d_M_usedCopies_18 ?_
      refine n_ifeq (b := (th (i / 6))) (tgt := 37) C.1 C.2.1 d_M_usedCopies_19 (by decide) (fun q19 => ?_) (fun q19 => ?_)
      · refine lv_iload_n C.1 C.2.1 d_M_usedCopies_37 rfl (lv_at hl 1 rfl) ?_
        refine lv_istore_n (lv' := [(1, .int (nI (cnt (fun k => th (k / 6) && decide (0 < ow k)) i))), (0, .ref (h 0)), (2, .int (nI i))]) C.1 C.2.1 d_M_usedCopies_38 rfl hl (by decide) rfl (fun ls hl => ?_)
        refine lv_iinc (v := nI (i + 1)) (lv' := [(2, .int (nI (i + 1))), (1, .int (nI (cnt (fun k => th (k / 6) && decide (0 < ow k)) i))), (0, .ref (h 0))]) C.1 C.2.1 d_M_usedCopies_39 hl (k := 2) rfl (by rw [show nI (i + 1) = nI i + nI 1 from (nI_add _ _).symm]; rfl) (by decide) rfl (fun ls hl => ?_)
        refine lv_goto (tgt := 4) C.1 C.2.1 d_M_usedCopies_42 (by decide) ?_
        exact ih (i + 1) (cnt (fun k => th (k / 6) && decide (0 < ow k)) i) (by omega) (by omega) (by first | exact (cnt_y (by show (th (i / 6) && decide (0 < ow i)) = true; rw [q19, decide_eq_true (show 0 < ow i by omega)]; rfl)).symm | exact (cnt_s (by show (th (i / 6) && decide (0 < ow i)) = false; rw [decide_eq_false (show ¬ 0 < ow i by omega)]; exact Bool.and_false _)).symm | exact (cnt_s (by show (th (i / 6) && decide (0 < ow i)) = false; rw [q19]; rfl)).symm) _ _ I ls (lv_sub hl [2, 1, 0] rfl)
      · refine lv_aload_n C.1 C.2.1 d_M_usedCopies_22 rfl (lv_at hl 0 rfl) ?_
        refine sm_g7 C I d_M_usedCopies_23 ?_
        refine lv_iload_n C.1 C.2.1 d_M_usedCopies_26 rfl (lv_at hl 2 rfl) ?_
        refine sm_l4 C I (k := i) (by omega) d_M_usedCopies_27 ?_
        have hw := how i (by omega) q19
        refine n_ifz_le (a := (ow i)) (tgt := 37) C.1 C.2.1 (by omega) d_M_usedCopies_28 (by decide) (fun q28 => ?_) (fun q28 => ?_)
        · refine lv_iload_n C.1 C.2.1 d_M_usedCopies_37 rfl (lv_at hl 1 rfl) ?_
          refine lv_istore_n (lv' := [(1, .int (nI (cnt (fun k => th (k / 6) && decide (0 < ow k)) i))), (0, .ref (h 0)), (2, .int (nI i))]) C.1 C.2.1 d_M_usedCopies_38 rfl hl (by decide) rfl (fun ls hl => ?_)
          refine lv_iinc (v := nI (i + 1)) (lv' := [(2, .int (nI (i + 1))), (1, .int (nI (cnt (fun k => th (k / 6) && decide (0 < ow k)) i))), (0, .ref (h 0))]) C.1 C.2.1 d_M_usedCopies_39 hl (k := 2) rfl (by rw [show nI (i + 1) = nI i + nI 1 from (nI_add _ _).symm]; rfl) (by decide) rfl (fun ls hl => ?_)
          refine lv_goto (tgt := 4) C.1 C.2.1 d_M_usedCopies_42 (by decide) ?_
          exact ih (i + 1) (cnt (fun k => th (k / 6) && decide (0 < ow k)) i) (by omega) (by omega) (by first | exact (cnt_y (by show (th (i / 6) && decide (0 < ow i)) = true; rw [q19, decide_eq_true (show 0 < ow i by omega)]; rfl)).symm | exact (cnt_s (by show (th (i / 6) && decide (0 < ow i)) = false; rw [decide_eq_false (show ¬ 0 < ow i by omega)]; exact Bool.and_false _)).symm | exact (cnt_s (by show (th (i / 6) && decide (0 < ow i)) = false; rw [q19]; rfl)).symm) _ _ I ls (lv_sub hl [2, 1, 0] rfl)
        · refine lv_iload_n C.1 C.2.1 d_M_usedCopies_31 rfl (lv_at hl 1 rfl) ?_
          refine lv_iconst (v := nI 1) C.1 C.2.1 d_M_usedCopies_32 (by decide) ?_
          refine n_iadd C.1 C.2.1 (a := cnt (fun k => th (k / 6) && decide (0 < ow k)) i) (b := 1) d_M_usedCopies_33 ?_
          refine lv_goto (tgt := 38) C.1 C.2.1 d_M_usedCopies_34 (by decide) ?_
          refine lv_istore_n (lv' := [(1, .int (nI ((cnt (fun k => th (k / 6) && decide (0 < ow k)) i) + 1))), (0, .ref (h 0)), (2, .int (nI i))]) C.1 C.2.1 d_M_usedCopies_38 rfl hl (by decide) rfl (fun ls hl => ?_)
          refine lv_iinc (v := nI (i + 1)) (lv' := [(2, .int (nI (i + 1))), (1, .int (nI ((cnt (fun k => th (k / 6) && decide (0 < ow k)) i) + 1))), (0, .ref (h 0))]) C.1 C.2.1 d_M_usedCopies_39 hl (k := 2) rfl (by rw [show nI (i + 1) = nI i + nI 1 from (nI_add _ _).symm]; rfl) (by decide) rfl (fun ls hl => ?_)
          refine lv_goto (tgt := 4) C.1 C.2.1 d_M_usedCopies_42 (by decide) ?_
          exact ih (i + 1) ((cnt (fun k => th (k / 6) && decide (0 < ow k)) i) + 1) (by omega) (by omega) (by first | exact (cnt_y (by show (th (i / 6) && decide (0 < ow i)) = true; rw [q19, decide_eq_true (show 0 < ow i by omega)]; rfl)).symm | exact (cnt_s (by show (th (i / 6) && decide (0 < ow i)) = false; rw [decide_eq_false (show ¬ 0 < ow i by omega)]; exact Bool.and_false _)).symm | exact (cnt_s (by show (th (i / 6) && decide (0 < ow i)) = false; rw [q19]; rfl)).symm) _ _ I ls (lv_sub hl [2, 1, 0] rfl)
set_option maxHeartbeats 4000000 in
set_option maxRecDepth 100000 in
/-- R_M.usedCopies -/
theorem c_M_usedCopies (l : Launch) (D : va_G) (cA : Nat → ClassId) (h : Nat → Nat) (sz : Nat) (co : Nat) (dn : Bool) (fu : Option Nat) (ct : Nat) (vo : (Nat → Int32)) (wo : (Nat → Int32)) (th : (Nat → Bool)) (ow : (Nat → Nat)) (ba : Nat) (mr : Nat) (how : oB th ow) : smMi l D cA h (co, dn, fu, ct, vo, wo, th, ow, ba, mr) sz y_M_usedCopies (.code y_M_usedCopies b_M_usedCopies 3 (some .int)) (rmL 0) [] (fun r u' => r = nI (mUsed th ow) ∧ u' = (co, dn, fu, ct, vo, wo, th, ow, ba, mr)) := by
  refine sm_mi (by decide) rfl (Nat.le_of_ble_eq_true rfl) ?_
  intro p e s m args below meth c C hr hsz I ls hl
  generalize smA cA h (co, dn, fu, ct, vo, wo, th, ow, ba, mr) sz = A at I ⊢
  have hl : lv_has ls 3 [(0, .ref (h 0))] := hl
  refine lv_iconst (v := nI 0) C.1 C.2.1 d_M_usedCopies_0 (by decide) ?_
  refine lv_istore_n (lv' := [(1, .int (nI 0)), (0, .ref (h 0))]) C.1 C.2.1 d_M_usedCopies_1 rfl hl (by decide) rfl (fun ls hl => ?_)
  refine lv_iconst (v := nI 0) C.1 C.2.1 d_M_usedCopies_2 (by decide) ?_
  refine lv_istore_n (lv' := [(2, .int (nI 0)), (1, .int (nI 0)), (0, .ref (h 0))]) C.1 C.2.1 d_M_usedCopies_3 rfl hl (by decide) rfl (fun ls hl => ?_)
  exact lp_M_usedCopies_4 C hr how  _ 0 0 (Nat.lt_succ_self _) (by omega) rfl _ _ I ls (lv_sub hl [2, 1, 0] rfl)
set_option maxHeartbeats 4000000 in
set_option maxRecDepth 100000 in
theorem lp_M_lowest_12 {p : Program} {l : Launch} {e : Env} {s : State} {m : MethodId} {args : Array Value} {below : List Frame} {meth : Method} {c : Code} {D : va_G} {cA : Nat → ClassId} {A : Nat → Prop} {h : Nat → Nat} {co : Nat} {dn : Bool} {fu : Option Nat} {ct : Nat} {vo : (Nat → Int32)} {wo : (Nat → Int32)} {th : (Nat → Bool)} {ow : (Nat → Nat)} {ba : Nat} {mr : Nat} (C : gC p s m args meth c b_M_lowest 4 R_M) (hr : meth.sig.returnType = (some .int)) (how : oB th ow) (c1 : Nat) (hc1 : c1 ≤ 10) (kk : ∀ (tk : Bool), tk = mTkn th ow c1 → ∀ (H : Heap) (locs : List Loc), smI D cA A s h (co, dn, fu, ct, vo, wo, th, ow, ba, mr) H locs → ∀ (ls : Array Slot), lv_has ls 4 [(0, .ref (h 0)), (1, .int (nI c1)), (2, .int (bI tk))] → W p l e (rmL 0) s m args below meth c H locs 0 0 (MQ below (va_Qi (fun r u' => r = nI (mLow th ow) ∧ u' = (co, dn, fu, ct, vo, wo, th, ow, ba, mr)) (smAt D cA A h) A) args s 0 0 A) (F0 m 56 ls [])) : ∀ (fuel : Nat) (k : Nat) (tk : Bool), 18 - k < fuel → k ≤ 18 → tk = (List.range k).any (fun k => th (k / 6) && decide (ow k = c1)) → ∀ (H : Heap) (locs : List Loc), smI D cA A s h (co, dn, fu, ct, vo, wo, th, ow, ba, mr) H locs → ∀ (ls : Array Slot), lv_has ls 4 [(0, .ref (h 0)), (1, .int (nI c1)), (2, .int (bI tk)), (3, .int (nI k))] → W p l e (rmL 0) s m args below meth c H locs 0 0 (MQ below (va_Qi (fun r u' => r = nI (mLow th ow) ∧ u' = (co, dn, fu, ct, vo, wo, th, ow, ba, mr)) (smAt D cA A h) A) args s 0 0 A) (F0 m 12 ls []) := by
  intro fuel
  induction fuel with
  | zero =>
    intro _ _ hfuel
    exact absurd hfuel (Nat.not_lt_zero _)
  | succ fuel ih =>
    intro k tk hfuel hi ht H locs I ls hl
    refine lv_iload_n C.1 C.2.1 d_M_lowest_12 rfl (lv_at hl 3 rfl) ?_
    refine lv_bipush (v := nI 18) C.1 C.2.1 d_M_lowest_13 (by decide) ?_
    refine n_icmp_ge C.1 C.2.1 (a := k) (b := 18) (tgt := 56) (by omega) (by omega) d_M_lowest_15 (by decide) (fun q15 => ?_) (fun q15 => ?_)
    · exact kk tk (by rw [ht, show k = 18 by omega]; rfl) _ _ I ls (lv_sub hl [0, 1, 2] rfl)
    · refine lv_iload_n C.1 C.2.1 d_M_lowest_18 rfl (lv_at hl 2 rfl) ?_
      refine n_ifne (b := tk) (tgt := 44) C.1 C.2.1 d_M_lowest_19 (by decide) (fun q19 => ?_) (fun q19 => ?_)
      · refine lv_iconst (v := nI 1) C.1 C.2.1 d_M_lowest_44 (by decide) ?_
        refine lv_goto (tgt := 49) C.1 C.2.1 d_M_lowest_45 (by decide) ?_
        refine lv_istore_n (lv' := [(2, .int (nI 1)), (0, .ref (h 0)), (1, .int (nI c1)), (3, .int (nI k))]) C.1 C.2.1 d_M_lowest_49 rfl hl (by decide) rfl (fun ls hl => ?_)
        refine lv_iinc (v := nI (k + 1)) (lv' := [(3, .int (nI (k + 1))), (2, .int (nI 1)), (0, .ref (h 0)), (1, .int (nI c1))]) C.1 C.2.1 d_M_lowest_50 hl (k := 3) rfl (by rw [show nI (k + 1) = nI k + nI 1 from (nI_add _ _).symm]; rfl) (by decide) rfl (fun ls hl => ?_)
        refine lv_goto (tgt := 12) C.1 C.2.1 d_M_lowest_53 (by decide) ?_
        exact ih (k + 1) true (by omega) (by omega) (by first | exact any_t (Or.inl (ht.symm.trans q19)) | exact any_t (Or.inr (by show (th (k / 6) && decide (ow k = c1)) = true; rw [q31, decide_eq_true q41]; rfl)) | exact any_f (ht.symm.trans q19) (by show (th (k / 6) && decide (ow k = c1)) = false; first | (rw [decide_eq_false q41]; exact Bool.and_false _) | (rw [q31]; rfl))) _ _ I ls (lv_sub hl [2, 3, 1, 0] rfl)
      · refine lv_aload_n C.1 C.2.1 d_M_lowest_22 rfl (lv_at hl 0 rfl) ?_
        refine sm_g6 C I d_M_lowest_23 ?_
        refine lv_iload_n C.1 C.2.1 d_M_lowest_26 rfl (lv_at hl 3 rfl) ?_
        refine lv_bipush (v := nI 6) C.1 C.2.1 d_M_lowest_27 (by decide) ?_
        refine n_idiv C.1 C.2.1 (a := k) (b := 6) (by omega) (by omega) (by omega) d_M_lowest_29 ?_
        refine sm_l3 C I (k := k / 6) (by omega) d_M_lowest_30 ?_
        refine n_ifeq (b := (th (k / 6))) (tgt := 48) C.1 C.2.1 d_M_lowest_31 (by decide) (fun q31 => ?_) (fun q31 => ?_)
        · refine lv_iconst (v := nI 0) C.1 C.2.1 d_M_lowest_48 (by decide) ?_
          refine lv_istore_n (lv' := [(2, .int (nI 0)), (0, .ref (h 0)), (1, .int (nI c1)), (3, .int (nI k))]) C.1 C.2.1 d_M_lowest_49 rfl hl (by decide) rfl (fun ls hl => ?_)
          refine lv_iinc (v := nI (k + 1)) (lv' := [(3, .int (nI (k + 1))), (2, .int (nI 0)), (0, .ref (h 0)), (1, .int (nI c1))]) C.1 C.2.1 d_M_lowest_50 hl (k := 3) rfl (by rw [show nI (k + 1) = nI k + nI 1 from (nI_add _ _).symm]; rfl) (by decide) rfl (fun ls hl => ?_)
          refine lv_goto (tgt := 12) C.1 C.2.1 d_M_lowest_53 (by decide) ?_
          exact ih (k + 1) false (by omega) (by omega) (by first | exact any_t (Or.inl (ht.symm.trans q19)) | exact any_t (Or.inr (by show (th (k / 6) && decide (ow k = c1)) = true; rw [q31, decide_eq_true q41]; rfl)) | exact any_f (ht.symm.trans q19) (by show (th (k / 6) && decide (ow k = c1)) = false; first | (rw [decide_eq_false q41]; exact Bool.and_false _) | (rw [q31]; rfl))) _ _ I ls (lv_sub hl [2, 3, 1, 0] rfl)
        · refine lv_aload_n C.1 C.2.1 d_M_lowest_34 rfl (lv_at hl 0 rfl) ?_
          refine sm_g7 C I d_M_lowest_35 ?_
          refine lv_iload_n C.1 C.2.1 d_M_lowest_38 rfl (lv_at hl 3 rfl) ?_
          refine sm_l4 C I (k := k) (by omega) d_M_lowest_39 ?_
          have hw := how k (by omega) q31
          refine lv_iload_n C.1 C.2.1 d_M_lowest_40 rfl (lv_at hl 1 rfl) ?_
          refine n_icmp_ne C.1 C.2.1 (a := (ow k)) (b := c1) (tgt := 48) (by omega) (by omega) d_M_lowest_41 (by decide) (fun q41 => ?_) (fun q41 => ?_)
          · refine lv_iconst (v := nI 0) C.1 C.2.1 d_M_lowest_48 (by decide) ?_
            refine lv_istore_n (lv' := [(2, .int (nI 0)), (0, .ref (h 0)), (1, .int (nI c1)), (3, .int (nI k))]) C.1 C.2.1 d_M_lowest_49 rfl hl (by decide) rfl (fun ls hl => ?_)
            refine lv_iinc (v := nI (k + 1)) (lv' := [(3, .int (nI (k + 1))), (2, .int (nI 0)), (0, .ref (h 0)), (1, .int (nI c1))]) C.1 C.2.1 d_M_lowest_50 hl (k := 3) rfl (by rw [show nI (k + 1) = nI k + nI 1 from (nI_add _ _).symm]; rfl) (by decide) rfl (fun ls hl => ?_)
            refine lv_goto (tgt := 12) C.1 C.2.1 d_M_lowest_53 (by decide) ?_
            exact ih (k + 1) false (by omega) (by omega) (by first | exact any_t (Or.inl (ht.symm.trans q19)) | exact any_t (Or.inr (by show (th (k / 6) && decide (ow k = c1)) = true; rw [q31, decide_eq_true q41]; rfl)) | exact any_f (ht.symm.trans q19) (by show (th (k / 6) && decide (ow k = c1)) = false; first | (rw [decide_eq_false q41]; exact Bool.and_false _) | (rw [q31]; rfl))) _ _ I ls (lv_sub hl [2, 3, 1, 0] rfl)
          · refine lv_iconst (v := nI 1) C.1 C.2.1 d_M_lowest_44 (by decide) ?_
            refine lv_goto (tgt := 49) C.1 C.2.1 d_M_lowest_45 (by decide) ?_
            refine lv_istore_n (lv' := [(2, .int (nI 1)), (0, .ref (h 0)), (1, .int (nI c1)), (3, .int (nI k))]) C.1 C.2.1 d_M_lowest_49 rfl hl (by decide) rfl (fun ls hl => ?_)
            refine lv_iinc (v := nI (k + 1)) (lv' := [(3, .int (nI (k + 1))), (2, .int (nI 1)), (0, .ref (h 0)), (1, .int (nI c1))]) C.1 C.2.1 d_M_lowest_50 hl (k := 3) rfl (by rw [show nI (k + 1) = nI k + nI 1 from (nI_add _ _).symm]; rfl) (by decide) rfl (fun ls hl => ?_)
            refine lv_goto (tgt := 12) C.1 C.2.1 d_M_lowest_53 (by decide) ?_
            exact ih (k + 1) true (by omega) (by omega) (by first | exact any_t (Or.inl (ht.symm.trans q19)) | exact any_t (Or.inr (by show (th (k / 6) && decide (ow k = c1)) = true; rw [q31, decide_eq_true q41]; rfl)) | exact any_f (ht.symm.trans q19) (by show (th (k / 6) && decide (ow k = c1)) = false; first | (rw [decide_eq_false q41]; exact Bool.and_false _) | (rw [q31]; rfl))) _ _ I ls (lv_sub hl [2, 3, 1, 0] rfl)
set_option maxHeartbeats 4000000 in
set_option maxRecDepth 100000 in
theorem lp_M_lowest_8 {p : Program} {l : Launch} {e : Env} {s : State} {m : MethodId} {args : Array Value} {below : List Frame} {meth : Method} {c : Code} {D : va_G} {cA : Nat → ClassId} {A : Nat → Prop} {h : Nat → Nat} {co : Nat} {dn : Bool} {fu : Option Nat} {ct : Nat} {vo : (Nat → Int32)} {wo : (Nat → Int32)} {th : (Nat → Bool)} {ow : (Nat → Nat)} {ba : Nat} {mr : Nat} (C : gC p s m args meth c b_M_lowest 4 R_M) (hr : meth.sig.returnType = (some .int)) (how : oB th ow)   : ∀ (fuel : Nat) (c1 : Nat), 11 - c1 < fuel → 1 ≤ c1 → c1 ≤ 10 → mLow th ow = (fst (fun c => ! mTkn th ow c) (11 - c1) c1).getD 0 → ∀ (H : Heap) (locs : List Loc), smI D cA A s h (co, dn, fu, ct, vo, wo, th, ow, ba, mr) H locs → ∀ (ls : Array Slot), lv_has ls 4 [(0, .ref (h 0)), (1, .int (nI c1))] → W p l e (rmL 0) s m args below meth c H locs 0 0 (MQ below (va_Qi (fun r u' => r = nI (mLow th ow) ∧ u' = (co, dn, fu, ct, vo, wo, th, ow, ba, mr)) (smAt D cA A h) A) args s 0 0 A) (F0 m 8 ls []) := by
  intro fuel
  induction fuel with
  | zero =>
    intro _ hfuel
    exact absurd hfuel (Nat.not_lt_zero _)
  | succ fuel ih =>
    intro c1 hfuel hc0 hc1 hf H locs I ls hl
    refine lv_iconst (v := nI 0) C.1 C.2.1 d_M_lowest_8 (by decide) ?_
    refine lv_istore_n (lv' := [(2, .int (nI 0)), (0, .ref (h 0)), (1, .int (nI c1))]) C.1 C.2.1 d_M_lowest_9 rfl hl (by decide) rfl (fun ls hl => ?_)
    refine lv_iconst (v := nI 0) C.1 C.2.1 d_M_lowest_10 (by decide) ?_
    refine lv_istore_n (lv' := [(3, .int (nI 0)), (2, .int (nI 0)), (0, .ref (h 0)), (1, .int (nI c1))]) C.1 C.2.1 d_M_lowest_11 rfl hl (by decide) rfl (fun ls hl => ?_)
    refine lp_M_lowest_12 C hr how c1 hc1 (fun tk hk H locs I ls hl => ?_) _ 0 false (Nat.lt_succ_self _) (by omega) rfl _ _ I ls (lv_sub hl [2, 3, 1, 0] rfl)
    refine lv_iload_n C.1 C.2.1 d_M_lowest_56 rfl (lv_at hl 2 rfl) ?_
    refine n_ifeq (b := tk) (tgt := 66) C.1 C.2.1 d_M_lowest_57 (by decide) (fun q57 => ?_) (fun q57 => ?_)
    · subst q57
      refine lv_iload_n C.1 C.2.1 d_M_lowest_66 rfl (lv_at hl 1 rfl) ?_
      refine lv_istore_n (lv' := [(1, .int (nI c1)), (0, .ref (h 0)), (2, .int (bI false))]) C.1 C.2.1 d_M_lowest_67 rfl hl (by decide) rfl (fun ls hl => ?_)
      refine lv_goto (tgt := 4) C.1 C.2.1 d_M_lowest_68 (by decide) ?_
      refine lv_iload_n C.1 C.2.1 d_M_lowest_4 rfl (lv_at hl 2 rfl) ?_
      refine n_ifeq (b := false) (tgt := 71) C.1 C.2.1 d_M_lowest_5 (by decide) (fun q5 => ?_) (fun q5 => absurd q5 (by decide))
      refine lv_iload_n C.1 C.2.1 d_M_lowest_71 rfl (lv_at hl 0 rfl) ?_
      exact sm_ri (v := nI c1) C hr I ⟨congrArg nI (by rw [hf, show 11 - c1 = (10 - c1) + 1 by omega, fst_y (show (fun c => ! mTkn th ow c) c1 = true by show (! mTkn th ow c1) = true; rw [← hk]; rfl)]; rfl), rfl⟩ d_M_lowest_72
    · subst q57
      refine lv_iload_n C.1 C.2.1 d_M_lowest_60 rfl (lv_at hl 1 rfl) ?_
      refine lv_iconst (v := nI 1) C.1 C.2.1 d_M_lowest_61 (by decide) ?_
      refine n_iadd C.1 C.2.1 (a := c1) (b := 1) d_M_lowest_62 ?_
      refine lv_goto (tgt := 67) C.1 C.2.1 d_M_lowest_63 (by decide) ?_
      refine lv_istore_n (lv' := [(1, .int (nI (c1 + 1))), (0, .ref (h 0)), (2, .int (bI true))]) C.1 C.2.1 d_M_lowest_67 rfl hl (by decide) rfl (fun ls hl => ?_)
      refine lv_goto (tgt := 4) C.1 C.2.1 d_M_lowest_68 (by decide) ?_
      refine lv_iload_n C.1 C.2.1 d_M_lowest_4 rfl (lv_at hl 2 rfl) ?_
      refine n_ifeq (b := true) (tgt := 71) C.1 C.2.1 d_M_lowest_5 (by decide) (fun q5 => absurd q5 (by decide)) (fun q5 => ?_)
      exact ih (c1 + 1) (by omega) (by omega) (by have : c1 ≠ 10 := fun e => (by rw [e, how.ten] at hk; cases hk); omega) (by rw [hf, show 11 - c1 = (11 - (c1 + 1)) + 1 by omega, fst_s (show (fun c => ! mTkn th ow c) c1 = false by show (! mTkn th ow c1) = false; rw [← hk]; rfl)]) _ _ I ls (lv_sub hl [1, 0] rfl)
set_option maxHeartbeats 4000000 in
set_option maxRecDepth 100000 in
/-- R_M.lowest -/
theorem c_M_lowest (l : Launch) (D : va_G) (cA : Nat → ClassId) (h : Nat → Nat) (sz : Nat) (co : Nat) (dn : Bool) (fu : Option Nat) (ct : Nat) (vo : (Nat → Int32)) (wo : (Nat → Int32)) (th : (Nat → Bool)) (ow : (Nat → Nat)) (ba : Nat) (mr : Nat) (how : oB th ow) : smMi l D cA h (co, dn, fu, ct, vo, wo, th, ow, ba, mr) sz y_M_lowest (.code y_M_lowest b_M_lowest 4 (some .int)) (rmL 0) [] (fun r u' => r = nI (mLow th ow) ∧ u' = (co, dn, fu, ct, vo, wo, th, ow, ba, mr)) := by
  refine sm_mi (by decide) rfl (Nat.le_of_ble_eq_true rfl) ?_
  intro p e s m args below meth c C hr hsz I ls hl
  generalize smA cA h (co, dn, fu, ct, vo, wo, th, ow, ba, mr) sz = A at I ⊢
  have hl : lv_has ls 4 [(0, .ref (h 0))] := hl
  refine lv_iconst (v := nI 1) C.1 C.2.1 d_M_lowest_0 (by decide) ?_
  refine lv_istore_n (lv' := [(1, .int (nI 1)), (0, .ref (h 0))]) C.1 C.2.1 d_M_lowest_1 rfl hl (by decide) rfl (fun ls hl => ?_)
  refine lv_iconst (v := nI 1) C.1 C.2.1 d_M_lowest_2 (by decide) ?_
  refine lv_istore_n (lv' := [(2, .int (nI 1)), (1, .int (nI 1)), (0, .ref (h 0))]) C.1 C.2.1 d_M_lowest_3 rfl hl (by decide) rfl (fun ls hl => ?_)
  refine lv_iload_n C.1 C.2.1 d_M_lowest_4 rfl (lv_at hl 0 rfl) ?_
  refine n_ifz_eq (a := 1) (tgt := 71) C.1 C.2.1 (by omega) d_M_lowest_5 (by decide) (fun q5 => absurd q5 (by omega)) (fun q5 => ?_)
  exact lp_M_lowest_8 C hr how  _ 1 (Nat.lt_succ_self _) (by omega) (by omega) rfl _ _ I ls (lv_sub hl [2, 1] rfl)
set_option maxHeartbeats 4000000 in
set_option maxRecDepth 100000 in
theorem lp_M_sharers_5 {p : Program} {l : Launch} {e : Env} {s : State} {m : MethodId} {args : Array Value} {below : List Frame} {meth : Method} {c : Code} {D : va_G} {cA : Nat → ClassId} {A : Nat → Prop} {h : Nat → Nat} {co : Nat} {dn : Bool} {fu : Option Nat} {ct : Nat} {vo : (Nat → Int32)} {wo : (Nat → Int32)} {th : (Nat → Bool)} {ow : (Nat → Nat)} {ba : Nat} {mr : Nat} (C : gC p s m args meth c b_M_sharers 5 R_M) (hr : meth.sig.returnType = (some .int)) (b0 : Nat) (but0 : Option Nat) (hb0 : b0 < 6) (hbut : ∀ j, but0 = some j → j < 3) (how : oB th ow)   : ∀ (fuel : Nat) (i : Nat) (a : Nat), 3 - i < fuel → i ≤ 3 → a = cnt (mIsS th but0 ow b0) i → ∀ (H : Heap) (locs : List Loc), smI D cA A s h (co, dn, fu, ct, vo, wo, th, ow, ba, mr) H locs → ∀ (ls : Array Slot), lv_has ls 5 [(0, .ref (h 0)), (1, .int (nI b0)), (2, .int (oI but0)), (3, .int (nI a)), (4, .int (nI i))] → W p l e (rmL 0) s m args below meth c H locs 0 0 (MQ below (va_Qi (fun r u' => r = nI (mShr th ow b0 but0) ∧ u' = (co, dn, fu, ct, vo, wo, th, ow, ba, mr)) (smAt D cA A h) A) args s 0 0 A) (F0 m 5 ls []) := by
  intro fuel
  induction fuel with
  | zero =>
    intro _ _ hfuel
    exact absurd hfuel (Nat.not_lt_zero _)
  | succ fuel ih =>
    intro i a hfuel hi ha H locs I ls hl
    subst ha
    refine lv_iload C.1 C.2.1 d_M_sharers_5 (lv_at hl 4 rfl) ?_
    refine lv_iconst (v := nI 3) C.1 C.2.1 d_M_sharers_7 (by decide) ?_
    refine n_icmp_ge C.1 C.2.1 (a := i) (b := 3) (tgt := 56) (by omega) (by omega) d_M_sharers_8 (by decide) (fun q8 => ?_) (fun q8 => ?_)
    · refine lv_iload_n C.1 C.2.1 d_M_sharers_56 rfl (lv_at hl 3 rfl) ?_
      exact sm_ri (v := nI (cnt (mIsS th but0 ow b0) i)) C hr I ⟨congrArg nI (by rw [show i = 3 by omega]; rfl), rfl⟩ d_M_sharers_57
    · refine lv_aload_n C.1 C.2.1 d_M_sharers_11 rfl (lv_at hl 0 rfl) ?_
      refine sm_g6 C I d_M_sharers_12 ?_
      refine lv_iload C.1 C.2.1 d_M_sharers_15 (lv_at hl 4 rfl) ?_
      refine sm_l3 C I (k := i) (by omega) d_M_sharers_17 ?_
      refine n_ifeq (b := (th i)) (tgt := 48) C.1 C.2.1 d_M_sharers_18 (by decide) (fun q18 => ?_) (fun q18 => ?_)
      · refine lv_iload_n C.1 C.2.1 d_M_sharers_48 rfl (lv_at hl 3 rfl) ?_
        refine lv_istore_n (lv' := [(3, .int (nI (cnt (mIsS th but0 ow b0) i))), (0, .ref (h 0)), (1, .int (nI b0)), (2, .int (oI but0)), (4, .int (nI i))]) C.1 C.2.1 d_M_sharers_49 rfl hl (by decide) rfl (fun ls hl => ?_)
        refine lv_iinc (v := nI (i + 1)) (lv' := [(4, .int (nI (i + 1))), (3, .int (nI (cnt (mIsS th but0 ow b0) i))), (0, .ref (h 0)), (1, .int (nI b0)), (2, .int (oI but0))]) C.1 C.2.1 d_M_sharers_50 hl (k := 4) rfl (by rw [show nI (i + 1) = nI i + nI 1 from (nI_add _ _).symm]; rfl) (by decide) rfl (fun ls hl => ?_)
        refine lv_goto (tgt := 5) C.1 C.2.1 d_M_sharers_53 (by decide) ?_
        exact ih (i + 1) (cnt (mIsS th but0 ow b0) i) (by omega) (by omega) (by first | exact (cnt_y (by show (th i && decide (some i ≠ but0) && decide (ow (6 * i + b0) = 0)) = true; rw [q18, decide_eq_true (show some i ≠ but0 from fun z => q24 ((oI_n (by omega) (fun j e => Nat.lt_trans (hbut j e) (by decide))).mpr z.symm)), decide_eq_true (show ow (6 * i + b0) = 0 by omega)]; rfl)).symm | exact (cnt_s (by show (th i && decide (some i ≠ but0) && decide (ow (6 * i + b0) = 0)) = false; first | (rw [q18]; rfl) | (rw [decide_eq_false (fun z => z ((oI_n (by omega) (fun j e => Nat.lt_trans (hbut j e) (by decide))).mp q24).symm)]; simp) | (rw [decide_eq_false (show ¬ ow (6 * i + b0) = 0 by omega)]; exact Bool.and_false _))).symm) _ _ I ls (lv_sub hl [2, 3, 4, 1, 0] rfl)
      · refine lv_iload C.1 C.2.1 d_M_sharers_21 (lv_at hl 4 rfl) ?_
        refine lv_iload_n C.1 C.2.1 d_M_sharers_23 rfl (lv_at hl 2 rfl) ?_
        refine lv_icmp_eq (x := nI i) (y := oI but0) (tgt := 48) C.1 C.2.1 d_M_sharers_24 (by decide) (fun q24 => ?_) (fun q24 => ?_)
        · refine lv_iload_n C.1 C.2.1 d_M_sharers_48 rfl (lv_at hl 3 rfl) ?_
          refine lv_istore_n (lv' := [(3, .int (nI (cnt (mIsS th but0 ow b0) i))), (0, .ref (h 0)), (1, .int (nI b0)), (2, .int (oI but0)), (4, .int (nI i))]) C.1 C.2.1 d_M_sharers_49 rfl hl (by decide) rfl (fun ls hl => ?_)
          refine lv_iinc (v := nI (i + 1)) (lv' := [(4, .int (nI (i + 1))), (3, .int (nI (cnt (mIsS th but0 ow b0) i))), (0, .ref (h 0)), (1, .int (nI b0)), (2, .int (oI but0))]) C.1 C.2.1 d_M_sharers_50 hl (k := 4) rfl (by rw [show nI (i + 1) = nI i + nI 1 from (nI_add _ _).symm]; rfl) (by decide) rfl (fun ls hl => ?_)
          refine lv_goto (tgt := 5) C.1 C.2.1 d_M_sharers_53 (by decide) ?_
          exact ih (i + 1) (cnt (mIsS th but0 ow b0) i) (by omega) (by omega) (by first | exact (cnt_y (by show (th i && decide (some i ≠ but0) && decide (ow (6 * i + b0) = 0)) = true; rw [q18, decide_eq_true (show some i ≠ but0 from fun z => q24 ((oI_n (by omega) (fun j e => Nat.lt_trans (hbut j e) (by decide))).mpr z.symm)), decide_eq_true (show ow (6 * i + b0) = 0 by omega)]; rfl)).symm | exact (cnt_s (by show (th i && decide (some i ≠ but0) && decide (ow (6 * i + b0) = 0)) = false; first | (rw [q18]; rfl) | (rw [decide_eq_false (fun z => z ((oI_n (by omega) (fun j e => Nat.lt_trans (hbut j e) (by decide))).mp q24).symm)]; simp) | (rw [decide_eq_false (show ¬ ow (6 * i + b0) = 0 by omega)]; exact Bool.and_false _))).symm) _ _ I ls (lv_sub hl [2, 3, 4, 1, 0] rfl)
        · refine lv_aload_n C.1 C.2.1 d_M_sharers_27 rfl (lv_at hl 0 rfl) ?_
          refine sm_g7 C I d_M_sharers_28 ?_
          refine lv_bipush (v := nI 6) C.1 C.2.1 d_M_sharers_31 (by decide) ?_
          refine lv_iload C.1 C.2.1 d_M_sharers_33 (lv_at hl 4 rfl) ?_
          refine n_imul C.1 C.2.1 (a := 6) (b := i) d_M_sharers_35 ?_
          refine lv_iload_n C.1 C.2.1 d_M_sharers_36 rfl (lv_at hl 1 rfl) ?_
          refine n_iadd C.1 C.2.1 (a := 6 * i) (b := b0) d_M_sharers_37 ?_
          refine sm_l4 C I (k := (6 * i) + b0) (by omega) d_M_sharers_38 ?_
          have hw := how.sb (s := i) (b := b0) (by omega) hb0 q18
          refine n_ifz_ne (a := (ow ((6 * i) + b0))) (tgt := 48) C.1 C.2.1 (by omega) d_M_sharers_39 (by decide) (fun q39 => ?_) (fun q39 => ?_)
          · refine lv_iload_n C.1 C.2.1 d_M_sharers_48 rfl (lv_at hl 3 rfl) ?_
            refine lv_istore_n (lv' := [(3, .int (nI (cnt (mIsS th but0 ow b0) i))), (0, .ref (h 0)), (1, .int (nI b0)), (2, .int (oI but0)), (4, .int (nI i))]) C.1 C.2.1 d_M_sharers_49 rfl hl (by decide) rfl (fun ls hl => ?_)
            refine lv_iinc (v := nI (i + 1)) (lv' := [(4, .int (nI (i + 1))), (3, .int (nI (cnt (mIsS th but0 ow b0) i))), (0, .ref (h 0)), (1, .int (nI b0)), (2, .int (oI but0))]) C.1 C.2.1 d_M_sharers_50 hl (k := 4) rfl (by rw [show nI (i + 1) = nI i + nI 1 from (nI_add _ _).symm]; rfl) (by decide) rfl (fun ls hl => ?_)
            refine lv_goto (tgt := 5) C.1 C.2.1 d_M_sharers_53 (by decide) ?_
            exact ih (i + 1) (cnt (mIsS th but0 ow b0) i) (by omega) (by omega) (by first | exact (cnt_y (by show (th i && decide (some i ≠ but0) && decide (ow (6 * i + b0) = 0)) = true; rw [q18, decide_eq_true (show some i ≠ but0 from fun z => q24 ((oI_n (by omega) (fun j e => Nat.lt_trans (hbut j e) (by decide))).mpr z.symm)), decide_eq_true (show ow (6 * i + b0) = 0 by omega)]; rfl)).symm | exact (cnt_s (by show (th i && decide (some i ≠ but0) && decide (ow (6 * i + b0) = 0)) = false; first | (rw [q18]; rfl) | (rw [decide_eq_false (fun z => z ((oI_n (by omega) (fun j e => Nat.lt_trans (hbut j e) (by decide))).mp q24).symm)]; simp) | (rw [decide_eq_false (show ¬ ow (6 * i + b0) = 0 by omega)]; exact Bool.and_false _))).symm) _ _ I ls (lv_sub hl [2, 3, 4, 1, 0] rfl)
          · refine lv_iload_n C.1 C.2.1 d_M_sharers_42 rfl (lv_at hl 3 rfl) ?_
            refine lv_iconst (v := nI 1) C.1 C.2.1 d_M_sharers_43 (by decide) ?_
            refine n_iadd C.1 C.2.1 (a := cnt (mIsS th but0 ow b0) i) (b := 1) d_M_sharers_44 ?_
            refine lv_goto (tgt := 49) C.1 C.2.1 d_M_sharers_45 (by decide) ?_
            refine lv_istore_n (lv' := [(3, .int (nI ((cnt (mIsS th but0 ow b0) i) + 1))), (0, .ref (h 0)), (1, .int (nI b0)), (2, .int (oI but0)), (4, .int (nI i))]) C.1 C.2.1 d_M_sharers_49 rfl hl (by decide) rfl (fun ls hl => ?_)
            refine lv_iinc (v := nI (i + 1)) (lv' := [(4, .int (nI (i + 1))), (3, .int (nI ((cnt (mIsS th but0 ow b0) i) + 1))), (0, .ref (h 0)), (1, .int (nI b0)), (2, .int (oI but0))]) C.1 C.2.1 d_M_sharers_50 hl (k := 4) rfl (by rw [show nI (i + 1) = nI i + nI 1 from (nI_add _ _).symm]; rfl) (by decide) rfl (fun ls hl => ?_)
            refine lv_goto (tgt := 5) C.1 C.2.1 d_M_sharers_53 (by decide) ?_
            exact ih (i + 1) ((cnt (mIsS th but0 ow b0) i) + 1) (by omega) (by omega) (by first | exact (cnt_y (by show (th i && decide (some i ≠ but0) && decide (ow (6 * i + b0) = 0)) = true; rw [q18, decide_eq_true (show some i ≠ but0 from fun z => q24 ((oI_n (by omega) (fun j e => Nat.lt_trans (hbut j e) (by decide))).mpr z.symm)), decide_eq_true (show ow (6 * i + b0) = 0 by omega)]; rfl)).symm | exact (cnt_s (by show (th i && decide (some i ≠ but0) && decide (ow (6 * i + b0) = 0)) = false; first | (rw [q18]; rfl) | (rw [decide_eq_false (fun z => z ((oI_n (by omega) (fun j e => Nat.lt_trans (hbut j e) (by decide))).mp q24).symm)]; simp) | (rw [decide_eq_false (show ¬ ow (6 * i + b0) = 0 by omega)]; exact Bool.and_false _))).symm) _ _ I ls (lv_sub hl [2, 3, 4, 1, 0] rfl)
set_option maxHeartbeats 4000000 in
set_option maxRecDepth 100000 in
/-- R_M.sharers -/
theorem c_M_sharers (l : Launch) (D : va_G) (cA : Nat → ClassId) (h : Nat → Nat) (sz : Nat) (co : Nat) (dn : Bool) (fu : Option Nat) (ct : Nat) (vo : (Nat → Int32)) (wo : (Nat → Int32)) (th : (Nat → Bool)) (ow : (Nat → Nat)) (ba : Nat) (mr : Nat) (b0 : Nat) (but0 : Option Nat) (hb0 : b0 < 6) (hbut : ∀ j, but0 = some j → j < 3) (how : oB th ow) : smMi l D cA h (co, dn, fu, ct, vo, wo, th, ow, ba, mr) sz y_M_sharers (.code y_M_sharers b_M_sharers 5 (some .int)) (rmL 0) [.int (nI b0), .int (oI but0)] (fun r u' => r = nI (mShr th ow b0 but0) ∧ u' = (co, dn, fu, ct, vo, wo, th, ow, ba, mr)) := by
  refine sm_mi (by decide) rfl (Nat.le_of_ble_eq_true rfl) ?_
  intro p e s m args below meth c C hr hsz I ls hl
  generalize smA cA h (co, dn, fu, ct, vo, wo, th, ow, ba, mr) sz = A at I ⊢
  have hl : lv_has ls 5 [(0, .ref (h 0)), (1, .int (nI b0)), (2, .int (oI but0))] := hl
  refine lv_iconst (v := nI 0) C.1 C.2.1 d_M_sharers_0 (by decide) ?_
  refine lv_istore_n (lv' := [(3, .int (nI 0)), (0, .ref (h 0)), (1, .int (nI b0)), (2, .int (oI but0))]) C.1 C.2.1 d_M_sharers_1 rfl hl (by decide) rfl (fun ls hl => ?_)
  refine lv_iconst (v := nI 0) C.1 C.2.1 d_M_sharers_2 (by decide) ?_
  refine lv_istore (lv' := [(4, .int (nI 0)), (3, .int (nI 0)), (0, .ref (h 0)), (1, .int (nI b0)), (2, .int (oI but0))]) C.1 C.2.1 d_M_sharers_3 hl (by decide) rfl (fun ls hl => ?_)
  exact lp_M_sharers_5 C hr b0 but0 hb0 hbut how  _ 0 0 (Nat.lt_succ_self _) (by omega) rfl _ _ I ls (lv_sub hl [2, 3, 4, 1, 0] rfl)
set_option maxHeartbeats 4000000 in
set_option maxRecDepth 100000 in
/-- R_M.has -/
theorem c_M_has (l : Launch) (D : va_G) (cA : Nat → ClassId) (h : Nat → Nat) (sz : Nat) (co : Nat) (dn : Bool) (fu : Option Nat) (ct : Nat) (vo : (Nat → Int32)) (wo : (Nat → Int32)) (th : (Nat → Bool)) (ow : (Nat → Nat)) (ba : Nat) (mr : Nat) (s0 b0 : Nat) (hs0 : s0 < 3) (hb0 : b0 < 6) (hw : ow (6 * s0 + b0) ≤ 9) : smMi l D cA h (co, dn, fu, ct, vo, wo, th, ow, ba, mr) sz y_M_has (.code y_M_has b_M_has 3 (some .boolean)) (rmL 0) [.int (nI s0), .int (nI b0)] (fun r u' => r = bI (mHas ow s0 b0) ∧ u' = (co, dn, fu, ct, vo, wo, th, ow, ba, mr)) := by
  refine sm_mi (by decide) rfl (Nat.le_of_ble_eq_true rfl) ?_
  intro p e s m args below meth c C hr hsz I ls hl
  generalize smA cA h (co, dn, fu, ct, vo, wo, th, ow, ba, mr) sz = A at I ⊢
  have hl : lv_has ls 3 [(0, .ref (h 0)), (1, .int (nI s0)), (2, .int (nI b0))] := hl
  refine lv_aload_n C.1 C.2.1 d_M_has_0 rfl (lv_at hl 0 rfl) ?_
  refine sm_g7 C I d_M_has_1 ?_
  refine lv_bipush (v := nI 6) C.1 C.2.1 d_M_has_4 (by decide) ?_
  refine lv_iload_n C.1 C.2.1 d_M_has_6 rfl (lv_at hl 1 rfl) ?_
  refine n_imul C.1 C.2.1 (a := 6) (b := s0) d_M_has_7 ?_
  refine lv_iload_n C.1 C.2.1 d_M_has_8 rfl (lv_at hl 2 rfl) ?_
  refine n_iadd C.1 C.2.1 (a := 6 * s0) (b := b0) d_M_has_9 ?_
  refine sm_l4 C I (k := (6 * s0) + b0) (by omega) d_M_has_10 ?_
  refine n_ifz_le (a := (ow ((6 * s0) + b0))) (tgt := 18) C.1 C.2.1 (by omega) d_M_has_11 (by decide) (fun q11 => ?_) (fun q11 => ?_)
  · refine lv_iconst (v := nI 0) C.1 C.2.1 d_M_has_18 (by decide) ?_
    exact sm_rz (b := false) C hr I ⟨congrArg bI (by unfold mHas; first | exact (decide_eq_true (by omega)).symm | exact (decide_eq_false (by omega)).symm), rfl⟩ d_M_has_19
  · refine lv_iconst (v := nI 1) C.1 C.2.1 d_M_has_14 (by decide) ?_
    refine lv_goto (tgt := 19) C.1 C.2.1 d_M_has_15 (by decide) ?_
    exact sm_rz (b := true) C hr I ⟨congrArg bI (by unfold mHas; first | exact (decide_eq_true (by omega)).symm | exact (decide_eq_false (by omega)).symm), rfl⟩ d_M_has_19
set_option maxHeartbeats 4000000 in
set_option maxRecDepth 100000 in
theorem lp_M_writesFrom_5 {p : Program} {l : Launch} {e : Env} {s : State} {m : MethodId} {args : Array Value} {below : List Frame} {meth : Method} {c : Code} {D : va_G} {cA : Nat → ClassId} {A : Nat → Prop} {h : Nat → Nat} {co : Nat} {dn : Bool} {fu : Option Nat} {ct : Nat} {vo : (Nat → Int32)} {wo : (Nat → Int32)} {th : (Nat → Bool)} {ow : (Nat → Nat)} {ba : Nat} {mr : Nat} (C : gC p s m args meth c b_M_writesFrom 5 R_M) (hr : meth.sig.returnType = (some .int)) (s0 f0 : Nat) (hs0 : s0 < 3) (hf0 : f0 ≤ 6) (hth : th s0 = true) (how : oB th ow)   : ∀ (fuel : Nat) (b : Nat) (a : Nat), 6 - b < fuel → b ≤ 6 → mWF th ow s0 (6 - f0) f0 = a + mWF th ow s0 (6 - b) b → ∀ (H : Heap) (locs : List Loc), smI D cA A s h (co, dn, fu, ct, vo, wo, th, ow, ba, mr) H locs → ∀ (ls : Array Slot), lv_has ls 5 [(0, .ref (h 0)), (1, .int (nI s0)), (3, .int (nI a)), (4, .int (nI b))] → W p l e (rmL 1) s m args below meth c H locs 0 0 (MQ below (va_Qi (fun r u' => r = nI (mWF th ow s0 (6 - f0) f0) ∧ u' = (co, dn, fu, ct, vo, wo, th, ow, ba, mr)) (smAt D cA A h) A) args s 0 0 A) (F0 m 5 ls []) := by
  intro fuel
  induction fuel with
  | zero =>
    intro _ _ hfuel
    exact absurd hfuel (Nat.not_lt_zero _)
  | succ fuel ih =>
    intro b a hfuel hi hR H locs I ls hl
    refine lv_iload C.1 C.2.1 d_M_writesFrom_5 (lv_at hl 3 rfl) ?_
    refine lv_bipush (v := nI 6) C.1 C.2.1 d_M_writesFrom_7 (by decide) ?_
    refine n_icmp_ge C.1 C.2.1 (a := b) (b := 6) (tgt := 46) (by omega) (by omega) d_M_writesFrom_9 (by decide) (fun q9 => ?_) (fun q9 => ?_)
    · refine lv_iload_n C.1 C.2.1 d_M_writesFrom_46 rfl (lv_at hl 2 rfl) ?_
      exact sm_ri (v := nI a) C hr I ⟨congrArg nI (by rw [hR, show 6 - b = 0 by omega]; rfl), rfl⟩ d_M_writesFrom_47
    · refine lv_aload_n C.1 C.2.1 d_M_writesFrom_12 rfl (lv_at hl 0 rfl) ?_
      refine lv_iload_n C.1 C.2.1 d_M_writesFrom_13 rfl (lv_at hl 1 rfl) ?_
      refine lv_iload C.1 C.2.1 d_M_writesFrom_14 (lv_at hl 3 rfl) ?_
      refine sm_ci C I (c_M_has l D cA h _ co dn fu ct vo wo th ow ba mr s0 b (by omega) (by omega) (how.sb (by omega) (by omega) hth)) lk_M73 rfl rfl ⟨by decide, by decide⟩ ⟨Nat.zero_le _, Nat.zero_le _⟩ rfl hl.1 (rest := []) rfl (Nat.le_of_ble_eq_true rfl) d_M_writesFrom_16 (fun r u' H locs w16 I => ?_)
      obtain ⟨rfl, rfl⟩ := w16
      refine n_ifeq (b := mHas ow s0 b) (tgt := 38) C.1 C.2.1 d_M_writesFrom_19 (by decide) (fun q19 => ?_) (fun q19 => ?_)
      · refine lv_iload_n C.1 C.2.1 d_M_writesFrom_38 rfl (lv_at hl 2 rfl) ?_
        refine lv_istore_n (lv' := [(3, .int (nI a)), (0, .ref (h 0)), (1, .int (nI s0)), (4, .int (nI b))]) C.1 C.2.1 d_M_writesFrom_39 rfl hl (by decide) rfl (fun ls hl => ?_)
        refine lv_iinc (v := nI (b + 1)) (lv' := [(4, .int (nI (b + 1))), (3, .int (nI a)), (0, .ref (h 0)), (1, .int (nI s0))]) C.1 C.2.1 d_M_writesFrom_40 hl (k := 3) rfl (by rw [show nI (b + 1) = nI b + nI 1 from (nI_add _ _).symm]; rfl) (by decide) rfl (fun ls hl => ?_)
        refine lv_goto (tgt := 5) C.1 C.2.1 d_M_writesFrom_43 (by decide) ?_
        exact ih (b + 1) a (by omega) (by omega) (by rw [hR, show 6 - b = (6 - (b + 1)) + 1 by omega]; show a + ((if mHas ow s0 b = true then 5 * mShr th ow b (some s0) + 5 else 0) + _) = _; first | (rw [if_pos q19]; omega) | (rw [if_neg (by rw [q19]; decide)]; omega)) _ _ I ls (lv_sub hl [2, 3, 1, 0] rfl)
      · refine lv_iload_n C.1 C.2.1 d_M_writesFrom_22 rfl (lv_at hl 2 rfl) ?_
        refine lv_iconst (v := nI 5) C.1 C.2.1 d_M_writesFrom_23 (by decide) ?_
        refine lv_aload_n C.1 C.2.1 d_M_writesFrom_24 rfl (lv_at hl 0 rfl) ?_
        refine lv_iload C.1 C.2.1 d_M_writesFrom_25 (lv_at hl 3 rfl) ?_
        refine lv_iload_n C.1 C.2.1 d_M_writesFrom_27 rfl (lv_at hl 1 rfl) ?_
        refine sm_ci C I (c_M_sharers l D cA h _ co dn fu ct vo wo th ow ba mr b (some s0) (by omega) (fun j e => by cases e; omega) how) lk_M52 rfl rfl ⟨by decide, by decide⟩ ⟨Nat.zero_le _, Nat.zero_le _⟩ rfl hl.1 (rest := [.int (nI 5), .int (nI a)]) rfl (Nat.le_of_ble_eq_true rfl) d_M_writesFrom_28 (fun r u' H locs w28 I => ?_)
        obtain ⟨rfl, rfl⟩ := w28
        refine n_imul C.1 C.2.1 (a := 5) (b := mShr th ow b (some s0)) d_M_writesFrom_31 ?_
        refine n_iadd C.1 C.2.1 (a := a) (b := 5 * (mShr th ow b (some s0))) d_M_writesFrom_32 ?_
        refine lv_iconst (v := nI 5) C.1 C.2.1 d_M_writesFrom_33 (by decide) ?_
        refine n_iadd C.1 C.2.1 (a := a + (5 * (mShr th ow b (some s0)))) (b := 5) d_M_writesFrom_34 ?_
        refine lv_goto (tgt := 39) C.1 C.2.1 d_M_writesFrom_35 (by decide) ?_
        refine lv_istore_n (lv' := [(3, .int (nI ((a + (5 * (mShr th ow b (some s0)))) + 5))), (0, .ref (h 0)), (1, .int (nI s0)), (4, .int (nI b))]) C.1 C.2.1 d_M_writesFrom_39 rfl hl (by decide) rfl (fun ls hl => ?_)
        refine lv_iinc (v := nI (b + 1)) (lv' := [(4, .int (nI (b + 1))), (3, .int (nI ((a + (5 * (mShr th ow b (some s0)))) + 5))), (0, .ref (h 0)), (1, .int (nI s0))]) C.1 C.2.1 d_M_writesFrom_40 hl (k := 3) rfl (by rw [show nI (b + 1) = nI b + nI 1 from (nI_add _ _).symm]; rfl) (by decide) rfl (fun ls hl => ?_)
        refine lv_goto (tgt := 5) C.1 C.2.1 d_M_writesFrom_43 (by decide) ?_
        exact ih (b + 1) ((a + (5 * (mShr th ow b (some s0)))) + 5) (by omega) (by omega) (by rw [hR, show 6 - b = (6 - (b + 1)) + 1 by omega]; show a + ((if mHas ow s0 b = true then 5 * mShr th ow b (some s0) + 5 else 0) + _) = _; first | (rw [if_pos q19]; omega) | (rw [if_neg (by rw [q19]; decide)]; omega)) _ _ I ls (lv_sub hl [2, 3, 1, 0] rfl)
set_option maxHeartbeats 4000000 in
set_option maxRecDepth 100000 in
/-- R_M.writesFrom -/
theorem c_M_writesFrom (l : Launch) (D : va_G) (cA : Nat → ClassId) (h : Nat → Nat) (sz : Nat) (co : Nat) (dn : Bool) (fu : Option Nat) (ct : Nat) (vo : (Nat → Int32)) (wo : (Nat → Int32)) (th : (Nat → Bool)) (ow : (Nat → Nat)) (ba : Nat) (mr : Nat) (s0 f0 : Nat) (hs0 : s0 < 3) (hf0 : f0 ≤ 6) (hth : th s0 = true) (how : oB th ow) : smMi l D cA h (co, dn, fu, ct, vo, wo, th, ow, ba, mr) sz y_M_writesFrom (.code y_M_writesFrom b_M_writesFrom 5 (some .int)) (rmL 1) [.int (nI s0), .int (nI f0)] (fun r u' => r = nI (mWF th ow s0 (6 - f0) f0) ∧ u' = (co, dn, fu, ct, vo, wo, th, ow, ba, mr)) := by
  refine sm_mi (by decide) rfl (Nat.le_of_ble_eq_true rfl) ?_
  intro p e s m args below meth c C hr hsz I ls hl
  generalize smA cA h (co, dn, fu, ct, vo, wo, th, ow, ba, mr) sz = A at I ⊢
  have hl : lv_has ls 5 [(0, .ref (h 0)), (1, .int (nI s0)), (2, .int (nI f0))] := hl
  refine lv_iconst (v := nI 0) C.1 C.2.1 d_M_writesFrom_0 (by decide) ?_
  refine lv_istore_n (lv' := [(3, .int (nI 0)), (0, .ref (h 0)), (1, .int (nI s0)), (2, .int (nI f0))]) C.1 C.2.1 d_M_writesFrom_1 rfl hl (by decide) rfl (fun ls hl => ?_)
  refine lv_iload_n C.1 C.2.1 d_M_writesFrom_2 rfl (lv_at hl 3 rfl) ?_
  refine lv_istore (lv' := [(4, .int (nI f0)), (3, .int (nI 0)), (0, .ref (h 0)), (1, .int (nI s0)), (2, .int (nI f0))]) C.1 C.2.1 d_M_writesFrom_3 hl (by decide) rfl (fun ls hl => ?_)
  exact lp_M_writesFrom_5 C hr s0 f0 hs0 hf0 hth how  _ f0 0 (Nat.lt_succ_self _) (by omega) (Nat.zero_add _).symm _ _ I ls (lv_sub hl [2, 3, 1, 0] rfl)
