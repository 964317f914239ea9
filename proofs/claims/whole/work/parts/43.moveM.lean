set_option maxHeartbeats 4000000 in
set_option maxRecDepth 100000 in
/-- R_M.lasts -/
theorem c_M_lasts (l : Launch) (D : va_G) (cA : Nat → ClassId) (h : Nat → Nat) (sz : Nat) (co : Nat) (dn : Bool) (fu : Option Nat) (ct : Nat) (vo : (Nat → Int32)) (wo : (Nat → Int32)) (th : (Nat → Bool)) (ow : (Nat → Nat)) (ba : Nat) (mr : Nat) (w0 : Nat) (hw0 : w0 < 2 ^ 31) (hfu : ∀ k, fu = some k → k < 2 ^ 31) : smMi l D cA h (co, dn, fu, ct, vo, wo, th, ow, ba, mr) sz y_M_lasts (.code y_M_lasts b_M_lasts 2 (some .boolean)) (rmL 0) [.int (nI w0)] (fun r u' => ∃ bl fl cl dl, mLast fu ct dn w0 = (bl, fl, cl, dl) ∧ r = bI bl ∧ u' = (co, dl, fl, cl, vo, wo, th, ow, ba, mr)) := by
  refine sm_mi (by decide) rfl (Nat.le_of_ble_eq_true rfl) ?_
  intro p e s m args below meth c C hr hsz I ls hl
  generalize smA cA h (co, dn, fu, ct, vo, wo, th, ow, ba, mr) sz = A at I ⊢
  have hl : lv_has ls 2 [(0, .ref (h 0)), (1, .int (nI w0))] := hl
  rcases fu with _ | k
  · refine lv_aload_n C.1 C.2.1 d_M_lasts_0 rfl (lv_at hl 0 rfl) ?_
    refine sm_g2 C I d_M_lasts_1 ?_
    refine lv_if_lt (x := oI none) (tgt := 15) C.1 C.2.1 d_M_lasts_4 (by decide) (fun q4 => ?_) (fun q4 => absurd q4 (by decide))
    refine lv_aload_n C.1 C.2.1 d_M_lasts_15 rfl (lv_at hl 0 rfl) ?_
    refine lv_aload_n C.1 C.2.1 d_M_lasts_16 rfl (lv_at hl 0 rfl) ?_
    refine sm_g3 C I d_M_lasts_17 ?_
    refine lv_iload_n C.1 C.2.1 d_M_lasts_20 rfl (lv_at hl 1 rfl) ?_
    refine n_iadd C.1 C.2.1 (a := ct) (b := w0) d_M_lasts_21 ?_
    refine sm_p3 C I (ct + w0) rfl d_M_lasts_22 (fun H locs I => ?_)
    refine lv_aload_n C.1 C.2.1 d_M_lasts_25 rfl (lv_at hl 0 rfl) ?_
    refine lv_aload_n C.1 C.2.1 d_M_lasts_26 rfl (lv_at hl 0 rfl) ?_
    refine sm_g2 C I d_M_lasts_27 ?_
    refine lv_if_ge (x := oI none) (tgt := 37) C.1 C.2.1 d_M_lasts_30 (by decide) (fun q30 => absurd q30 (by decide)) (fun q30 => ?_)
    refine lv_iconst (v := oI none) C.1 C.2.1 d_M_lasts_33 (by decide) ?_
    refine lv_goto (tgt := 43) C.1 C.2.1 d_M_lasts_34 (by decide) ?_
    refine sm_p2 C I none rfl d_M_lasts_43 (fun H locs I => ?_)
    refine lv_iconst (v := nI 1) C.1 C.2.1 d_M_lasts_46 (by decide) ?_
    exact sm_rz (b := true) C hr I ⟨true, none, (ct + w0), dn, (by first | rfl | exact mLast_y (by omega) | exact mLast_c (by omega)), rfl, rfl⟩ d_M_lasts_47
  · have hk31 : k < 2 ^ 31 := hfu _ rfl
    refine lv_aload_n C.1 C.2.1 d_M_lasts_0 rfl (lv_at hl 0 rfl) ?_
    refine sm_g2 C I d_M_lasts_1 ?_
    refine n_ifz_lt (a := k) (tgt := 15) C.1 C.2.1 (by omega) d_M_lasts_4 (by decide) (fun q4 => absurd q4 (by omega)) (fun q4 => ?_)
    refine lv_aload_n C.1 C.2.1 d_M_lasts_7 rfl (lv_at hl 0 rfl) ?_
    refine sm_g2 C I d_M_lasts_8 ?_
    refine lv_iload_n C.1 C.2.1 d_M_lasts_11 rfl (lv_at hl 1 rfl) ?_
    refine n_icmp_lt C.1 C.2.1 (a := k) (b := w0) (tgt := 48) (by omega) (by omega) d_M_lasts_12 (by decide) (fun q12 => ?_) (fun q12 => ?_)
    · refine lv_aload_n C.1 C.2.1 d_M_lasts_48 rfl (lv_at hl 0 rfl) ?_
      refine lv_aload_n C.1 C.2.1 d_M_lasts_49 rfl (lv_at hl 0 rfl) ?_
      refine sm_g3 C I d_M_lasts_50 ?_
      refine lv_aload_n C.1 C.2.1 d_M_lasts_53 rfl (lv_at hl 0 rfl) ?_
      refine sm_g2 C I d_M_lasts_54 ?_
      refine n_iadd C.1 C.2.1 (a := ct) (b := k) d_M_lasts_57 ?_
      refine sm_p3 C I (ct + k) rfl d_M_lasts_58 (fun H locs I => ?_)
      refine lv_aload_n C.1 C.2.1 d_M_lasts_61 rfl (lv_at hl 0 rfl) ?_
      refine lv_iconst (v := nI 1) C.1 C.2.1 d_M_lasts_62 (by decide) ?_
      refine sm_p1 C I true rfl d_M_lasts_63 (fun H locs I => ?_)
      refine lv_iconst (v := nI 0) C.1 C.2.1 d_M_lasts_66 (by decide) ?_
      exact sm_rz (b := false) C hr I ⟨false, (some k), (ct + k), true, (by first | rfl | exact mLast_y (by omega) | exact mLast_c (by omega)), rfl, rfl⟩ d_M_lasts_67
    · refine lv_aload_n C.1 C.2.1 d_M_lasts_15 rfl (lv_at hl 0 rfl) ?_
      refine lv_aload_n C.1 C.2.1 d_M_lasts_16 rfl (lv_at hl 0 rfl) ?_
      refine sm_g3 C I d_M_lasts_17 ?_
      refine lv_iload_n C.1 C.2.1 d_M_lasts_20 rfl (lv_at hl 1 rfl) ?_
      refine n_iadd C.1 C.2.1 (a := ct) (b := w0) d_M_lasts_21 ?_
      refine sm_p3 C I (ct + w0) rfl d_M_lasts_22 (fun H locs I => ?_)
      refine lv_aload_n C.1 C.2.1 d_M_lasts_25 rfl (lv_at hl 0 rfl) ?_
      refine lv_aload_n C.1 C.2.1 d_M_lasts_26 rfl (lv_at hl 0 rfl) ?_
      refine sm_g2 C I d_M_lasts_27 ?_
      refine n_ifz_ge (a := k) (tgt := 37) C.1 C.2.1 (by omega) d_M_lasts_30 (by decide) (fun q30 => ?_) (fun q30 => absurd q30 (by omega))
      refine lv_aload_n C.1 C.2.1 d_M_lasts_37 rfl (lv_at hl 0 rfl) ?_
      refine sm_g2 C I d_M_lasts_38 ?_
      refine lv_iload_n C.1 C.2.1 d_M_lasts_41 rfl (lv_at hl 1 rfl) ?_
      refine n_isub C.1 C.2.1 (a := k) (b := w0) (by omega) d_M_lasts_42 ?_
      refine sm_p2 C I (some (k - w0)) rfl d_M_lasts_43 (fun H locs I => ?_)
      refine lv_iconst (v := nI 1) C.1 C.2.1 d_M_lasts_46 (by decide) ?_
      exact sm_rz (b := true) C hr I ⟨true, (some (k - w0)), (ct + w0), dn, (by first | rfl | exact mLast_y (by omega) | exact mLast_c (by omega)), rfl, rfl⟩ d_M_lasts_47
set_option maxHeartbeats 4000000 in
set_option maxRecDepth 100000 in
/-- R_M.cut -/
theorem c_M_cut (l : Launch) (D : va_G) (cA : Nat → ClassId) (h : Nat → Nat) (sz : Nat) (co : Nat) (dn : Bool) (fu : Option Nat) (ct : Nat) (vo : (Nat → Int32)) (wo : (Nat → Int32)) (th : (Nat → Bool)) (ow : (Nat → Nat)) (ba : Nat) (mr : Nat)  : smMi l D cA h (co, dn, fu, ct, vo, wo, th, ow, ba, mr) sz y_M_cut (.code y_M_cut b_M_cut 2 (some .int)) (rmL 0) [] (fun r u' => r = oI fu ∧ u' = (co, dn, none, ct, vo, wo, th, ow, ba, mr)) := by
  refine sm_mi (by decide) rfl (Nat.le_of_ble_eq_true rfl) ?_
  intro p e s m args below meth c C hr hsz I ls hl
  generalize smA cA h (co, dn, fu, ct, vo, wo, th, ow, ba, mr) sz = A at I ⊢
  have hl : lv_has ls 2 [(0, .ref (h 0))] := hl
  refine lv_aload_n C.1 C.2.1 d_M_cut_0 rfl (lv_at hl 0 rfl) ?_
  refine sm_g2 C I d_M_cut_1 ?_
  refine lv_istore_n (lv' := [(1, .int (oI fu)), (0, .ref (h 0))]) C.1 C.2.1 d_M_cut_4 rfl hl (by decide) rfl (fun ls hl => ?_)
  refine lv_aload_n C.1 C.2.1 d_M_cut_5 rfl (lv_at hl 1 rfl) ?_
  refine lv_iconst (v := oI none) C.1 C.2.1 d_M_cut_6 (by decide) ?_
  refine sm_p2 C I none rfl d_M_cut_7 (fun H locs I => ?_)
  refine lv_iload_n C.1 C.2.1 d_M_cut_10 rfl (lv_at hl 0 rfl) ?_
  exact sm_ri (v := oI fu) C hr I ⟨rfl, rfl⟩ d_M_cut_11
set_option maxHeartbeats 4000000 in
set_option maxRecDepth 100000 in
theorem lp_M_part_6 {p : Program} {l : Launch} {e : Env} {s : State} {m : MethodId} {args : Array Value} {below : List Frame} {meth : Method} {c : Code} {D : va_G} {cA : Nat → ClassId} {A : Nat → Prop} {h : Nat → Nat} {co : Nat} {dn : Bool} {fu : Option Nat} {ct : Nat} {vo : (Nat → Int32)} {wo : (Nat → Int32)} {th : (Nat → Bool)} {ow : (Nat → Nat)} {ba : Nat} {mr : Nat} (C : gC p s m args meth c b_M_part 6 R_M) (hr : meth.sig.returnType = none) (b0 : Nat) (but0 : Option Nat) (hb0 : b0 < 6) (hbut : ∀ j, but0 = some j → j < 3) (n0 : Nat) (hn0 : n0 < 2 ^ 31) (how : oB th ow) (hu : mUsed th ow + mShr th ow b0 but0 ≤ 9)   : ∀ (fuel : Nat) (i : Nat) (lf : Nat) (owv : Nat → Nat), 3 - i < fuel → i ≤ 3 → lf < 2 ^ 31 → mPart th ow b0 but0 n0 = mPartL th b0 but0 (3 - i) i lf owv → oB th owv → mUsed th owv + cntR (mIsS th but0 owv b0) (3 - i) i ≤ 9 → ∀ (H : Heap) (locs : List Loc), smI D cA A s h (co, dn, fu, ct, vo, wo, th, owv, ba, mr) H locs → ∀ (ls : Array Slot), lv_has ls 6 [(0, .ref (h 0)), (1, .int (nI b0)), (2, .int (oI but0)), (4, .int (nI lf)), (5, .int (nI i))] → W p l e (rmL 1) s m args below meth c H locs 0 0 (MQ below (va_Qv (fun u' => u' = (co, dn, fu, ct, vo, wo, th, mPart th ow b0 but0 n0, ba, mr)) (smAt D cA A h) A) args s 0 0 A) (F0 m 6 ls []) := by
  intro fuel
  induction fuel with
  | zero =>
    intro _ _ _ hfuel
    exact absurd hfuel (Nat.not_lt_zero _)
  | succ fuel ih =>
    intro i lf owv hfuel hi hlf hR hv hu2 H locs I ls hl
    refine lv_iload C.1 C.2.1 d_M_part_6 (lv_at hl 4 rfl) ?_
    refine lv_iconst (v := nI 3) C.1 C.2.1 d_M_part_8 (by decide) ?_
    refine n_icmp_ge C.1 C.2.1 (a := i) (b := 3) (tgt := 73) (by omega) (by omega) d_M_part_9 (by decide) (fun q9 => ?_) (fun q9 => ?_)
    · exact sm_rv C hr I (by rw [hR]; first | (rw [show 3 - i = 0 by omega]; rfl) | (rw [show 3 - i = (2 - i) + 1 by omega, show lf = 0 by omega, partL_z])) d_M_part_73
    · refine lv_iload C.1 C.2.1 d_M_part_12 (lv_at hl 3 rfl) ?_
      refine n_ifz_le (a := lf) (tgt := 73) C.1 C.2.1 (by omega) d_M_part_14 (by decide) (fun q14 => ?_) (fun q14 => ?_)
      · exact sm_rv C hr I (by rw [hR]; first | (rw [show 3 - i = 0 by omega]; rfl) | (rw [show 3 - i = (2 - i) + 1 by omega, show lf = 0 by omega, partL_z])) d_M_part_73
      · refine lv_aload_n C.1 C.2.1 d_M_part_17 rfl (lv_at hl 0 rfl) ?_
        refine sm_g6 C I d_M_part_18 ?_
        refine lv_iload C.1 C.2.1 d_M_part_21 (lv_at hl 4 rfl) ?_
        refine sm_l3 C I (k := i) (by omega) d_M_part_23 ?_
        refine n_ifeq (b := (th i)) (tgt := 67) C.1 C.2.1 d_M_part_24 (by decide) (fun q24 => ?_) (fun q24 => ?_)
        · refine lv_iinc (v := nI (i + 1)) (lv' := [(5, .int (nI (i + 1))), (0, .ref (h 0)), (1, .int (nI b0)), (2, .int (oI but0)), (4, .int (nI lf))]) C.1 C.2.1 d_M_part_67 hl (k := 4) rfl (by rw [show nI (i + 1) = nI i + nI 1 from (nI_add _ _).symm]; rfl) (by decide) rfl (fun ls hl => ?_)
          refine lv_goto (tgt := 6) C.1 C.2.1 d_M_part_70 (by decide) ?_
          exact ih (i + 1) lf owv (by omega) (by omega) (by omega) (by rw [hR, show 3 - i = (3 - (i + 1)) + 1 by omega]; first | exact hpl | exact partL_no (by omega) (isS_false (by first | exact Or.inl q24 | exact Or.inr (Or.inl ((oI_n (by omega) (fun j e => Nat.lt_trans (hbut j e) (by decide))).mp q30)) | exact Or.inr (Or.inr (by omega))))) (by first | exact hov | exact hv) (by first | exact hst | (rw [show 3 - i = (3 - (i + 1)) + 1 by omega, cntR_no (isS_false (by first | exact Or.inl q24 | exact Or.inr (Or.inl ((oI_n (by omega) (fun j e => Nat.lt_trans (hbut j e) (by decide))).mp q30)) | exact Or.inr (Or.inr (by omega))))] at hu2; exact hu2)) _ _ I ls (lv_sub hl [1, 2, 3, 4, 0] rfl)
        · refine lv_iload C.1 C.2.1 d_M_part_27 (lv_at hl 4 rfl) ?_
          refine lv_iload_n C.1 C.2.1 d_M_part_29 rfl (lv_at hl 2 rfl) ?_
          refine lv_icmp_eq (x := nI i) (y := oI but0) (tgt := 67) C.1 C.2.1 d_M_part_30 (by decide) (fun q30 => ?_) (fun q30 => ?_)
          · refine lv_iinc (v := nI (i + 1)) (lv' := [(5, .int (nI (i + 1))), (0, .ref (h 0)), (1, .int (nI b0)), (2, .int (oI but0)), (4, .int (nI lf))]) C.1 C.2.1 d_M_part_67 hl (k := 4) rfl (by rw [show nI (i + 1) = nI i + nI 1 from (nI_add _ _).symm]; rfl) (by decide) rfl (fun ls hl => ?_)
            refine lv_goto (tgt := 6) C.1 C.2.1 d_M_part_70 (by decide) ?_
            exact ih (i + 1) lf owv (by omega) (by omega) (by omega) (by rw [hR, show 3 - i = (3 - (i + 1)) + 1 by omega]; first | exact hpl | exact partL_no (by omega) (isS_false (by first | exact Or.inl q24 | exact Or.inr (Or.inl ((oI_n (by omega) (fun j e => Nat.lt_trans (hbut j e) (by decide))).mp q30)) | exact Or.inr (Or.inr (by omega))))) (by first | exact hov | exact hv) (by first | exact hst | (rw [show 3 - i = (3 - (i + 1)) + 1 by omega, cntR_no (isS_false (by first | exact Or.inl q24 | exact Or.inr (Or.inl ((oI_n (by omega) (fun j e => Nat.lt_trans (hbut j e) (by decide))).mp q30)) | exact Or.inr (Or.inr (by omega))))] at hu2; exact hu2)) _ _ I ls (lv_sub hl [1, 2, 3, 4, 0] rfl)
          · refine lv_aload_n C.1 C.2.1 d_M_part_33 rfl (lv_at hl 0 rfl) ?_
            refine sm_g7 C I d_M_part_34 ?_
            refine lv_bipush (v := nI 6) C.1 C.2.1 d_M_part_37 (by decide) ?_
            refine lv_iload C.1 C.2.1 d_M_part_39 (lv_at hl 4 rfl) ?_
            refine n_imul C.1 C.2.1 (a := 6) (b := i) d_M_part_41 ?_
            refine lv_iload_n C.1 C.2.1 d_M_part_42 rfl (lv_at hl 1 rfl) ?_
            refine n_iadd C.1 C.2.1 (a := 6 * i) (b := b0) d_M_part_43 ?_
            refine sm_l4 C I (k := (6 * i) + b0) (by omega) d_M_part_44 ?_
            have hw := hv.sb (s := i) (b := b0) (by omega) hb0 q24
            refine n_ifz_ne (a := (owv ((6 * i) + b0))) (tgt := 67) C.1 C.2.1 (by omega) d_M_part_45 (by decide) (fun q45 => ?_) (fun q45 => ?_)
            · refine lv_iinc (v := nI (i + 1)) (lv' := [(5, .int (nI (i + 1))), (0, .ref (h 0)), (1, .int (nI b0)), (2, .int (oI but0)), (4, .int (nI lf))]) C.1 C.2.1 d_M_part_67 hl (k := 4) rfl (by rw [show nI (i + 1) = nI i + nI 1 from (nI_add _ _).symm]; rfl) (by decide) rfl (fun ls hl => ?_)
              refine lv_goto (tgt := 6) C.1 C.2.1 d_M_part_70 (by decide) ?_
              exact ih (i + 1) lf owv (by omega) (by omega) (by omega) (by rw [hR, show 3 - i = (3 - (i + 1)) + 1 by omega]; first | exact hpl | exact partL_no (by omega) (isS_false (by first | exact Or.inl q24 | exact Or.inr (Or.inl ((oI_n (by omega) (fun j e => Nat.lt_trans (hbut j e) (by decide))).mp q30)) | exact Or.inr (Or.inr (by omega))))) (by first | exact hov | exact hv) (by first | exact hst | (rw [show 3 - i = (3 - (i + 1)) + 1 by omega, cntR_no (isS_false (by first | exact Or.inl q24 | exact Or.inr (Or.inl ((oI_n (by omega) (fun j e => Nat.lt_trans (hbut j e) (by decide))).mp q30)) | exact Or.inr (Or.inr (by omega))))] at hu2; exact hu2)) _ _ I ls (lv_sub hl [1, 2, 3, 4, 0] rfl)
            · have hsy : mIsS th but0 owv b0 i = true := (by show (th i && decide (some i ≠ but0) && decide (owv (6 * i + b0) = 0)) = true; rw [q24, decide_eq_true (show some i ≠ but0 from fun z => q30 ((oI_n (by omega) (fun j e => Nat.lt_trans (hbut j e) (by decide))).mpr z.symm)), decide_eq_true (show owv (6 * i + b0) = 0 by omega)]; rfl)
              have hm8 : mUsed th owv ≤ 8 := by rw [show 3 - i = (3 - (i + 1)) + 1 by omega, cntR_yes hsy] at hu2; omega
              have hst := cntR_next hsy (show mUsed th owv + cntR (mIsS th but0 owv b0) ((3 - (i + 1)) + 1) i ≤ 9 by rw [← (show 3 - i = (3 - (i + 1)) + 1 by omega)]; exact hu2)
              have hov := oB_up (k := 6 * i + b0) hv hm8
              have hpl := partL_yes (n := 3 - (i + 1)) (left := lf) (show lf ≠ 0 by omega) hsy
              refine lv_aload_n C.1 C.2.1 d_M_part_48 rfl (lv_at hl 0 rfl) ?_
              refine sm_g7 C I d_M_part_49 ?_
              refine lv_bipush (v := nI 6) C.1 C.2.1 d_M_part_52 (by decide) ?_
              refine lv_iload C.1 C.2.1 d_M_part_54 (lv_at hl 4 rfl) ?_
              refine n_imul C.1 C.2.1 (a := 6) (b := i) d_M_part_56 ?_
              refine lv_iload_n C.1 C.2.1 d_M_part_57 rfl (lv_at hl 1 rfl) ?_
              refine n_iadd C.1 C.2.1 (a := 6 * i) (b := b0) d_M_part_58 ?_
              refine lv_aload_n C.1 C.2.1 d_M_part_59 rfl (lv_at hl 0 rfl) ?_
              refine sm_ci C I (c_M_lowest l D cA h _ co dn fu ct vo wo th owv ba mr hv) lk_M44 rfl rfl ⟨by decide, by decide⟩ ⟨Nat.zero_le _, Nat.zero_le _⟩ rfl hl.1 (rest := [.int (nI ((6 * i) + b0)), .ref (h 4)]) rfl (Nat.le_of_ble_eq_true rfl) d_M_part_60 (fun r u' H locs w60 I => ?_)
              obtain ⟨rfl, rfl⟩ := w60
              refine sm_s4 C I (k := (6 * i) + b0) (x := mLow th owv) (by omega) d_M_part_63 (fun H locs I => ?_)
              refine lv_iinc (v := nI (lf - 1)) (lv' := [(4, .int (nI (lf - 1))), (0, .ref (h 0)), (1, .int (nI b0)), (2, .int (oI but0)), (5, .int (nI i))]) C.1 C.2.1 d_M_part_64 hl (k := 3) rfl (by rw [← sb_m1 (by omega)]; rfl) (by decide) rfl (fun ls hl => ?_)
              refine lv_iinc (v := nI (i + 1)) (lv' := [(5, .int (nI (i + 1))), (4, .int (nI (lf - 1))), (0, .ref (h 0)), (1, .int (nI b0)), (2, .int (oI but0))]) C.1 C.2.1 d_M_part_67 hl (k := 4) rfl (by rw [show nI (i + 1) = nI i + nI 1 from (nI_add _ _).symm]; rfl) (by decide) rfl (fun ls hl => ?_)
              refine lv_goto (tgt := 6) C.1 C.2.1 d_M_part_70 (by decide) ?_
              exact ih (i + 1) (lf - 1) (va_up owv ((6 * i) + b0) (mLow th owv)) (by omega) (by omega) (by omega) (by rw [hR, show 3 - i = (3 - (i + 1)) + 1 by omega]; first | exact hpl | exact partL_no (by omega) (isS_false (by first | exact Or.inl q24 | exact Or.inr (Or.inl ((oI_n (by omega) (fun j e => Nat.lt_trans (hbut j e) (by decide))).mp q30)) | exact Or.inr (Or.inr (by omega))))) (by first | exact hov | exact hv) (by first | exact hst | (rw [show 3 - i = (3 - (i + 1)) + 1 by omega, cntR_no (isS_false (by first | exact Or.inl q24 | exact Or.inr (Or.inl ((oI_n (by omega) (fun j e => Nat.lt_trans (hbut j e) (by decide))).mp q30)) | exact Or.inr (Or.inr (by omega))))] at hu2; exact hu2)) _ _ I ls (lv_sub hl [2, 3, 4, 1, 0] rfl)
set_option maxHeartbeats 4000000 in
set_option maxRecDepth 100000 in
/-- R_M.part -/
theorem c_M_part (l : Launch) (D : va_G) (cA : Nat → ClassId) (h : Nat → Nat) (sz : Nat) (co : Nat) (dn : Bool) (fu : Option Nat) (ct : Nat) (vo : (Nat → Int32)) (wo : (Nat → Int32)) (th : (Nat → Bool)) (ow : (Nat → Nat)) (ba : Nat) (mr : Nat) (b0 : Nat) (but0 : Option Nat) (hb0 : b0 < 6) (hbut : ∀ j, but0 = some j → j < 3) (n0 : Nat) (hn0 : n0 < 2 ^ 31) (how : oB th ow) (hu : mUsed th ow + mShr th ow b0 but0 ≤ 9) : smMv l D cA h (co, dn, fu, ct, vo, wo, th, ow, ba, mr) sz y_M_part (.code y_M_part b_M_part 6 none) (rmL 1) [.int (nI b0), .int (oI but0), .int (nI n0)] (fun u' => u' = (co, dn, fu, ct, vo, wo, th, mPart th ow b0 but0 n0, ba, mr)) := by
  refine sm_mv (by decide) rfl (Nat.le_of_ble_eq_true rfl) ?_
  intro p e s m args below meth c C hr hsz I ls hl
  generalize smA cA h (co, dn, fu, ct, vo, wo, th, ow, ba, mr) sz = A at I ⊢
  have hl : lv_has ls 6 [(0, .ref (h 0)), (1, .int (nI b0)), (2, .int (oI but0)), (3, .int (nI n0))] := hl
  refine lv_iload_n C.1 C.2.1 d_M_part_0 rfl (lv_at hl 3 rfl) ?_
  refine lv_istore (lv' := [(4, .int (nI n0)), (0, .ref (h 0)), (1, .int (nI b0)), (2, .int (oI but0)), (3, .int (nI n0))]) C.1 C.2.1 d_M_part_1 hl (by decide) rfl (fun ls hl => ?_)
  refine lv_iconst (v := nI 0) C.1 C.2.1 d_M_part_3 (by decide) ?_
  refine lv_istore (lv' := [(5, .int (nI 0)), (4, .int (nI n0)), (0, .ref (h 0)), (1, .int (nI b0)), (2, .int (oI but0)), (3, .int (nI n0))]) C.1 C.2.1 d_M_part_4 hl (by decide) rfl (fun ls hl => ?_)
  exact lp_M_part_6 C hr b0 but0 hb0 hbut n0 hn0 how hu  _ 0 n0 ow (Nat.lt_succ_self _) (by omega) hn0 rfl how (by rw [← cnt3]; exact hu) _ _ I ls (lv_sub hl [2, 3, 4, 1, 0] rfl)
set_option maxHeartbeats 4000000 in
set_option maxRecDepth 100000 in
theorem lp_M_restore_9 {p : Program} {l : Launch} {e : Env} {s : State} {m : MethodId} {args : Array Value} {below : List Frame} {meth : Method} {c : Code} {D : va_G} {cA : Nat → ClassId} {A : Nat → Prop} {h : Nat → Nat} {co : Nat} {dn : Bool} {fu : Option Nat} {ct : Nat} {vo : (Nat → Int32)} {wo : (Nat → Int32)} {th : (Nat → Bool)} {ow : (Nat → Nat)} {ba : Nat} {mr : Nat} (C : gC p s m args meth c b_M_restore 4 R_M) (hr : meth.sig.returnType = none) (s0 b0 : Nat) (hs0 : s0 < 3) (hb0 : b0 < 6) (how : oB th ow) (hu : mUsed th ow + mShr th ow b0 (some s0) ≤ 9)   : ∀ (fuel : Nat) (i : Nat) (vov : Nat → Int32) (owv : Nat → Nat), 4 - i < fuel → i ≤ 4 → mVol vo wo s0 b0 4 0 = mVol vov wo s0 b0 (4 - i) i → owv = mPart th ow b0 (some s0) 3 → ∀ (H : Heap) (locs : List Loc), smI D cA A s h (co, dn, fu, ct, vov, wo, th, owv, ba, mr) H locs → ∀ (ls : Array Slot), lv_has ls 4 [(0, .ref (h 0)), (1, .int (nI s0)), (2, .int (nI b0)), (3, .int (nI i))] → W p l e (rmL 2) s m args below meth c H locs 0 0 (MQ below (va_Qv (fun u' => u' = (co, dn, fu, ct, mVol vo wo s0 b0 4 0, wo, th, mPart th ow b0 (some s0) 3, ba, mr)) (smAt D cA A h) A) args s 0 0 A) (F0 m 9 ls []) := by
  intro fuel
  induction fuel with
  | zero =>
    intro _ _ _ hfuel
    exact absurd hfuel (Nat.not_lt_zero _)
  | succ fuel ih =>
    intro i vov owv hfuel hi hV howv H locs I ls hl
    refine lv_iload_n C.1 C.2.1 d_M_restore_9 rfl (lv_at hl 3 rfl) ?_
    refine lv_iconst (v := nI 4) C.1 C.2.1 d_M_restore_10 (by decide) ?_
    refine n_icmp_ge C.1 C.2.1 (a := i) (b := 4) (tgt := 45) (by omega) (by omega) d_M_restore_11 (by decide) (fun q11 => ?_) (fun q11 => ?_)
    · exact sm_rv C hr I (by rw [hV, howv, show 4 - i = 0 by omega]; rfl) d_M_restore_45
    · refine lv_aload_n C.1 C.2.1 d_M_restore_14 rfl (lv_at hl 0 rfl) ?_
      refine sm_g4 C I d_M_restore_15 ?_
      refine lv_iconst (v := nI 4) C.1 C.2.1 d_M_restore_18 (by decide) ?_
      refine lv_iload_n C.1 C.2.1 d_M_restore_19 rfl (lv_at hl 2 rfl) ?_
      refine n_imul C.1 C.2.1 (a := 4) (b := b0) d_M_restore_20 ?_
      refine lv_iload_n C.1 C.2.1 d_M_restore_21 rfl (lv_at hl 3 rfl) ?_
      refine n_iadd C.1 C.2.1 (a := 4 * b0) (b := i) d_M_restore_22 ?_
      refine lv_aload_n C.1 C.2.1 d_M_restore_23 rfl (lv_at hl 0 rfl) ?_
      refine sm_g5 C I d_M_restore_24 ?_
      refine lv_bipush (v := nI 24) C.1 C.2.1 d_M_restore_27 (by decide) ?_
      refine lv_iload_n C.1 C.2.1 d_M_restore_29 rfl (lv_at hl 1 rfl) ?_
      refine n_imul C.1 C.2.1 (a := 24) (b := s0) d_M_restore_30 ?_
      refine lv_iconst (v := nI 4) C.1 C.2.1 d_M_restore_31 (by decide) ?_
      refine lv_iload_n C.1 C.2.1 d_M_restore_32 rfl (lv_at hl 2 rfl) ?_
      refine n_imul C.1 C.2.1 (a := 4) (b := b0) d_M_restore_33 ?_
      refine n_iadd C.1 C.2.1 (a := 24 * s0) (b := 4 * b0) d_M_restore_34 ?_
      refine lv_iload_n C.1 C.2.1 d_M_restore_35 rfl (lv_at hl 3 rfl) ?_
      refine n_iadd C.1 C.2.1 (a := (24 * s0) + (4 * b0)) (b := i) d_M_restore_36 ?_
      refine sm_l2 C I (k := ((24 * s0) + (4 * b0)) + i) (by omega) d_M_restore_37 ?_
      refine sm_s1 C I (k := (4 * b0) + i) (x := (wo (((24 * s0) + (4 * b0)) + i))) (by omega) d_M_restore_38 (fun H locs I => ?_)
      refine lv_iinc (v := nI (i + 1)) (lv' := [(3, .int (nI (i + 1))), (0, .ref (h 0)), (1, .int (nI s0)), (2, .int (nI b0))]) C.1 C.2.1 d_M_restore_39 hl (k := 3) rfl (by rw [show nI (i + 1) = nI i + nI 1 from (nI_add _ _).symm]; rfl) (by decide) rfl (fun ls hl => ?_)
      refine lv_goto (tgt := 9) C.1 C.2.1 d_M_restore_42 (by decide) ?_
      exact ih (i + 1) (upd vov ((4 * b0) + i) (wo (((24 * s0) + (4 * b0)) + i))) owv (by omega) (by omega) (by rw [hV, show 4 - i = (4 - (i + 1)) + 1 by omega]; rfl) howv _ _ I ls (lv_sub hl [1, 2, 3, 0] rfl)
set_option maxHeartbeats 4000000 in
set_option maxRecDepth 100000 in
/-- R_M.restore -/
theorem c_M_restore (l : Launch) (D : va_G) (cA : Nat → ClassId) (h : Nat → Nat) (sz : Nat) (co : Nat) (dn : Bool) (fu : Option Nat) (ct : Nat) (vo : (Nat → Int32)) (wo : (Nat → Int32)) (th : (Nat → Bool)) (ow : (Nat → Nat)) (ba : Nat) (mr : Nat) (s0 b0 : Nat) (hs0 : s0 < 3) (hb0 : b0 < 6) (how : oB th ow) (hu : mUsed th ow + mShr th ow b0 (some s0) ≤ 9) : smMv l D cA h (co, dn, fu, ct, vo, wo, th, ow, ba, mr) sz y_M_restore (.code y_M_restore b_M_restore 4 none) (rmL 2) [.int (nI s0), .int (nI b0)] (fun u' => u' = (co, dn, fu, ct, mVol vo wo s0 b0 4 0, wo, th, mPart th ow b0 (some s0) 3, ba, mr)) := by
  refine sm_mv (by decide) rfl (Nat.le_of_ble_eq_true rfl) ?_
  intro p e s m args below meth c C hr hsz I ls hl
  generalize smA cA h (co, dn, fu, ct, vo, wo, th, ow, ba, mr) sz = A at I ⊢
  have hl : lv_has ls 4 [(0, .ref (h 0)), (1, .int (nI s0)), (2, .int (nI b0))] := hl
  refine lv_aload_n C.1 C.2.1 d_M_restore_0 rfl (lv_at hl 0 rfl) ?_
  refine lv_iload_n C.1 C.2.1 d_M_restore_1 rfl (lv_at hl 2 rfl) ?_
  refine lv_iload_n C.1 C.2.1 d_M_restore_2 rfl (lv_at hl 1 rfl) ?_
  refine lv_iconst (v := nI 3) C.1 C.2.1 d_M_restore_3 (by decide) ?_
  refine sm_cv C I (c_M_part l D cA h _ co dn fu ct vo wo th ow ba mr b0 (some s0) (by omega) (fun j e => by cases e; omega) 3 (by omega) how hu) lk_M63 rfl rfl ⟨by decide, by decide⟩ ⟨Nat.zero_le _, Nat.zero_le _⟩ rfl hl.1 (rest := []) rfl (Nat.le_of_ble_eq_true rfl) d_M_restore_4 (fun u' H locs w4 I => ?_)
  obtain rfl := w4
  refine lv_iconst (v := nI 0) C.1 C.2.1 d_M_restore_7 (by decide) ?_
  refine lv_istore_n (lv' := [(3, .int (nI 0)), (0, .ref (h 0)), (1, .int (nI s0)), (2, .int (nI b0))]) C.1 C.2.1 d_M_restore_8 rfl hl (by decide) rfl (fun ls hl => ?_)
  exact lp_M_restore_9 C hr s0 b0 hs0 hb0 how hu  _ 0 vo (mPart th ow b0 (some s0) 3) (Nat.lt_succ_self _) (by omega) rfl rfl _ _ I ls (lv_sub hl [1, 2, 3, 0] rfl)
set_option maxHeartbeats 4000000 in
set_option maxRecDepth 100000 in
theorem lp_M_restoreFrom_5 {p : Program} {l : Launch} {e : Env} {s : State} {m : MethodId} {args : Array Value} {below : List Frame} {meth : Method} {c : Code} {D : va_G} {cA : Nat → ClassId} {A : Nat → Prop} {h : Nat → Nat} {co : Nat} {dn : Bool} {fu : Option Nat} {ct : Nat} {vo : (Nat → Int32)} {wo : (Nat → Int32)} {th : (Nat → Bool)} {ow : (Nat → Nat)} {ba : Nat} {mr : Nat} (C : gC p s m args meth c b_M_restoreFrom 5 R_M) (hr : meth.sig.returnType = (some .int)) (s0 f0 : Nat) (hs0 : s0 < 3) (hf0 : f0 ≤ 6) (hth : th s0 = true) (how : oB th ow) (hu : mUsed th ow + mNd th ow s0 (6 - f0) f0 ≤ 9)   : ∀ (fuel : Nat) (b : Nat) (a : Nat) (vov : Nat → Int32) (owv : Nat → Nat), 6 - b < fuel → b ≤ 6 → mRest th wo s0 (6 - f0) f0 0 vo ow = mRest th wo s0 (6 - b) b a vov owv → oB th owv → mUsed th owv + mNd th owv s0 (6 - b) b ≤ 9 → ∀ (H : Heap) (locs : List Loc), smI D cA A s h (co, dn, fu, ct, vov, wo, th, owv, ba, mr) H locs → ∀ (ls : Array Slot), lv_has ls 5 [(0, .ref (h 0)), (1, .int (nI s0)), (3, .int (nI a)), (4, .int (nI b))] → W p l e (rmL 3) s m args below meth c H locs 0 0 (MQ below (va_Qi (fun r u' => ∃ n vo' ow', mRest th wo s0 (6 - f0) f0 0 vo ow = (n, vo', ow') ∧ r = nI n ∧ u' = (co, dn, fu, ct, vo', wo, th, ow', ba, mr)) (smAt D cA A h) A) args s 0 0 A) (F0 m 5 ls []) := by
  intro fuel
  induction fuel with
  | zero =>
    intro _ _ _ _ hfuel
    exact absurd hfuel (Nat.not_lt_zero _)
  | succ fuel ih =>
    intro b a vov owv hfuel hi hR hv hu2 H locs I ls hl
    refine lv_iload C.1 C.2.1 d_M_restoreFrom_5 (lv_at hl 3 rfl) ?_
    refine lv_bipush (v := nI 6) C.1 C.2.1 d_M_restoreFrom_7 (by decide) ?_
    refine n_icmp_ge C.1 C.2.1 (a := b) (b := 6) (tgt := 38) (by omega) (by omega) d_M_restoreFrom_9 (by decide) (fun q9 => ?_) (fun q9 => ?_)
    · refine lv_iload_n C.1 C.2.1 d_M_restoreFrom_38 rfl (lv_at hl 2 rfl) ?_
      exact sm_ri (v := nI a) C hr I ⟨a, vov, owv, hR.trans (by rw [show 6 - b = 0 by omega]; rfl), rfl, rfl⟩ d_M_restoreFrom_39
    · refine lv_aload_n C.1 C.2.1 d_M_restoreFrom_12 rfl (lv_at hl 0 rfl) ?_
      refine lv_iload_n C.1 C.2.1 d_M_restoreFrom_13 rfl (lv_at hl 1 rfl) ?_
      refine lv_iload C.1 C.2.1 d_M_restoreFrom_14 (lv_at hl 3 rfl) ?_
      refine sm_ci C I (c_M_has l D cA h _ co dn fu ct vov wo th owv ba mr s0 b (by omega) (by omega) (hv.sb (by omega) (by omega) hth)) lk_M73 rfl rfl ⟨by decide, by decide⟩ ⟨Nat.zero_le _, Nat.zero_le _⟩ rfl hl.1 (rest := []) rfl (Nat.le_of_ble_eq_true rfl) d_M_restoreFrom_16 (fun r u' H locs w16 I => ?_)
      obtain ⟨rfl, rfl⟩ := w16
      refine n_ifeq (b := mHas owv s0 b) (tgt := 32) C.1 C.2.1 d_M_restoreFrom_19 (by decide) (fun q19 => ?_) (fun q19 => ?_)
      · refine lv_iinc (v := nI (b + 1)) (lv' := [(4, .int (nI (b + 1))), (0, .ref (h 0)), (1, .int (nI s0)), (3, .int (nI a))]) C.1 C.2.1 d_M_restoreFrom_32 hl (k := 3) rfl (by rw [show nI (b + 1) = nI b + nI 1 from (nI_add _ _).symm]; rfl) (by decide) rfl (fun ls hl => ?_)
        refine lv_goto (tgt := 5) C.1 C.2.1 d_M_restoreFrom_35 (by decide) ?_
        exact ih (b + 1) a vov owv (by omega) (by omega) (by rw [hR, show 6 - b = (6 - (b + 1)) + 1 by omega]; first | exact hrs | exact mRest_no q19) (by first | exact hnp.1 | exact hv) (by first | exact hnp.2 | (rw [show 6 - b = (6 - (b + 1)) + 1 by omega, mNd_no q19] at hu2; exact hu2)) _ _ I ls (lv_sub hl [1, 2, 3, 0] rfl)
      · have hu3 : mUsed th owv + (mShr th owv b (some s0) + mNd th owv s0 (6 - (b + 1)) (b + 1)) ≤ 9 := by rw [show 6 - b = (6 - (b + 1)) + 1 by omega, mNd_yes q19] at hu2; exact hu2
        have hnp := mNd_part (many := 3) (show b < 6 by omega) hv hu3
        have hrs := mRest_yes (th := th) (n := 6 - (b + 1)) (a := a) (vo := vov) (wo := wo) q19
        refine lv_aload_n C.1 C.2.1 d_M_restoreFrom_22 rfl (lv_at hl 0 rfl) ?_
        refine lv_iload_n C.1 C.2.1 d_M_restoreFrom_23 rfl (lv_at hl 1 rfl) ?_
        refine lv_iload C.1 C.2.1 d_M_restoreFrom_24 (lv_at hl 3 rfl) ?_
        refine sm_cv C I (c_M_restore l D cA h _ co dn fu ct vov wo th owv ba mr s0 b (by omega) (by omega) hv (by omega)) lk_M76 rfl rfl ⟨by decide, by decide⟩ ⟨Nat.zero_le _, Nat.zero_le _⟩ rfl hl.1 (rest := []) rfl (Nat.le_of_ble_eq_true rfl) d_M_restoreFrom_26 (fun u' H locs w26 I => ?_)
        obtain rfl := w26
        refine lv_iinc (v := nI (a + 1)) (lv' := [(3, .int (nI (a + 1))), (0, .ref (h 0)), (1, .int (nI s0)), (4, .int (nI b))]) C.1 C.2.1 d_M_restoreFrom_29 hl (k := 2) rfl (by rw [show nI (a + 1) = nI a + nI 1 from (nI_add _ _).symm]; rfl) (by decide) rfl (fun ls hl => ?_)
        refine lv_iinc (v := nI (b + 1)) (lv' := [(4, .int (nI (b + 1))), (3, .int (nI (a + 1))), (0, .ref (h 0)), (1, .int (nI s0))]) C.1 C.2.1 d_M_restoreFrom_32 hl (k := 3) rfl (by rw [show nI (b + 1) = nI b + nI 1 from (nI_add _ _).symm]; rfl) (by decide) rfl (fun ls hl => ?_)
        refine lv_goto (tgt := 5) C.1 C.2.1 d_M_restoreFrom_35 (by decide) ?_
        exact ih (b + 1) (a + 1) (mVol vov wo s0 b 4 0) (mPart th owv b (some s0) 3) (by omega) (by omega) (by rw [hR, show 6 - b = (6 - (b + 1)) + 1 by omega]; first | exact hrs | exact mRest_no q19) (by first | exact hnp.1 | exact hv) (by first | exact hnp.2 | (rw [show 6 - b = (6 - (b + 1)) + 1 by omega, mNd_no q19] at hu2; exact hu2)) _ _ I ls (lv_sub hl [2, 3, 1, 0] rfl)
set_option maxHeartbeats 4000000 in
set_option maxRecDepth 100000 in
/-- R_M.restoreFrom -/
theorem c_M_restoreFrom (l : Launch) (D : va_G) (cA : Nat → ClassId) (h : Nat → Nat) (sz : Nat) (co : Nat) (dn : Bool) (fu : Option Nat) (ct : Nat) (vo : (Nat → Int32)) (wo : (Nat → Int32)) (th : (Nat → Bool)) (ow : (Nat → Nat)) (ba : Nat) (mr : Nat) (s0 f0 : Nat) (hs0 : s0 < 3) (hf0 : f0 ≤ 6) (hth : th s0 = true) (how : oB th ow) (hu : mUsed th ow + mNd th ow s0 (6 - f0) f0 ≤ 9) : smMi l D cA h (co, dn, fu, ct, vo, wo, th, ow, ba, mr) sz y_M_restoreFrom (.code y_M_restoreFrom b_M_restoreFrom 5 (some .int)) (rmL 3) [.int (nI s0), .int (nI f0)] (fun r u' => ∃ n vo' ow', mRest th wo s0 (6 - f0) f0 0 vo ow = (n, vo', ow') ∧ r = nI n ∧ u' = (co, dn, fu, ct, vo', wo, th, ow', ba, mr)) := by
  refine sm_mi (by decide) rfl (Nat.le_of_ble_eq_true rfl) ?_
  intro p e s m args below meth c C hr hsz I ls hl
  generalize smA cA h (co, dn, fu, ct, vo, wo, th, ow, ba, mr) sz = A at I ⊢
  have hl : lv_has ls 5 [(0, .ref (h 0)), (1, .int (nI s0)), (2, .int (nI f0))] := hl
  refine lv_iconst (v := nI 0) C.1 C.2.1 d_M_restoreFrom_0 (by decide) ?_
  refine lv_istore_n (lv' := [(3, .int (nI 0)), (0, .ref (h 0)), (1, .int (nI s0)), (2, .int (nI f0))]) C.1 C.2.1 d_M_restoreFrom_1 rfl hl (by decide) rfl (fun ls hl => ?_)
  refine lv_iload_n C.1 C.2.1 d_M_restoreFrom_2 rfl (lv_at hl 3 rfl) ?_
  refine lv_istore (lv' := [(4, .int (nI f0)), (3, .int (nI 0)), (0, .ref (h 0)), (1, .int (nI s0)), (2, .int (nI f0))]) C.1 C.2.1 d_M_restoreFrom_3 hl (by decide) rfl (fun ls hl => ?_)
  exact lp_M_restoreFrom_5 C hr s0 f0 hs0 hf0 hth how hu  _ f0 0 vo ow (Nat.lt_succ_self _) (by omega) rfl how hu _ _ I ls (lv_sub hl [2, 3, 1, 0] rfl)
