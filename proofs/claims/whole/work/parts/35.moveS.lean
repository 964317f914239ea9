set_option maxHeartbeats 4000000 in
set_option maxRecDepth 100000 in
theorem lp_S_copyBlock_16 {p : Program} {l : Launch} {e : Env} {s : State} {m : MethodId} {args : Array Value} {below : List Frame} {meth : Method} {c : Code} {D : va_G} {cA : Nat → ClassId} {A : Nat → Prop} {h : Nat → Nat} {bw : (Nat → Int32)} {cw : (Nat → Int32)} {ts : (Nat → Int32)} {tb : (Nat → Int32)} {st : (Nat → Int32)} {ro : Nat} {mr : Nat} {la : Nat} {fu : Option Nat} {dn : Bool} {wr : Nat} (C : gC p s m args meth c b_S_copyBlock 7 R_S) (X : gX l c s A) (hlt : l.stackTraces = false) (hr : meth.sig.returnType = none) (s0 b0 : Nat) (rep0 : Option Nat) (w0 : Int32) (hs0 : s0 < 3) (hb0 : b0 < 6) (hrep : ∀ j, rep0 = some j → j < 4) (hfu : ∀ k, fu = some k → k < 2 ^ 31) (c1 : Nat) (hc1l : c1 < 9)  : ∀ (fuel : Nat) (i : Nat) (cwv : Nat → Int32) (fuv : Option Nat) (wrv : Nat), 4 - i < fuel → i ≤ 4 → cCopy s0 b0 rep0 w0 (bw, cw, ts, tb, st, ro, mr, la, fu, dn, wr) = cB (cFor (fun j => cPutC c1 j (if rep0 = some j then w0 else bw (b0 * 4 + j))) (4 - i) i) (fun _ => cPutT c1 (st s0) (nI b0)) (bw, cwv, ts, tb, st, ro, mr, la, fuv, dn, wrv) → (∀ k, fuv = some k → k < 2 ^ 31) → ∀ (H : Heap) (locs : List Loc), svI D cA A s h (bw, cwv, ts, tb, st, ro, mr, la, fuv, dn, wrv) H locs → ∀ (ls : Array Slot), lv_has ls 7 [(0, .ref (h 0)), (1, .int (nI s0)), (2, .int (nI b0)), (3, .int (oI rep0)), (4, .int w0), (5, .int (nI c1)), (6, .int (nI i))] → W p l e (rmX 2) s m args below meth c H locs 0 0 (wx_MQ below (wx_Q (fun v u' => v = none ∧ cCopy s0 b0 rep0 w0 (bw, cw, ts, tb, st, ro, mr, la, fu, dn, wr) = (.ok (), u') ∧ fB u') (fun k u' => cCopy s0 b0 rep0 w0 (bw, cw, ts, tb, st, ro, mr, la, fu, dn, wr) = (.error k, u')) (svAt D cA A h) A) args s 1 6 A) (F0 m 16 ls []) := by
  intro fuel
  induction fuel with
  | zero =>
    intro _ _ _ _ hfuel
    exact absurd hfuel (Nat.not_lt_zero _)
  | succ fuel ih =>
    intro i cwv fuv wrv hfuel hi hR hfv H locs I ls hl
    refine lv_iload C.1 C.2.1 d_S_copyBlock_16 (lv_at hl 6 rfl) ?_
    refine lv_iconst (v := nI 4) C.1 C.2.1 d_S_copyBlock_18 (by decide) ?_
    refine n_icmp_ge C.1 C.2.1 (a := i) (b := 4) (tgt := 58) (by omega) (by omega) d_S_copyBlock_19 (by decide) (fun q19 => ?_) (fun q19 => ?_)
    · refine lv_aload_n C.1 C.2.1 d_S_copyBlock_58 rfl (lv_at hl 0 rfl) ?_
      refine lv_iload C.1 C.2.1 d_S_copyBlock_59 (lv_at hl 5 rfl) ?_
      refine lv_aload_n C.1 C.2.1 d_S_copyBlock_61 rfl (lv_at hl 0 rfl) ?_
      refine sv_g4 C I d_S_copyBlock_62 ?_
      refine lv_iload_n C.1 C.2.1 d_S_copyBlock_65 rfl (lv_at hl 1 rfl) ?_
      refine sv_l5 C I (k := s0) (by omega) d_S_copyBlock_66 ?_
      refine lv_iload_n C.1 C.2.1 d_S_copyBlock_67 rfl (lv_at hl 2 rfl) ?_
      refine sv_xc C X I (c_S_putTag l hlt D cA h _ bw cwv ts tb st ro mr la fuv dn wrv c1 (st s0) b0 (by omega) hfv) lk_S158 rfl rfl ⟨by decide, by decide⟩ ⟨by decide, by decide⟩ rfl hl.1 (rest := []) rfl (Nat.le_of_ble_eq_true rfl) d_S_copyBlock_68 (fun k u' w68 => hR.trans (by rw [show 4 - i = 0 by omega]; exact cFor_z.trans w68)) (fun v u' H locs w68 I => ?_)
      obtain ⟨rfl, z68, hfb⟩ := w68
      exact sv_xrv C hr I ⟨rfl, hR.trans (by rw [show 4 - i = 0 by omega]; exact cFor_z.trans z68), hfb⟩ d_S_copyBlock_71
    · refine lv_aload_n C.1 C.2.1 d_S_copyBlock_22 rfl (lv_at hl 0 rfl) ?_
      refine lv_iload C.1 C.2.1 d_S_copyBlock_23 (lv_at hl 5 rfl) ?_
      refine lv_iload C.1 C.2.1 d_S_copyBlock_25 (lv_at hl 6 rfl) ?_
      refine lv_iload C.1 C.2.1 d_S_copyBlock_27 (lv_at hl 6 rfl) ?_
      refine lv_iload_n C.1 C.2.1 d_S_copyBlock_29 rfl (lv_at hl 3 rfl) ?_
      refine lv_icmp_ne (x := nI i) (y := oI rep0) (tgt := 38) C.1 C.2.1 d_S_copyBlock_30 (by decide) (fun q30 => ?_) (fun q30 => ?_)
      · have hv : (if rep0 = some i then w0 else bw (b0 * 4 + i)) = bw (b0 * 4 + i) := if_neg (fun z => q30 ((oI_n (by omega) (fun j e => Nat.lt_trans (hrep j e) (by decide))).mpr z))
        refine lv_aload_n C.1 C.2.1 d_S_copyBlock_38 rfl (lv_at hl 0 rfl) ?_
        refine sv_g0 C I d_S_copyBlock_39 ?_
        refine lv_iload_n C.1 C.2.1 d_S_copyBlock_42 rfl (lv_at hl 2 rfl) ?_
        refine lv_iconst (v := nI 4) C.1 C.2.1 d_S_copyBlock_43 (by decide) ?_
        refine n_imul C.1 C.2.1 (a := b0) (b := 4) d_S_copyBlock_44 ?_
        refine lv_iload C.1 C.2.1 d_S_copyBlock_45 (lv_at hl 6 rfl) ?_
        refine n_iadd C.1 C.2.1 (a := b0 * 4) (b := i) d_S_copyBlock_47 ?_
        refine sv_l1 C I (k := (b0 * 4) + i) (by omega) d_S_copyBlock_48 ?_
        refine sv_xc C X I (c_S_putCopyWord l hlt D cA h _ bw cwv ts tb st ro mr la fuv dn wrv c1 i (bw ((b0 * 4) + i)) (by omega) (by omega) hfv) lk_S79 rfl rfl ⟨by decide, by decide⟩ ⟨by decide, by decide⟩ rfl hl.1 (rest := []) rfl (Nat.le_of_ble_eq_true rfl) d_S_copyBlock_49 (fun k u' w49 => hR.trans (by rw [show 4 - i = (3 - i) + 1 by omega]; exact cB_err (cFor_err (by show cPutC c1 i (if rep0 = some i then w0 else bw (b0 * 4 + i)) _ = _; rw [hv]; exact w49)))) (fun v u' H locs w49 I => ?_)
        obtain ⟨rfl, z49, hfb⟩ := w49
        obtain ⟨fu2, rfl⟩ := putC_inv z49
        refine lv_iinc (v := nI (i + 1)) (lv' := [(6, .int (nI (i + 1))), (0, .ref (h 0)), (1, .int (nI s0)), (2, .int (nI b0)), (3, .int (oI rep0)), (4, .int w0), (5, .int (nI c1))]) C.1 C.2.1 d_S_copyBlock_52 hl (k := 6) rfl (by rw [show nI (i + 1) = nI i + nI 1 from (nI_add _ _).symm]; rfl) (by decide) rfl (fun ls hl => ?_)
        refine lv_goto (tgt := 16) C.1 C.2.1 d_S_copyBlock_55 (by decide) ?_
        exact ih (i + 1) (upd cwv (c1 * 4 + i) (bw ((b0 * 4) + i))) fu2 (wrv + 1) (by omega) (by omega) (by rw [hR, show 4 - i = (4 - (i + 1)) + 1 by omega]; exact cB_eq (cFor_ok (by show cPutC c1 i (if rep0 = some i then w0 else bw (b0 * 4 + i)) _ = _; rw [hv]; exact z49))) hfb _ _ I ls (lv_sub hl [1, 2, 3, 4, 5, 6, 0] rfl)
      · have hv : (if rep0 = some i then w0 else bw (b0 * 4 + i)) = w0 := if_pos ((oI_n (by omega) (fun j e => Nat.lt_trans (hrep j e) (by decide))).mp q30)
        refine lv_iload C.1 C.2.1 d_S_copyBlock_33 (lv_at hl 4 rfl) ?_
        refine lv_goto (tgt := 49) C.1 C.2.1 d_S_copyBlock_35 (by decide) ?_
        refine sv_xc C X I (c_S_putCopyWord l hlt D cA h _ bw cwv ts tb st ro mr la fuv dn wrv c1 i w0 (by omega) (by omega) hfv) lk_S79 rfl rfl ⟨by decide, by decide⟩ ⟨by decide, by decide⟩ rfl hl.1 (rest := []) rfl (Nat.le_of_ble_eq_true rfl) d_S_copyBlock_49 (fun k u' w49 => hR.trans (by rw [show 4 - i = (3 - i) + 1 by omega]; exact cB_err (cFor_err (by show cPutC c1 i (if rep0 = some i then w0 else bw (b0 * 4 + i)) _ = _; rw [hv]; exact w49)))) (fun v u' H locs w49 I => ?_)
        obtain ⟨rfl, z49, hfb⟩ := w49
        obtain ⟨fu2, rfl⟩ := putC_inv z49
        refine lv_iinc (v := nI (i + 1)) (lv' := [(6, .int (nI (i + 1))), (0, .ref (h 0)), (1, .int (nI s0)), (2, .int (nI b0)), (3, .int (oI rep0)), (4, .int w0), (5, .int (nI c1))]) C.1 C.2.1 d_S_copyBlock_52 hl (k := 6) rfl (by rw [show nI (i + 1) = nI i + nI 1 from (nI_add _ _).symm]; rfl) (by decide) rfl (fun ls hl => ?_)
        refine lv_goto (tgt := 16) C.1 C.2.1 d_S_copyBlock_55 (by decide) ?_
        exact ih (i + 1) (upd cwv (c1 * 4 + i) w0) fu2 (wrv + 1) (by omega) (by omega) (by rw [hR, show 4 - i = (4 - (i + 1)) + 1 by omega]; exact cB_eq (cFor_ok (by show cPutC c1 i (if rep0 = some i then w0 else bw (b0 * 4 + i)) _ = _; rw [hv]; exact z49))) hfb _ _ I ls (lv_sub hl [1, 2, 3, 4, 5, 6, 0] rfl)
set_option maxHeartbeats 4000000 in
set_option maxRecDepth 100000 in
/-- R_S.copyBlock -/
theorem c_S_copyBlock (l : Launch) (hlt : l.stackTraces = false) (D : va_G) (cA : Nat → ClassId) (h : Nat → Nat) (sz : Nat) (bw : (Nat → Int32)) (cw : (Nat → Int32)) (ts : (Nat → Int32)) (tb : (Nat → Int32)) (st : (Nat → Int32)) (ro : Nat) (mr : Nat) (la : Nat) (fu : Option Nat) (dn : Bool) (wr : Nat) (s0 b0 : Nat) (rep0 : Option Nat) (w0 : Int32) (hs0 : s0 < 3) (hb0 : b0 < 6) (hrep : ∀ j, rep0 = some j → j < 4) (hfu : ∀ k, fu = some k → k < 2 ^ 31) : svX l D cA h (bw, cw, ts, tb, st, ro, mr, la, fu, dn, wr) sz y_S_copyBlock (.code y_S_copyBlock b_S_copyBlock 7 none) (rmX 2) [.int (nI s0), .int (nI b0), .int (oI rep0), .int w0] (fun v u' => v = none ∧ cCopy s0 b0 rep0 w0 (bw, cw, ts, tb, st, ro, mr, la, fu, dn, wr) = (.ok (), u') ∧ fB u') (fun k u' => cCopy s0 b0 rep0 w0 (bw, cw, ts, tb, st, ro, mr, la, fu, dn, wr) = (.error k, u')) := by
  refine sv_x hlt (by decide) rfl (Nat.le_of_ble_eq_true rfl) ?_
  intro p e s m args below meth c C X hr hsz I ls hl
  generalize svA cA h (bw, cw, ts, tb, st, ro, mr, la, fu, dn, wr) sz = A at I X ⊢
  have hl : lv_has ls 7 [(0, .ref (h 0)), (1, .int (nI s0)), (2, .int (nI b0)), (3, .int (oI rep0)), (4, .int w0)] := hl
  refine lv_aload_n C.1 C.2.1 d_S_copyBlock_0 rfl (lv_at hl 0 rfl) ?_
  refine sv_ci C I (c_S_lowestFree l D cA h _ bw cw ts tb st ro mr la fu dn wr) lk_S155 rfl rfl ⟨by decide, by decide⟩ ⟨Nat.zero_le _, Nat.zero_le _⟩ rfl hl.1 (rest := []) rfl (Nat.le_of_ble_eq_true rfl) d_S_copyBlock_1 (fun r u' H locs w1 I => ?_)
  obtain ⟨rfl, rfl⟩ := w1
  rcases hc1 : cLF ts st with _ | c1
  · refine lv_istore (lv' := [(5, .int (oI none)), (0, .ref (h 0)), (1, .int (nI s0)), (2, .int (nI b0)), (3, .int (oI rep0)), (4, .int w0)]) C.1 C.2.1 d_S_copyBlock_4 hl (by decide) rfl (fun ls hl => ?_)
    refine lv_iload C.1 C.2.1 d_S_copyBlock_6 (lv_at hl 0 rfl) ?_
    refine lv_iconst (v := oI none) C.1 C.2.1 d_S_copyBlock_8 (by decide) ?_
    refine lv_icmp_ne (x := oI none) (y := oI none) (tgt := 13) C.1 C.2.1 d_S_copyBlock_9 (by decide) (fun q9 => absurd rfl q9) (fun q9 => ?_)
    exact sv_xrv C hr I ⟨rfl, cCopy_none hc1, hfu⟩ d_S_copyBlock_12
  · have hc1l := cLF_lt hc1
    refine lv_istore (lv' := [(5, .int (nI c1)), (0, .ref (h 0)), (1, .int (nI s0)), (2, .int (nI b0)), (3, .int (oI rep0)), (4, .int w0)]) C.1 C.2.1 d_S_copyBlock_4 hl (by decide) rfl (fun ls hl => ?_)
    refine lv_iload C.1 C.2.1 d_S_copyBlock_6 (lv_at hl 0 rfl) ?_
    refine lv_iconst (v := oI none) C.1 C.2.1 d_S_copyBlock_8 (by decide) ?_
    refine lv_icmp_ne (x := nI c1) (y := oI none) (tgt := 13) C.1 C.2.1 d_S_copyBlock_9 (by decide) (fun q9 => ?_) (fun q9 => absurd ((oI_n (o := none) (by omega) (fun _ e => by cases e)).mp q9) (fun z => by cases z))
    refine lv_iconst (v := nI 0) C.1 C.2.1 d_S_copyBlock_13 (by decide) ?_
    refine lv_istore (lv' := [(6, .int (nI 0)), (5, .int (nI c1)), (0, .ref (h 0)), (1, .int (nI s0)), (2, .int (nI b0)), (3, .int (oI rep0)), (4, .int w0)]) C.1 C.2.1 d_S_copyBlock_14 hl (by decide) rfl (fun ls hl => ?_)
    exact lp_S_copyBlock_16 C X hlt hr s0 b0 rep0 w0 hs0 hb0 hrep hfu c1 hc1l _ 0 cw fu wr (Nat.lt_succ_self _) (by omega) (cCopy_some hc1) hfu _ _ I ls (lv_sub hl [2, 3, 4, 5, 6, 1, 0] rfl)
set_option maxHeartbeats 4000000 in
set_option maxRecDepth 100000 in
theorem lp_S_putBlockBack_2 {p : Program} {l : Launch} {e : Env} {s : State} {m : MethodId} {args : Array Value} {below : List Frame} {meth : Method} {c : Code} {D : va_G} {cA : Nat → ClassId} {A : Nat → Prop} {h : Nat → Nat} {bw : (Nat → Int32)} {cw : (Nat → Int32)} {ts : (Nat → Int32)} {tb : (Nat → Int32)} {st : (Nat → Int32)} {ro : Nat} {mr : Nat} {la : Nat} {fu : Option Nat} {dn : Bool} {wr : Nat} (C : gC p s m args meth c b_S_putBlockBack 4 R_S) (X : gX l c s A) (hlt : l.stackTraces = false) (hr : meth.sig.returnType = none) (b0 c0 : Nat) (hb0 : b0 < 6) (hc0 : c0 < 9) (hfu : ∀ k, fu = some k → k < 2 ^ 31)   : ∀ (fuel : Nat) (i : Nat) (bwv : Nat → Int32) (fuv : Option Nat) (wrv : Nat), 4 - i < fuel → i ≤ 4 → cBack b0 c0 (bw, cw, ts, tb, st, ro, mr, la, fu, dn, wr) = cFor (cBk b0 c0) (4 - i) i (bwv, cw, ts, tb, st, ro, mr, la, fuv, dn, wrv) → (∀ k, fuv = some k → k < 2 ^ 31) → ∀ (H : Heap) (locs : List Loc), svI D cA A s h (bwv, cw, ts, tb, st, ro, mr, la, fuv, dn, wrv) H locs → ∀ (ls : Array Slot), lv_has ls 4 [(0, .ref (h 0)), (1, .int (nI b0)), (2, .int (nI c0)), (3, .int (nI i))] → W p l e (rmX 2) s m args below meth c H locs 0 0 (wx_MQ below (wx_Q (fun v u' => v = none ∧ cBack b0 c0 (bw, cw, ts, tb, st, ro, mr, la, fu, dn, wr) = (.ok (), u') ∧ fB u') (fun k u' => cBack b0 c0 (bw, cw, ts, tb, st, ro, mr, la, fu, dn, wr) = (.error k, u')) (svAt D cA A h) A) args s 1 6 A) (F0 m 2 ls []) := by
  intro fuel
  induction fuel with
  | zero =>
    intro _ _ _ _ hfuel
    exact absurd hfuel (Nat.not_lt_zero _)
  | succ fuel ih =>
    intro i bwv fuv wrv hfuel hi hR hfv H locs I ls hl
    refine lv_iload_n C.1 C.2.1 d_S_putBlockBack_2 rfl (lv_at hl 3 rfl) ?_
    refine lv_iconst (v := nI 4) C.1 C.2.1 d_S_putBlockBack_3 (by decide) ?_
    refine n_icmp_ge C.1 C.2.1 (a := i) (b := 4) (tgt := 29) (by omega) (by omega) d_S_putBlockBack_4 (by decide) (fun q4 => ?_) (fun q4 => ?_)
    · exact sv_xrv C hr I ⟨rfl, hR.trans (by rw [show 4 - i = 0 by omega]; rfl), hfv⟩ d_S_putBlockBack_29
    · refine lv_aload_n C.1 C.2.1 d_S_putBlockBack_7 rfl (lv_at hl 0 rfl) ?_
      refine lv_iload_n C.1 C.2.1 d_S_putBlockBack_8 rfl (lv_at hl 1 rfl) ?_
      refine lv_iload_n C.1 C.2.1 d_S_putBlockBack_9 rfl (lv_at hl 3 rfl) ?_
      refine lv_aload_n C.1 C.2.1 d_S_putBlockBack_10 rfl (lv_at hl 0 rfl) ?_
      refine sv_g1 C I d_S_putBlockBack_11 ?_
      refine lv_iload_n C.1 C.2.1 d_S_putBlockBack_14 rfl (lv_at hl 2 rfl) ?_
      refine lv_iconst (v := nI 4) C.1 C.2.1 d_S_putBlockBack_15 (by decide) ?_
      refine n_imul C.1 C.2.1 (a := c0) (b := 4) d_S_putBlockBack_16 ?_
      refine lv_iload_n C.1 C.2.1 d_S_putBlockBack_17 rfl (lv_at hl 3 rfl) ?_
      refine n_iadd C.1 C.2.1 (a := c0 * 4) (b := i) d_S_putBlockBack_18 ?_
      refine sv_l2 C I (k := (c0 * 4) + i) (by omega) d_S_putBlockBack_19 ?_
      refine sv_xc C X I (c_S_putBlockWord l hlt D cA h _ bwv cw ts tb st ro mr la fuv dn wrv b0 i (cw ((c0 * 4) + i)) (by omega) (by omega) hfv) lk_S46 rfl rfl ⟨by decide, by decide⟩ ⟨by decide, by decide⟩ rfl hl.1 (rest := []) rfl (Nat.le_of_ble_eq_true rfl) d_S_putBlockBack_20 (fun k u' w20 => hR.trans (by rw [show 4 - i = (3 - i) + 1 by omega]; exact cFor_err (f := cBk b0 c0) w20)) (fun v u' H locs w20 I => ?_)
      obtain ⟨rfl, z20, hfb⟩ := w20
      obtain ⟨fu2, rfl⟩ := putB_inv z20
      refine lv_iinc (v := nI (i + 1)) (lv' := [(3, .int (nI (i + 1))), (0, .ref (h 0)), (1, .int (nI b0)), (2, .int (nI c0))]) C.1 C.2.1 d_S_putBlockBack_23 hl (k := 3) rfl (by rw [show nI (i + 1) = nI i + nI 1 from (nI_add _ _).symm]; rfl) (by decide) rfl (fun ls hl => ?_)
      refine lv_goto (tgt := 2) C.1 C.2.1 d_S_putBlockBack_26 (by decide) ?_
      exact ih (i + 1) (upd bwv (b0 * 4 + i) (cw ((c0 * 4) + i))) fu2 (wrv + 1) (by omega) (by omega) (by rw [hR, show 4 - i = (4 - (i + 1)) + 1 by omega]; exact cFor_ok (f := cBk b0 c0) z20) hfb _ _ I ls (lv_sub hl [1, 2, 3, 0] rfl)
set_option maxHeartbeats 4000000 in
set_option maxRecDepth 100000 in
/-- R_S.putBlockBack -/
theorem c_S_putBlockBack (l : Launch) (hlt : l.stackTraces = false) (D : va_G) (cA : Nat → ClassId) (h : Nat → Nat) (sz : Nat) (bw : (Nat → Int32)) (cw : (Nat → Int32)) (ts : (Nat → Int32)) (tb : (Nat → Int32)) (st : (Nat → Int32)) (ro : Nat) (mr : Nat) (la : Nat) (fu : Option Nat) (dn : Bool) (wr : Nat) (b0 c0 : Nat) (hb0 : b0 < 6) (hc0 : c0 < 9) (hfu : ∀ k, fu = some k → k < 2 ^ 31) : svX l D cA h (bw, cw, ts, tb, st, ro, mr, la, fu, dn, wr) sz y_S_putBlockBack (.code y_S_putBlockBack b_S_putBlockBack 4 none) (rmX 2) [.int (nI b0), .int (nI c0)] (fun v u' => v = none ∧ cBack b0 c0 (bw, cw, ts, tb, st, ro, mr, la, fu, dn, wr) = (.ok (), u') ∧ fB u') (fun k u' => cBack b0 c0 (bw, cw, ts, tb, st, ro, mr, la, fu, dn, wr) = (.error k, u')) := by
  refine sv_x hlt (by decide) rfl (Nat.le_of_ble_eq_true rfl) ?_
  intro p e s m args below meth c C X hr hsz I ls hl
  generalize svA cA h (bw, cw, ts, tb, st, ro, mr, la, fu, dn, wr) sz = A at I X ⊢
  have hl : lv_has ls 4 [(0, .ref (h 0)), (1, .int (nI b0)), (2, .int (nI c0))] := hl
  refine lv_iconst (v := nI 0) C.1 C.2.1 d_S_putBlockBack_0 (by decide) ?_
  refine lv_istore_n (lv' := [(3, .int (nI 0)), (0, .ref (h 0)), (1, .int (nI b0)), (2, .int (nI c0))]) C.1 C.2.1 d_S_putBlockBack_1 rfl hl (by decide) rfl (fun ls hl => ?_)
  exact lp_S_putBlockBack_2 C X hlt hr b0 c0 hb0 hc0 hfu  _ 0 bw fu wr (Nat.lt_succ_self _) (by omega) rfl hfu _ _ I ls (lv_sub hl [1, 2, 3, 0] rfl)
set_option maxHeartbeats 4000000 in
set_option maxRecDepth 100000 in
theorem lp_S_copyForSharers_4 {p : Program} {l : Launch} {e : Env} {s : State} {m : MethodId} {args : Array Value} {below : List Frame} {meth : Method} {c : Code} {D : va_G} {cA : Nat → ClassId} {A : Nat → Prop} {h : Nat → Nat} {bw : (Nat → Int32)} {cw : (Nat → Int32)} {ts : (Nat → Int32)} {tb : (Nat → Int32)} {st : (Nat → Int32)} {ro : Nat} {mr : Nat} {la : Nat} {fu : Option Nat} {dn : Bool} {wr : Nat} (C : gC p s m args meth c b_S_copyForSharers 4 R_S) (X : gX l c s A) (hlt : l.stackTraces = false) (hr : meth.sig.returnType = (some .int)) (b0 : Nat) (hb0 : b0 < 6) (hfu : ∀ k, fu = some k → k < 2 ^ 31)   : ∀ (fuel : Nat) (i : Nat) (a : Nat) (bwv : (Nat → Int32)) (cwv : (Nat → Int32)) (tsv : (Nat → Int32)) (tbv : (Nat → Int32)) (stv : (Nat → Int32)) (rov : Nat) (mrv : Nat) (lav : Nat) (fuv : Option Nat) (dnv : Bool) (wrv : Nat), 3 - i < fuel → i ≤ 3 → cCopies b0 (bw, cw, ts, tb, st, ro, mr, la, fu, dn, wr) = cSum (cCopyIf b0) (3 - i) i a (bwv, cwv, tsv, tbv, stv, rov, mrv, lav, fuv, dnv, wrv) → (∀ k, fuv = some k → k < 2 ^ 31) → ∀ (H : Heap) (locs : List Loc), svI D cA A s h (bwv, cwv, tsv, tbv, stv, rov, mrv, lav, fuv, dnv, wrv) H locs → ∀ (ls : Array Slot), lv_has ls 4 [(0, .ref (h 0)), (1, .int (nI b0)), (2, .int (nI a)), (3, .int (nI i))] → W p l e (rmX 3) s m args below meth c H locs 0 0 (wx_MQ below (wx_Q (fun v u' => ∃ r, v = some (.int (nI r)) ∧ cCopies b0 (bw, cw, ts, tb, st, ro, mr, la, fu, dn, wr) = (.ok r, u') ∧ fB u') (fun k u' => cCopies b0 (bw, cw, ts, tb, st, ro, mr, la, fu, dn, wr) = (.error k, u')) (svAt D cA A h) A) args s 1 6 A) (F0 m 4 ls []) := by
  intro fuel
  induction fuel with
  | zero =>
    intro _ _ _ _ _ _ _ _ _ _ _ _ _ hfuel
    exact absurd hfuel (Nat.not_lt_zero _)
  | succ fuel ih =>
    intro i a bwv cwv tsv tbv stv rov mrv lav fuv dnv wrv hfuel hi hR hfv H locs I ls hl
    refine lv_iload_n C.1 C.2.1 d_S_copyForSharers_4 rfl (lv_at hl 3 rfl) ?_
    refine lv_iconst (v := nI 3) C.1 C.2.1 d_S_copyForSharers_5 (by decide) ?_
    refine n_icmp_ge C.1 C.2.1 (a := i) (b := 3) (tgt := 35) (by omega) (by omega) d_S_copyForSharers_6 (by decide) (fun q6 => ?_) (fun q6 => ?_)
    · refine lv_iload_n C.1 C.2.1 d_S_copyForSharers_35 rfl (lv_at hl 2 rfl) ?_
      exact sv_xri (v := nI a) C hr I ⟨a, rfl, hR.trans (by rw [show 3 - i = 0 by omega]; rfl), hfv⟩ d_S_copyForSharers_36
    · refine lv_aload_n C.1 C.2.1 d_S_copyForSharers_9 rfl (lv_at hl 0 rfl) ?_
      refine lv_iload_n C.1 C.2.1 d_S_copyForSharers_10 rfl (lv_at hl 3 rfl) ?_
      refine lv_iload_n C.1 C.2.1 d_S_copyForSharers_11 rfl (lv_at hl 1 rfl) ?_
      refine sv_ci C I (c_S_shares l D cA h _ bwv cwv tsv tbv stv rov mrv lav fuv dnv wrv i b0 (by omega) (by omega)) lk_S152 rfl rfl ⟨by decide, by decide⟩ ⟨Nat.zero_le _, Nat.zero_le _⟩ rfl hl.1 (rest := []) rfl (Nat.le_of_ble_eq_true rfl) d_S_copyForSharers_12 (fun r u' H locs w12 I => ?_)
      obtain ⟨rfl, rfl⟩ := w12
      refine n_ifeq (b := cShares tsv tbv stv b0 i) (tgt := 29) C.1 C.2.1 d_S_copyForSharers_15 (by decide) (fun q15 => ?_) (fun q15 => ?_)
      · refine lv_iinc (v := nI (i + 1)) (lv' := [(3, .int (nI (i + 1))), (0, .ref (h 0)), (1, .int (nI b0)), (2, .int (nI a))]) C.1 C.2.1 d_S_copyForSharers_29 hl (k := 3) rfl (by rw [show nI (i + 1) = nI i + nI 1 from (nI_add _ _).symm]; rfl) (by decide) rfl (fun ls hl => ?_)
        refine lv_goto (tgt := 4) C.1 C.2.1 d_S_copyForSharers_32 (by decide) ?_
        exact ih (i + 1) a bwv cwv tsv tbv stv rov mrv lav fuv dnv wrv (by omega) (by omega) (by rw [hR, show 3 - i = (3 - (i + 1)) + 1 by omega]; first | exact cSum_ok (d := 0) (cCopyIf_no q15) | exact cSum_ok (d := 1) ((cCopyIf_yes q15).trans (cB_ok z23))) (by first | exact hfb | exact hfv) _ _ I ls (lv_sub hl [1, 2, 3, 0] rfl)
      · refine lv_aload_n C.1 C.2.1 d_S_copyForSharers_18 rfl (lv_at hl 0 rfl) ?_
        refine lv_iload_n C.1 C.2.1 d_S_copyForSharers_19 rfl (lv_at hl 3 rfl) ?_
        refine lv_iload_n C.1 C.2.1 d_S_copyForSharers_20 rfl (lv_at hl 1 rfl) ?_
        refine lv_iconst (v := oI none) C.1 C.2.1 d_S_copyForSharers_21 (by decide) ?_
        refine lv_iconst (v := nI 0) C.1 C.2.1 d_S_copyForSharers_22 (by decide) ?_
        refine sv_xc C X I (c_S_copyBlock l hlt D cA h _ bwv cwv tsv tbv stv rov mrv lav fuv dnv wrv i b0 none 0 (by omega) (by omega) (fun j e => by cases e) hfv) lk_S82 rfl rfl ⟨by decide, by decide⟩ ⟨by decide, by decide⟩ rfl hl.1 (rest := []) rfl (Nat.le_of_ble_eq_true rfl) d_S_copyForSharers_23 (fun k u' w23 => hR.trans (by rw [show 3 - i = (3 - (i + 1)) + 1 by omega]; exact cSum_err ((cCopyIf_yes q15).trans (cB_err w23)))) (fun v u' H locs w23 I => ?_)
        obtain ⟨rfl, z23, hfb⟩ := w23
        obtain ⟨bw_x, cw_x, ts_x, tb_x, st_x, ro_x, mr_x, la_x, fu_x, dn_x, wr_x⟩ := u'
        refine lv_iinc (v := nI (a + 1)) (lv' := [(2, .int (nI (a + 1))), (0, .ref (h 0)), (1, .int (nI b0)), (3, .int (nI i))]) C.1 C.2.1 d_S_copyForSharers_26 hl (k := 2) rfl (by rw [show nI (a + 1) = nI a + nI 1 from (nI_add _ _).symm]; rfl) (by decide) rfl (fun ls hl => ?_)
        refine lv_iinc (v := nI (i + 1)) (lv' := [(3, .int (nI (i + 1))), (2, .int (nI (a + 1))), (0, .ref (h 0)), (1, .int (nI b0))]) C.1 C.2.1 d_S_copyForSharers_29 hl (k := 3) rfl (by rw [show nI (i + 1) = nI i + nI 1 from (nI_add _ _).symm]; rfl) (by decide) rfl (fun ls hl => ?_)
        refine lv_goto (tgt := 4) C.1 C.2.1 d_S_copyForSharers_32 (by decide) ?_
        exact ih (i + 1) (a + 1) bw_x cw_x ts_x tb_x st_x ro_x mr_x la_x fu_x dn_x wr_x (by omega) (by omega) (by rw [hR, show 3 - i = (3 - (i + 1)) + 1 by omega]; first | exact cSum_ok (d := 0) (cCopyIf_no q15) | exact cSum_ok (d := 1) ((cCopyIf_yes q15).trans (cB_ok z23))) (by first | exact hfb | exact hfv) _ _ I ls (lv_sub hl [2, 3, 1, 0] rfl)
set_option maxHeartbeats 4000000 in
set_option maxRecDepth 100000 in
/-- R_S.copyForSharers -/
theorem c_S_copyForSharers (l : Launch) (hlt : l.stackTraces = false) (D : va_G) (cA : Nat → ClassId) (h : Nat → Nat) (sz : Nat) (bw : (Nat → Int32)) (cw : (Nat → Int32)) (ts : (Nat → Int32)) (tb : (Nat → Int32)) (st : (Nat → Int32)) (ro : Nat) (mr : Nat) (la : Nat) (fu : Option Nat) (dn : Bool) (wr : Nat) (b0 : Nat) (hb0 : b0 < 6) (hfu : ∀ k, fu = some k → k < 2 ^ 31) : svX l D cA h (bw, cw, ts, tb, st, ro, mr, la, fu, dn, wr) sz y_S_copyForSharers (.code y_S_copyForSharers b_S_copyForSharers 4 (some .int)) (rmX 3) [.int (nI b0)] (fun v u' => ∃ r, v = some (.int (nI r)) ∧ cCopies b0 (bw, cw, ts, tb, st, ro, mr, la, fu, dn, wr) = (.ok r, u') ∧ fB u') (fun k u' => cCopies b0 (bw, cw, ts, tb, st, ro, mr, la, fu, dn, wr) = (.error k, u')) := by
  refine sv_x hlt (by decide) rfl (Nat.le_of_ble_eq_true rfl) ?_
  intro p e s m args below meth c C X hr hsz I ls hl
  generalize svA cA h (bw, cw, ts, tb, st, ro, mr, la, fu, dn, wr) sz = A at I X ⊢
  have hl : lv_has ls 4 [(0, .ref (h 0)), (1, .int (nI b0))] := hl
  refine lv_iconst (v := nI 0) C.1 C.2.1 d_S_copyForSharers_0 (by decide) ?_
  refine lv_istore_n (lv' := [(2, .int (nI 0)), (0, .ref (h 0)), (1, .int (nI b0))]) C.1 C.2.1 d_S_copyForSharers_1 rfl hl (by decide) rfl (fun ls hl => ?_)
  refine lv_iconst (v := nI 0) C.1 C.2.1 d_S_copyForSharers_2 (by decide) ?_
  refine lv_istore_n (lv' := [(3, .int (nI 0)), (2, .int (nI 0)), (0, .ref (h 0)), (1, .int (nI b0))]) C.1 C.2.1 d_S_copyForSharers_3 rfl hl (by decide) rfl (fun ls hl => ?_)
  exact lp_S_copyForSharers_4 C X hlt hr b0 hb0 hfu  _ 0 0 bw cw ts tb st ro mr la fu dn wr (Nat.lt_succ_self _) (by omega) rfl hfu _ _ I ls (lv_sub hl [2, 3, 1, 0] rfl)
set_option maxHeartbeats 4000000 in
set_option maxRecDepth 100000 in
theorem lp_S_mergeFromMark_7 {p : Program} {l : Launch} {e : Env} {s : State} {m : MethodId} {args : Array Value} {below : List Frame} {meth : Method} {c : Code} {D : va_G} {cA : Nat → ClassId} {A : Nat → Prop} {h : Nat → Nat} {bw : (Nat → Int32)} {cw : (Nat → Int32)} {ts : (Nat → Int32)} {tb : (Nat → Int32)} {st : (Nat → Int32)} {ro : Nat} {mr : Nat} {la : Nat} {fu : Option Nat} {dn : Bool} {wr : Nat} (C : gC p s m args meth c b_S_mergeFromMark 5 R_S) (X : gX l c s A) (hlt : l.stackTraces = false) (hr : meth.sig.returnType = (some .int)) (s0 : Nat) (hs0 : s0 < 3) (hmr : mr ≤ 6) (hfu : ∀ k, fu = some k → k < 2 ^ 31)   : ∀ (fuel : Nat) (b : Nat) (a : Nat) (bwv : (Nat → Int32)) (cwv : (Nat → Int32)) (tsv : (Nat → Int32)) (tbv : (Nat → Int32)) (stv : (Nat → Int32)) (rov : Nat) (mrv : Nat) (lav : Nat) (fuv : Option Nat) (dnv : Bool) (wrv : Nat), 6 - b < fuel → b ≤ 6 → cMerge s0 (bw, cw, ts, tb, st, ro, mr, la, fu, dn, wr) = cB (cSum (cMerge1 s0) (6 - b) b a) (fun n => cB (cPutR 0) (fun _ => cOk n)) (bwv, cwv, tsv, tbv, stv, rov, mrv, lav, fuv, dnv, wrv) → (∀ k, fuv = some k → k < 2 ^ 31) → ∀ (H : Heap) (locs : List Loc), svI D cA A s h (bwv, cwv, tsv, tbv, stv, rov, mrv, lav, fuv, dnv, wrv) H locs → ∀ (ls : Array Slot), lv_has ls 5 [(0, .ref (h 0)), (1, .int (nI s0)), (2, .int (nI a)), (3, .int (nI b))] → W p l e (rmX 4) s m args below meth c H locs 0 0 (wx_MQ below (wx_Q (fun v u' => ∃ r, v = some (.int (nI r)) ∧ cMerge s0 (bw, cw, ts, tb, st, ro, mr, la, fu, dn, wr) = (.ok r, u') ∧ fB u') (fun k u' => cMerge s0 (bw, cw, ts, tb, st, ro, mr, la, fu, dn, wr) = (.error k, u')) (svAt D cA A h) A) args s 1 6 A) (F0 m 7 ls []) := by
  intro fuel
  induction fuel with
  | zero =>
    intro _ _ _ _ _ _ _ _ _ _ _ _ _ hfuel
    exact absurd hfuel (Nat.not_lt_zero _)
  | succ fuel ih =>
    intro b a bwv cwv tsv tbv stv rov mrv lav fuv dnv wrv hfuel hi hR hfv H locs I ls hl
    refine lv_iload_n C.1 C.2.1 d_S_mergeFromMark_7 rfl (lv_at hl 3 rfl) ?_
    refine lv_bipush (v := nI 6) C.1 C.2.1 d_S_mergeFromMark_8 (by decide) ?_
    refine n_icmp_ge C.1 C.2.1 (a := b) (b := 6) (tgt := 56) (by omega) (by omega) d_S_mergeFromMark_10 (by decide) (fun q10 => ?_) (fun q10 => ?_)
    · refine lv_aload_n C.1 C.2.1 d_S_mergeFromMark_56 rfl (lv_at hl 0 rfl) ?_
      refine lv_iconst (v := nI 0) C.1 C.2.1 d_S_mergeFromMark_57 (by decide) ?_
      refine sv_xc C X I (c_S_putRoll l hlt D cA h _ bwv cwv tsv tbv stv rov mrv lav fuv dnv wrv 0 hfv) lk_S92 rfl rfl ⟨by decide, by decide⟩ ⟨by decide, by decide⟩ rfl hl.1 (rest := []) rfl (Nat.le_of_ble_eq_true rfl) d_S_mergeFromMark_58 (fun k u' w58 => hR.trans (by rw [show 6 - b = 0 by omega]; exact cSum_z.trans (cB_err w58))) (fun v u' H locs w58 I => ?_)
      obtain ⟨rfl, z58, hfb⟩ := w58
      refine lv_iload_n C.1 C.2.1 d_S_mergeFromMark_61 rfl (lv_at hl 2 rfl) ?_
      exact sv_xri (v := nI a) C hr I ⟨a, rfl, hR.trans (by rw [show 6 - b = 0 by omega]; exact cSum_z.trans (cB_ok z58)), hfb⟩ d_S_mergeFromMark_62
    · refine lv_aload_n C.1 C.2.1 d_S_mergeFromMark_13 rfl (lv_at hl 0 rfl) ?_
      refine lv_iload_n C.1 C.2.1 d_S_mergeFromMark_14 rfl (lv_at hl 1 rfl) ?_
      refine lv_iload_n C.1 C.2.1 d_S_mergeFromMark_15 rfl (lv_at hl 3 rfl) ?_
      refine sv_ci C I (c_S_findCopy l D cA h _ bwv cwv tsv tbv stv rov mrv lav fuv dnv wrv s0 b (by omega) (by omega)) lk_S75 rfl rfl ⟨by decide, by decide⟩ ⟨Nat.zero_le _, Nat.zero_le _⟩ rfl hl.1 (rest := []) rfl (Nat.le_of_ble_eq_true rfl) d_S_mergeFromMark_16 (fun r u' H locs w16 I => ?_)
      obtain ⟨rfl, rfl⟩ := w16
      rcases hc1 : cFind tsv tbv stv s0 b with _ | c1
      · refine lv_istore (lv' := [(4, .int (oI none)), (0, .ref (h 0)), (1, .int (nI s0)), (2, .int (nI a)), (3, .int (nI b))]) C.1 C.2.1 d_S_mergeFromMark_19 hl (by decide) rfl (fun ls hl => ?_)
        refine lv_iload C.1 C.2.1 d_S_mergeFromMark_21 (lv_at hl 0 rfl) ?_
        refine lv_iconst (v := oI none) C.1 C.2.1 d_S_mergeFromMark_23 (by decide) ?_
        refine lv_icmp_eq (x := oI none) (y := oI none) (tgt := 50) C.1 C.2.1 d_S_mergeFromMark_24 (by decide) (fun q24 => ?_) (fun q24 => absurd rfl q24)
        refine lv_iinc (v := nI (b + 1)) (lv' := [(3, .int (nI (b + 1))), (4, .int (oI none)), (0, .ref (h 0)), (1, .int (nI s0)), (2, .int (nI a))]) C.1 C.2.1 d_S_mergeFromMark_50 hl (k := 4) rfl (by rw [show nI (b + 1) = nI b + nI 1 from (nI_add _ _).symm]; rfl) (by decide) rfl (fun ls hl => ?_)
        refine lv_goto (tgt := 7) C.1 C.2.1 d_S_mergeFromMark_53 (by decide) ?_
        exact ih (b + 1) a bwv cwv tsv tbv stv rov mrv lav fuv dnv wrv (by omega) (by omega) (by rw [hR, show 6 - b = (6 - (b + 1)) + 1 by omega]; first | exact cB_eq (cSum_ok (d := 0) (cMerge1_none hc1)) | exact cB_eq (cSum_ok (d := 1) ((cMerge1_some hc1).trans ((cB_ok z29).trans ((cB_ok z37).trans (cB_ok z44)))))) (by first | exact hfb44 | exact hfv) _ _ I ls (lv_sub hl [2, 3, 4, 0] rfl)
      · have hc1l := cFind_lt hc1
        refine lv_istore (lv' := [(4, .int (nI c1)), (0, .ref (h 0)), (1, .int (nI s0)), (2, .int (nI a)), (3, .int (nI b))]) C.1 C.2.1 d_S_mergeFromMark_19 hl (by decide) rfl (fun ls hl => ?_)
        refine lv_iload C.1 C.2.1 d_S_mergeFromMark_21 (lv_at hl 0 rfl) ?_
        refine lv_iconst (v := oI none) C.1 C.2.1 d_S_mergeFromMark_23 (by decide) ?_
        refine lv_icmp_eq (x := nI c1) (y := oI none) (tgt := 50) C.1 C.2.1 d_S_mergeFromMark_24 (by decide) (fun q24 => absurd ((oI_n (o := none) (by omega) (fun _ e => by cases e)).mp q24) (fun z => by cases z)) (fun q24 => ?_)
        refine lv_aload_n C.1 C.2.1 d_S_mergeFromMark_27 rfl (lv_at hl 1 rfl) ?_
        refine lv_iload_n C.1 C.2.1 d_S_mergeFromMark_28 rfl (lv_at hl 4 rfl) ?_
        refine sv_xc C X I (c_S_copyForSharers l hlt D cA h _ bwv cwv tsv tbv stv rov mrv lav fuv dnv wrv b (by omega) hfv) lk_S43 rfl rfl ⟨by decide, by decide⟩ ⟨by decide, by decide⟩ rfl hl.1 (rest := []) rfl (Nat.le_of_ble_eq_true rfl) d_S_mergeFromMark_29 (fun k u' w29 => hR.trans (by rw [show 6 - b = (6 - (b + 1)) + 1 by omega]; exact cB_err (cSum_err ((cMerge1_some hc1).trans (cB_err w29))))) (fun v u' H locs w29 I => ?_)
        obtain ⟨r29, rfl, z29, hfb29⟩ := w29
        obtain ⟨bw_x, cw_x, ts_x, tb_x, st_x, ro_x, mr_x, la_x, fu_x, dn_x, wr_x⟩ := u'
        refine lv_pop C.1 C.2.1 d_S_mergeFromMark_32 rfl ?_
        refine lv_aload_n C.1 C.2.1 d_S_mergeFromMark_33 rfl (lv_at hl 1 rfl) ?_
        refine lv_iload_n C.1 C.2.1 d_S_mergeFromMark_34 rfl (lv_at hl 4 rfl) ?_
        refine lv_iload C.1 C.2.1 d_S_mergeFromMark_35 (lv_at hl 0 rfl) ?_
        refine sv_xc C X I (c_S_putBlockBack l hlt D cA h _ bw_x cw_x ts_x tb_x st_x ro_x mr_x la_x fu_x dn_x wr_x b c1 (by omega) (by omega) hfb29) lk_S161 rfl rfl ⟨by decide, by decide⟩ ⟨by decide, by decide⟩ rfl hl.1 (rest := []) rfl (Nat.le_of_ble_eq_true rfl) d_S_mergeFromMark_37 (fun k u' w37 => hR.trans (by rw [show 6 - b = (6 - (b + 1)) + 1 by omega]; exact cB_err (cSum_err ((cMerge1_some hc1).trans ((cB_ok z29).trans (cB_err w37)))))) (fun v u' H locs w37 I => ?_)
        obtain ⟨rfl, z37, hfb37⟩ := w37
        obtain ⟨bw_y, cw_y, ts_y, tb_y, st_y, ro_y, mr_y, la_y, fu_y, dn_y, wr_y⟩ := u'
        refine lv_aload_n C.1 C.2.1 d_S_mergeFromMark_40 rfl (lv_at hl 1 rfl) ?_
        refine lv_iload_n C.1 C.2.1 d_S_mergeFromMark_41 rfl (lv_at hl 4 rfl) ?_
        refine lv_iconst (v := nI 1) C.1 C.2.1 d_S_mergeFromMark_42 (by decide) ?_
        refine n_iadd C.1 C.2.1 (a := b) (b := 1) d_S_mergeFromMark_43 ?_
        refine sv_xc C X I (c_S_putMark l hlt D cA h _ bw_y cw_y ts_y tb_y st_y ro_y mr_y la_y fu_y dn_y wr_y (b + 1) hfb37) lk_S89 rfl rfl ⟨by decide, by decide⟩ ⟨by decide, by decide⟩ rfl hl.1 (rest := []) rfl (Nat.le_of_ble_eq_true rfl) d_S_mergeFromMark_44 (fun k u' w44 => hR.trans (by rw [show 6 - b = (6 - (b + 1)) + 1 by omega]; exact cB_err (cSum_err ((cMerge1_some hc1).trans ((cB_ok z29).trans ((cB_ok z37).trans (cB_err w44))))))) (fun v u' H locs w44 I => ?_)
        obtain ⟨rfl, z44, hfb44⟩ := w44
        obtain ⟨bw_z, cw_z, ts_z, tb_z, st_z, ro_z, mr_z, la_z, fu_z, dn_z, wr_z⟩ := u'
        refine lv_iinc (v := nI (a + 1)) (lv' := [(2, .int (nI (a + 1))), (4, .int (nI c1)), (0, .ref (h 0)), (1, .int (nI s0)), (3, .int (nI b))]) C.1 C.2.1 d_S_mergeFromMark_47 hl (k := 3) rfl (by rw [show nI (a + 1) = nI a + nI 1 from (nI_add _ _).symm]; rfl) (by decide) rfl (fun ls hl => ?_)
        refine lv_iinc (v := nI (b + 1)) (lv' := [(3, .int (nI (b + 1))), (2, .int (nI (a + 1))), (4, .int (nI c1)), (0, .ref (h 0)), (1, .int (nI s0))]) C.1 C.2.1 d_S_mergeFromMark_50 hl (k := 4) rfl (by rw [show nI (b + 1) = nI b + nI 1 from (nI_add _ _).symm]; rfl) (by decide) rfl (fun ls hl => ?_)
        refine lv_goto (tgt := 7) C.1 C.2.1 d_S_mergeFromMark_53 (by decide) ?_
        exact ih (b + 1) (a + 1) bw_z cw_z ts_z tb_z st_z ro_z mr_z la_z fu_z dn_z wr_z (by omega) (by omega) (by rw [hR, show 6 - b = (6 - (b + 1)) + 1 by omega]; first | exact cB_eq (cSum_ok (d := 0) (cMerge1_none hc1)) | exact cB_eq (cSum_ok (d := 1) ((cMerge1_some hc1).trans ((cB_ok z29).trans ((cB_ok z37).trans (cB_ok z44)))))) (by first | exact hfb44 | exact hfv) _ _ I ls (lv_sub hl [3, 4, 1, 0] rfl)
set_option maxHeartbeats 4000000 in
set_option maxRecDepth 100000 in
/-- R_S.mergeFromMark -/
theorem c_S_mergeFromMark (l : Launch) (hlt : l.stackTraces = false) (D : va_G) (cA : Nat → ClassId) (h : Nat → Nat) (sz : Nat) (bw : (Nat → Int32)) (cw : (Nat → Int32)) (ts : (Nat → Int32)) (tb : (Nat → Int32)) (st : (Nat → Int32)) (ro : Nat) (mr : Nat) (la : Nat) (fu : Option Nat) (dn : Bool) (wr : Nat) (s0 : Nat) (hs0 : s0 < 3) (hmr : mr ≤ 6) (hfu : ∀ k, fu = some k → k < 2 ^ 31) : svX l D cA h (bw, cw, ts, tb, st, ro, mr, la, fu, dn, wr) sz y_S_mergeFromMark (.code y_S_mergeFromMark b_S_mergeFromMark 5 (some .int)) (rmX 4) [.int (nI s0)] (fun v u' => ∃ r, v = some (.int (nI r)) ∧ cMerge s0 (bw, cw, ts, tb, st, ro, mr, la, fu, dn, wr) = (.ok r, u') ∧ fB u') (fun k u' => cMerge s0 (bw, cw, ts, tb, st, ro, mr, la, fu, dn, wr) = (.error k, u')) := by
  refine sv_x hlt (by decide) rfl (Nat.le_of_ble_eq_true rfl) ?_
  intro p e s m args below meth c C X hr hsz I ls hl
  generalize svA cA h (bw, cw, ts, tb, st, ro, mr, la, fu, dn, wr) sz = A at I X ⊢
  have hl : lv_has ls 5 [(0, .ref (h 0)), (1, .int (nI s0))] := hl
  refine lv_iconst (v := nI 0) C.1 C.2.1 d_S_mergeFromMark_0 (by decide) ?_
  refine lv_istore_n (lv' := [(2, .int (nI 0)), (0, .ref (h 0)), (1, .int (nI s0))]) C.1 C.2.1 d_S_mergeFromMark_1 rfl hl (by decide) rfl (fun ls hl => ?_)
  refine lv_aload_n C.1 C.2.1 d_S_mergeFromMark_2 rfl (lv_at hl 1 rfl) ?_
  refine sv_g6 C I d_S_mergeFromMark_3 ?_
  refine lv_istore_n (lv' := [(3, .int (nI mr)), (2, .int (nI 0)), (0, .ref (h 0)), (1, .int (nI s0))]) C.1 C.2.1 d_S_mergeFromMark_6 rfl hl (by decide) rfl (fun ls hl => ?_)
  exact lp_S_mergeFromMark_7 C X hlt hr s0 hs0 hmr hfu  _ mr 0 bw cw ts tb st ro mr la fu dn wr (Nat.lt_succ_self _) (by omega) rfl hfu _ _ I ls (lv_sub hl [2, 3, 1, 0] rfl)
