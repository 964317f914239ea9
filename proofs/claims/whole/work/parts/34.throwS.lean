set_option maxHeartbeats 4000000 in
set_option maxRecDepth 100000 in
/-- R_S.countWrite -/
theorem c_S_countWrite (l : Launch) (hlt : l.stackTraces = false) (D : va_G) (cA : Nat → ClassId) (h : Nat → Nat) (sz : Nat) (bw : (Nat → Int32)) (cw : (Nat → Int32)) (ts : (Nat → Int32)) (tb : (Nat → Int32)) (st : (Nat → Int32)) (ro : Nat) (mr : Nat) (la : Nat) (fu : Option Nat) (dn : Bool) (wr : Nat)  (hfu : ∀ k, fu = some k → k < 2 ^ 31) : svX l D cA h (bw, cw, ts, tb, st, ro, mr, la, fu, dn, wr) sz y_S_countWrite (.code y_S_countWrite b_S_countWrite 1 none) (rmX 0) [] (fun v u' => v = none ∧ cTick (bw, cw, ts, tb, st, ro, mr, la, fu, dn, wr) = (.ok (), u') ∧ fB u') (fun k u' => cTick (bw, cw, ts, tb, st, ro, mr, la, fu, dn, wr) = (.error k, u')) := by
  refine sv_x hlt (by decide) rfl (Nat.le_of_ble_eq_true rfl) ?_
  intro p e s m args below meth c C X hr hsz I ls hl
  generalize svA cA h (bw, cw, ts, tb, st, ro, mr, la, fu, dn, wr) sz = A at I X ⊢
  have hl : lv_has ls 1 [(0, .ref (h 0))] := hl
  rcases fu with _ | _ | k
  · refine lv_aload_n C.1 C.2.1 d_S_countWrite_0 rfl (lv_at hl 0 rfl) ?_
    refine sv_g8 C I d_S_countWrite_1 ?_
    refine lv_if_ne (x := oI none) (tgt := 27) C.1 C.2.1 d_S_countWrite_4 (by decide) (fun q4 => ?_) (fun q4 => absurd q4 (by decide))
    refine lv_aload_n C.1 C.2.1 d_S_countWrite_27 rfl (lv_at hl 0 rfl) ?_
    refine sv_g8 C I d_S_countWrite_28 ?_
    refine lv_if_le (x := oI none) (tgt := 44) C.1 C.2.1 d_S_countWrite_31 (by decide) (fun q31 => ?_) (fun q31 => absurd q31 (by decide))
    refine lv_aload_n C.1 C.2.1 d_S_countWrite_44 rfl (lv_at hl 0 rfl) ?_
    refine lv_dup C.1 C.2.1 d_S_countWrite_45 rfl ?_
    refine sv_g10 C I d_S_countWrite_46 ?_
    refine lv_iconst (v := nI 1) C.1 C.2.1 d_S_countWrite_49 (by decide) ?_
    refine n_iadd C.1 C.2.1 (a := wr) (b := 1) d_S_countWrite_50 ?_
    refine sv_p10 C I (wr + 1) rfl d_S_countWrite_51 (fun H locs I => ?_)
    exact sv_xrv C hr I ⟨rfl, rfl, by intro j hj; first | (cases hj; done) | (cases hj; omega)⟩ d_S_countWrite_54
  · refine lv_aload_n C.1 C.2.1 d_S_countWrite_0 rfl (lv_at hl 0 rfl) ?_
    refine sv_g8 C I d_S_countWrite_1 ?_
    refine n_ifz_ne (a := 0) (tgt := 27) C.1 C.2.1 (by omega) d_S_countWrite_4 (by decide) (fun q4 => absurd q4 (by omega)) (fun q4 => ?_)
    refine lv_aload_n C.1 C.2.1 d_S_countWrite_7 rfl (lv_at hl 0 rfl) ?_
    refine lv_iconst (v := oI none) C.1 C.2.1 d_S_countWrite_8 (by decide) ?_
    refine sv_p8 C I none rfl d_S_countWrite_9 (fun H locs I => ?_)
    refine lv_aload_n C.1 C.2.1 d_S_countWrite_12 rfl (lv_at hl 0 rfl) ?_
    refine lv_iconst (v := nI 1) C.1 C.2.1 d_S_countWrite_13 (by decide) ?_
    refine sv_p9 C I true rfl d_S_countWrite_14 (fun H locs I => ?_)
    exact sv_thr (kd := 0) (names := exN) (by rw [hl.1]; exact C) X I (by decide +kernel) (by decide +kernel) thr0 thw0 thc0 thi0 thn0 (tx := "the power is cut") (by decide +kernel) d_S_countWrite_17 d_S_countWrite_20 d_S_countWrite_21 d_S_countWrite_23 d_S_countWrite_26 (by decide) (by decide) (by decide) (by decide) rfl
  · have hk31 : k + 1 < 2 ^ 31 := hfu _ rfl
    refine lv_aload_n C.1 C.2.1 d_S_countWrite_0 rfl (lv_at hl 0 rfl) ?_
    refine sv_g8 C I d_S_countWrite_1 ?_
    refine n_ifz_ne (a := (k + 1)) (tgt := 27) C.1 C.2.1 (by omega) d_S_countWrite_4 (by decide) (fun q4 => ?_) (fun q4 => absurd q4 (by omega))
    refine lv_aload_n C.1 C.2.1 d_S_countWrite_27 rfl (lv_at hl 0 rfl) ?_
    refine sv_g8 C I d_S_countWrite_28 ?_
    refine n_ifz_le (a := (k + 1)) (tgt := 44) C.1 C.2.1 (by omega) d_S_countWrite_31 (by decide) (fun q31 => absurd q31 (by omega)) (fun q31 => ?_)
    refine lv_aload_n C.1 C.2.1 d_S_countWrite_34 rfl (lv_at hl 0 rfl) ?_
    refine lv_dup C.1 C.2.1 d_S_countWrite_35 rfl ?_
    refine sv_g8 C I d_S_countWrite_36 ?_
    refine lv_iconst (v := nI 1) C.1 C.2.1 d_S_countWrite_39 (by decide) ?_
    refine n_isub C.1 C.2.1 (a := (k + 1)) (b := 1) (by omega) d_S_countWrite_40 ?_
    refine sv_p8 C I (some ((k + 1) - 1)) rfl d_S_countWrite_41 (fun H locs I => ?_)
    refine lv_aload_n C.1 C.2.1 d_S_countWrite_44 rfl (lv_at hl 0 rfl) ?_
    refine lv_dup C.1 C.2.1 d_S_countWrite_45 rfl ?_
    refine sv_g10 C I d_S_countWrite_46 ?_
    refine lv_iconst (v := nI 1) C.1 C.2.1 d_S_countWrite_49 (by decide) ?_
    refine n_iadd C.1 C.2.1 (a := wr) (b := 1) d_S_countWrite_50 ?_
    refine sv_p10 C I (wr + 1) rfl d_S_countWrite_51 (fun H locs I => ?_)
    exact sv_xrv C hr I ⟨rfl, rfl, by intro j hj; first | (cases hj; done) | (cases hj; omega)⟩ d_S_countWrite_54
set_option maxHeartbeats 4000000 in
set_option maxRecDepth 100000 in
/-- R_S.putBlockWord -/
theorem c_S_putBlockWord (l : Launch) (hlt : l.stackTraces = false) (D : va_G) (cA : Nat → ClassId) (h : Nat → Nat) (sz : Nat) (bw : (Nat → Int32)) (cw : (Nat → Int32)) (ts : (Nat → Int32)) (tb : (Nat → Int32)) (st : (Nat → Int32)) (ro : Nat) (mr : Nat) (la : Nat) (fu : Option Nat) (dn : Bool) (wr : Nat) (b0 i0 : Nat) (w0 : Int32) (hb0 : b0 < 6) (hi0 : i0 < 4) (hfu : ∀ k, fu = some k → k < 2 ^ 31) : svX l D cA h (bw, cw, ts, tb, st, ro, mr, la, fu, dn, wr) sz y_S_putBlockWord (.code y_S_putBlockWord b_S_putBlockWord 4 none) (rmX 1) [.int (nI b0), .int (nI i0), .int w0] (fun v u' => v = none ∧ cPutB b0 i0 w0 (bw, cw, ts, tb, st, ro, mr, la, fu, dn, wr) = (.ok (), u') ∧ fB u') (fun k u' => cPutB b0 i0 w0 (bw, cw, ts, tb, st, ro, mr, la, fu, dn, wr) = (.error k, u')) := by
  refine sv_x hlt (by decide) rfl (Nat.le_of_ble_eq_true rfl) ?_
  intro p e s m args below meth c C X hr hsz I ls hl
  generalize svA cA h (bw, cw, ts, tb, st, ro, mr, la, fu, dn, wr) sz = A at I X ⊢
  have hl : lv_has ls 4 [(0, .ref (h 0)), (1, .int (nI b0)), (2, .int (nI i0)), (3, .int w0)] := hl
  refine lv_aload_n C.1 C.2.1 d_S_putBlockWord_0 rfl (lv_at hl 0 rfl) ?_
  refine sv_xc C X I (c_S_countWrite l hlt D cA h _ bw cw ts tb st ro mr la fu dn wr hfu) lk_S164 rfl rfl ⟨by decide, by decide⟩ ⟨by decide, by decide⟩ rfl hl.1 (rest := []) rfl (Nat.le_of_ble_eq_true rfl) d_S_putBlockWord_1 (fun k u' w1 => cB_err w1) (fun v u' H locs w1 I => ?_)
  obtain ⟨rfl, w1, hfb⟩ := w1
  obtain ⟨fu1, rfl, -⟩ := tick_inv w1
  refine lv_aload_n C.1 C.2.1 d_S_putBlockWord_4 rfl (lv_at hl 0 rfl) ?_
  refine sv_g0 C I d_S_putBlockWord_5 ?_
  refine lv_iload_n C.1 C.2.1 d_S_putBlockWord_8 rfl (lv_at hl 1 rfl) ?_
  refine lv_iconst (v := nI 4) C.1 C.2.1 d_S_putBlockWord_9 (by decide) ?_
  refine n_imul C.1 C.2.1 (a := b0) (b := 4) d_S_putBlockWord_10 ?_
  refine lv_iload_n C.1 C.2.1 d_S_putBlockWord_11 rfl (lv_at hl 2 rfl) ?_
  refine n_iadd C.1 C.2.1 (a := b0 * 4) (b := i0) d_S_putBlockWord_12 ?_
  refine lv_iload_n C.1 C.2.1 d_S_putBlockWord_13 rfl (lv_at hl 3 rfl) ?_
  refine sv_s1 C I (k := (b0 * 4) + i0) (x := w0) (by omega) d_S_putBlockWord_14 (fun H locs I => ?_)
  exact sv_xrv C hr I ⟨rfl, cB_ok w1, hfb⟩ d_S_putBlockWord_15
set_option maxHeartbeats 4000000 in
set_option maxRecDepth 100000 in
/-- R_S.putCopyWord -/
theorem c_S_putCopyWord (l : Launch) (hlt : l.stackTraces = false) (D : va_G) (cA : Nat → ClassId) (h : Nat → Nat) (sz : Nat) (bw : (Nat → Int32)) (cw : (Nat → Int32)) (ts : (Nat → Int32)) (tb : (Nat → Int32)) (st : (Nat → Int32)) (ro : Nat) (mr : Nat) (la : Nat) (fu : Option Nat) (dn : Bool) (wr : Nat) (c0 i0 : Nat) (w0 : Int32) (hc0 : c0 < 9) (hi0 : i0 < 4) (hfu : ∀ k, fu = some k → k < 2 ^ 31) : svX l D cA h (bw, cw, ts, tb, st, ro, mr, la, fu, dn, wr) sz y_S_putCopyWord (.code y_S_putCopyWord b_S_putCopyWord 4 none) (rmX 1) [.int (nI c0), .int (nI i0), .int w0] (fun v u' => v = none ∧ cPutC c0 i0 w0 (bw, cw, ts, tb, st, ro, mr, la, fu, dn, wr) = (.ok (), u') ∧ fB u') (fun k u' => cPutC c0 i0 w0 (bw, cw, ts, tb, st, ro, mr, la, fu, dn, wr) = (.error k, u')) := by
  refine sv_x hlt (by decide) rfl (Nat.le_of_ble_eq_true rfl) ?_
  intro p e s m args below meth c C X hr hsz I ls hl
  generalize svA cA h (bw, cw, ts, tb, st, ro, mr, la, fu, dn, wr) sz = A at I X ⊢
  have hl : lv_has ls 4 [(0, .ref (h 0)), (1, .int (nI c0)), (2, .int (nI i0)), (3, .int w0)] := hl
  refine lv_aload_n C.1 C.2.1 d_S_putCopyWord_0 rfl (lv_at hl 0 rfl) ?_
  refine sv_xc C X I (c_S_countWrite l hlt D cA h _ bw cw ts tb st ro mr la fu dn wr hfu) lk_S164 rfl rfl ⟨by decide, by decide⟩ ⟨by decide, by decide⟩ rfl hl.1 (rest := []) rfl (Nat.le_of_ble_eq_true rfl) d_S_putCopyWord_1 (fun k u' w1 => cB_err w1) (fun v u' H locs w1 I => ?_)
  obtain ⟨rfl, w1, hfb⟩ := w1
  obtain ⟨fu1, rfl, -⟩ := tick_inv w1
  refine lv_aload_n C.1 C.2.1 d_S_putCopyWord_4 rfl (lv_at hl 0 rfl) ?_
  refine sv_g1 C I d_S_putCopyWord_5 ?_
  refine lv_iload_n C.1 C.2.1 d_S_putCopyWord_8 rfl (lv_at hl 1 rfl) ?_
  refine lv_iconst (v := nI 4) C.1 C.2.1 d_S_putCopyWord_9 (by decide) ?_
  refine n_imul C.1 C.2.1 (a := c0) (b := 4) d_S_putCopyWord_10 ?_
  refine lv_iload_n C.1 C.2.1 d_S_putCopyWord_11 rfl (lv_at hl 2 rfl) ?_
  refine n_iadd C.1 C.2.1 (a := c0 * 4) (b := i0) d_S_putCopyWord_12 ?_
  refine lv_iload_n C.1 C.2.1 d_S_putCopyWord_13 rfl (lv_at hl 3 rfl) ?_
  refine sv_s2 C I (k := (c0 * 4) + i0) (x := w0) (by omega) d_S_putCopyWord_14 (fun H locs I => ?_)
  exact sv_xrv C hr I ⟨rfl, cB_ok w1, hfb⟩ d_S_putCopyWord_15
set_option maxHeartbeats 4000000 in
set_option maxRecDepth 100000 in
/-- R_S.putTag -/
theorem c_S_putTag (l : Launch) (hlt : l.stackTraces = false) (D : va_G) (cA : Nat → ClassId) (h : Nat → Nat) (sz : Nat) (bw : (Nat → Int32)) (cw : (Nat → Int32)) (ts : (Nat → Int32)) (tb : (Nat → Int32)) (st : (Nat → Int32)) (ro : Nat) (mr : Nat) (la : Nat) (fu : Option Nat) (dn : Bool) (wr : Nat) (c0 : Nat) (x0 : Int32) (b0 : Nat) (hc0 : c0 < 9) (hfu : ∀ k, fu = some k → k < 2 ^ 31) : svX l D cA h (bw, cw, ts, tb, st, ro, mr, la, fu, dn, wr) sz y_S_putTag (.code y_S_putTag b_S_putTag 4 none) (rmX 1) [.int (nI c0), .int x0, .int (nI b0)] (fun v u' => v = none ∧ cPutT c0 x0 (nI b0) (bw, cw, ts, tb, st, ro, mr, la, fu, dn, wr) = (.ok (), u') ∧ fB u') (fun k u' => cPutT c0 x0 (nI b0) (bw, cw, ts, tb, st, ro, mr, la, fu, dn, wr) = (.error k, u')) := by
  refine sv_x hlt (by decide) rfl (Nat.le_of_ble_eq_true rfl) ?_
  intro p e s m args below meth c C X hr hsz I ls hl
  generalize svA cA h (bw, cw, ts, tb, st, ro, mr, la, fu, dn, wr) sz = A at I X ⊢
  have hl : lv_has ls 4 [(0, .ref (h 0)), (1, .int (nI c0)), (2, .int x0), (3, .int (nI b0))] := hl
  refine lv_aload_n C.1 C.2.1 d_S_putTag_0 rfl (lv_at hl 0 rfl) ?_
  refine sv_xc C X I (c_S_countWrite l hlt D cA h _ bw cw ts tb st ro mr la fu dn wr hfu) lk_S164 rfl rfl ⟨by decide, by decide⟩ ⟨by decide, by decide⟩ rfl hl.1 (rest := []) rfl (Nat.le_of_ble_eq_true rfl) d_S_putTag_1 (fun k u' w1 => cB_err w1) (fun v u' H locs w1 I => ?_)
  obtain ⟨rfl, w1, hfb⟩ := w1
  obtain ⟨fu1, rfl, -⟩ := tick_inv w1
  refine lv_aload_n C.1 C.2.1 d_S_putTag_4 rfl (lv_at hl 0 rfl) ?_
  refine sv_g2 C I d_S_putTag_5 ?_
  refine lv_iload_n C.1 C.2.1 d_S_putTag_8 rfl (lv_at hl 1 rfl) ?_
  refine lv_iload_n C.1 C.2.1 d_S_putTag_9 rfl (lv_at hl 2 rfl) ?_
  refine sv_s3 C I (k := c0) (x := x0) (by omega) d_S_putTag_10 (fun H locs I => ?_)
  refine lv_aload_n C.1 C.2.1 d_S_putTag_11 rfl (lv_at hl 0 rfl) ?_
  refine sv_g3 C I d_S_putTag_12 ?_
  refine lv_iload_n C.1 C.2.1 d_S_putTag_15 rfl (lv_at hl 1 rfl) ?_
  refine lv_iload_n C.1 C.2.1 d_S_putTag_16 rfl (lv_at hl 3 rfl) ?_
  refine sv_s4 C I (k := c0) (x := nI b0) (by omega) d_S_putTag_17 (fun H locs I => ?_)
  exact sv_xrv C hr I ⟨rfl, cB_ok w1, hfb⟩ d_S_putTag_18
set_option maxHeartbeats 4000000 in
set_option maxRecDepth 100000 in
/-- R_S.putStamp -/
theorem c_S_putStamp (l : Launch) (hlt : l.stackTraces = false) (D : va_G) (cA : Nat → ClassId) (h : Nat → Nat) (sz : Nat) (bw : (Nat → Int32)) (cw : (Nat → Int32)) (ts : (Nat → Int32)) (tb : (Nat → Int32)) (st : (Nat → Int32)) (ro : Nat) (mr : Nat) (la : Nat) (fu : Option Nat) (dn : Bool) (wr : Nat) (s0 : Nat) (x0 : Int32) (hs0 : s0 < 3) (hfu : ∀ k, fu = some k → k < 2 ^ 31) : svX l D cA h (bw, cw, ts, tb, st, ro, mr, la, fu, dn, wr) sz y_S_putStamp (.code y_S_putStamp b_S_putStamp 3 none) (rmX 1) [.int (nI s0), .int x0] (fun v u' => v = none ∧ cPutS s0 x0 (bw, cw, ts, tb, st, ro, mr, la, fu, dn, wr) = (.ok (), u') ∧ fB u') (fun k u' => cPutS s0 x0 (bw, cw, ts, tb, st, ro, mr, la, fu, dn, wr) = (.error k, u')) := by
  refine sv_x hlt (by decide) rfl (Nat.le_of_ble_eq_true rfl) ?_
  intro p e s m args below meth c C X hr hsz I ls hl
  generalize svA cA h (bw, cw, ts, tb, st, ro, mr, la, fu, dn, wr) sz = A at I X ⊢
  have hl : lv_has ls 3 [(0, .ref (h 0)), (1, .int (nI s0)), (2, .int x0)] := hl
  refine lv_aload_n C.1 C.2.1 d_S_putStamp_0 rfl (lv_at hl 0 rfl) ?_
  refine sv_xc C X I (c_S_countWrite l hlt D cA h _ bw cw ts tb st ro mr la fu dn wr hfu) lk_S164 rfl rfl ⟨by decide, by decide⟩ ⟨by decide, by decide⟩ rfl hl.1 (rest := []) rfl (Nat.le_of_ble_eq_true rfl) d_S_putStamp_1 (fun k u' w1 => cB_err w1) (fun v u' H locs w1 I => ?_)
  obtain ⟨rfl, w1, hfb⟩ := w1
  obtain ⟨fu1, rfl, -⟩ := tick_inv w1
  refine lv_aload_n C.1 C.2.1 d_S_putStamp_4 rfl (lv_at hl 0 rfl) ?_
  refine sv_g4 C I d_S_putStamp_5 ?_
  refine lv_iload_n C.1 C.2.1 d_S_putStamp_8 rfl (lv_at hl 1 rfl) ?_
  refine lv_iload_n C.1 C.2.1 d_S_putStamp_9 rfl (lv_at hl 2 rfl) ?_
  refine sv_s5 C I (k := s0) (x := x0) (by omega) d_S_putStamp_10 (fun H locs I => ?_)
  exact sv_xrv C hr I ⟨rfl, cB_ok w1, hfb⟩ d_S_putStamp_11
set_option maxHeartbeats 4000000 in
set_option maxRecDepth 100000 in
/-- R_S.putRoll -/
theorem c_S_putRoll (l : Launch) (hlt : l.stackTraces = false) (D : va_G) (cA : Nat → ClassId) (h : Nat → Nat) (sz : Nat) (bw : (Nat → Int32)) (cw : (Nat → Int32)) (ts : (Nat → Int32)) (tb : (Nat → Int32)) (st : (Nat → Int32)) (ro : Nat) (mr : Nat) (la : Nat) (fu : Option Nat) (dn : Bool) (wr : Nat) (v0 : Nat) (hfu : ∀ k, fu = some k → k < 2 ^ 31) : svX l D cA h (bw, cw, ts, tb, st, ro, mr, la, fu, dn, wr) sz y_S_putRoll (.code y_S_putRoll b_S_putRoll 2 none) (rmX 1) [.int (nI v0)] (fun v u' => v = none ∧ cPutR v0 (bw, cw, ts, tb, st, ro, mr, la, fu, dn, wr) = (.ok (), u') ∧ fB u') (fun k u' => cPutR v0 (bw, cw, ts, tb, st, ro, mr, la, fu, dn, wr) = (.error k, u')) := by
  refine sv_x hlt (by decide) rfl (Nat.le_of_ble_eq_true rfl) ?_
  intro p e s m args below meth c C X hr hsz I ls hl
  generalize svA cA h (bw, cw, ts, tb, st, ro, mr, la, fu, dn, wr) sz = A at I X ⊢
  have hl : lv_has ls 2 [(0, .ref (h 0)), (1, .int (nI v0))] := hl
  refine lv_aload_n C.1 C.2.1 d_S_putRoll_0 rfl (lv_at hl 0 rfl) ?_
  refine sv_xc C X I (c_S_countWrite l hlt D cA h _ bw cw ts tb st ro mr la fu dn wr hfu) lk_S164 rfl rfl ⟨by decide, by decide⟩ ⟨by decide, by decide⟩ rfl hl.1 (rest := []) rfl (Nat.le_of_ble_eq_true rfl) d_S_putRoll_1 (fun k u' w1 => cB_err w1) (fun v u' H locs w1 I => ?_)
  obtain ⟨rfl, w1, hfb⟩ := w1
  obtain ⟨fu1, rfl, -⟩ := tick_inv w1
  refine lv_aload_n C.1 C.2.1 d_S_putRoll_4 rfl (lv_at hl 0 rfl) ?_
  refine lv_iload_n C.1 C.2.1 d_S_putRoll_5 rfl (lv_at hl 1 rfl) ?_
  refine sv_p5 C I v0 rfl d_S_putRoll_6 (fun H locs I => ?_)
  exact sv_xrv C hr I ⟨rfl, cB_ok w1, hfb⟩ d_S_putRoll_9
set_option maxHeartbeats 4000000 in
set_option maxRecDepth 100000 in
/-- R_S.putMark -/
theorem c_S_putMark (l : Launch) (hlt : l.stackTraces = false) (D : va_G) (cA : Nat → ClassId) (h : Nat → Nat) (sz : Nat) (bw : (Nat → Int32)) (cw : (Nat → Int32)) (ts : (Nat → Int32)) (tb : (Nat → Int32)) (st : (Nat → Int32)) (ro : Nat) (mr : Nat) (la : Nat) (fu : Option Nat) (dn : Bool) (wr : Nat) (v0 : Nat) (hfu : ∀ k, fu = some k → k < 2 ^ 31) : svX l D cA h (bw, cw, ts, tb, st, ro, mr, la, fu, dn, wr) sz y_S_putMark (.code y_S_putMark b_S_putMark 2 none) (rmX 1) [.int (nI v0)] (fun v u' => v = none ∧ cPutM v0 (bw, cw, ts, tb, st, ro, mr, la, fu, dn, wr) = (.ok (), u') ∧ fB u') (fun k u' => cPutM v0 (bw, cw, ts, tb, st, ro, mr, la, fu, dn, wr) = (.error k, u')) := by
  refine sv_x hlt (by decide) rfl (Nat.le_of_ble_eq_true rfl) ?_
  intro p e s m args below meth c C X hr hsz I ls hl
  generalize svA cA h (bw, cw, ts, tb, st, ro, mr, la, fu, dn, wr) sz = A at I X ⊢
  have hl : lv_has ls 2 [(0, .ref (h 0)), (1, .int (nI v0))] := hl
  refine lv_aload_n C.1 C.2.1 d_S_putMark_0 rfl (lv_at hl 0 rfl) ?_
  refine sv_xc C X I (c_S_countWrite l hlt D cA h _ bw cw ts tb st ro mr la fu dn wr hfu) lk_S164 rfl rfl ⟨by decide, by decide⟩ ⟨by decide, by decide⟩ rfl hl.1 (rest := []) rfl (Nat.le_of_ble_eq_true rfl) d_S_putMark_1 (fun k u' w1 => cB_err w1) (fun v u' H locs w1 I => ?_)
  obtain ⟨rfl, w1, hfb⟩ := w1
  obtain ⟨fu1, rfl, -⟩ := tick_inv w1
  refine lv_aload_n C.1 C.2.1 d_S_putMark_4 rfl (lv_at hl 0 rfl) ?_
  refine lv_iload_n C.1 C.2.1 d_S_putMark_5 rfl (lv_at hl 1 rfl) ?_
  refine sv_p6 C I v0 rfl d_S_putMark_6 (fun H locs I => ?_)
  exact sv_xrv C hr I ⟨rfl, cB_ok w1, hfb⟩ d_S_putMark_9
set_option maxHeartbeats 4000000 in
set_option maxRecDepth 100000 in
/-- R_S.requireUp -/
theorem c_S_requireUp (l : Launch) (hlt : l.stackTraces = false) (D : va_G) (cA : Nat → ClassId) (h : Nat → Nat) (sz : Nat) (bw : (Nat → Int32)) (cw : (Nat → Int32)) (ts : (Nat → Int32)) (tb : (Nat → Int32)) (st : (Nat → Int32)) (ro : Nat) (mr : Nat) (la : Nat) (fu : Option Nat) (dn : Bool) (wr : Nat)  (hfu : ∀ k, fu = some k → k < 2 ^ 31) : svX l D cA h (bw, cw, ts, tb, st, ro, mr, la, fu, dn, wr) sz y_S_requireUp (.code y_S_requireUp b_S_requireUp 1 none) (rmX 0) [] (fun v u' => v = none ∧ cUp (bw, cw, ts, tb, st, ro, mr, la, fu, dn, wr) = (.ok (), u') ∧ fB u') (fun k u' => cUp (bw, cw, ts, tb, st, ro, mr, la, fu, dn, wr) = (.error k, u')) := by
  refine sv_x hlt (by decide) rfl (Nat.le_of_ble_eq_true rfl) ?_
  intro p e s m args below meth c C X hr hsz I ls hl
  generalize svA cA h (bw, cw, ts, tb, st, ro, mr, la, fu, dn, wr) sz = A at I X ⊢
  have hl : lv_has ls 1 [(0, .ref (h 0))] := hl
  refine lv_aload_n C.1 C.2.1 d_S_requireUp_0 rfl (lv_at hl 0 rfl) ?_
  refine sv_g9 C I d_S_requireUp_1 ?_
  refine n_ifeq (b := dn) (tgt := 17) C.1 C.2.1 d_S_requireUp_4 (by decide) (fun q4 => ?_) (fun q4 => ?_)
  · exact sv_xrv C hr I ⟨rfl, (by subst q4; rfl), hfu⟩ d_S_requireUp_17
  · exact sv_thr (kd := 0) (names := exN) (by rw [hl.1]; exact C) X I (by decide +kernel) (by decide +kernel) thr0 thw0 thc0 thi0 thn0 (tx := "the volume is down") (by decide +kernel) d_S_requireUp_7 d_S_requireUp_10 d_S_requireUp_11 d_S_requireUp_13 d_S_requireUp_16 (by decide) (by decide) (by decide) (by decide) (by subst q4; rfl)
set_option maxHeartbeats 4000000 in
set_option maxRecDepth 100000 in
/-- R_S.requireSnapshot -/
theorem c_S_requireSnapshot (l : Launch) (hlt : l.stackTraces = false) (D : va_G) (cA : Nat → ClassId) (h : Nat → Nat) (sz : Nat) (bw : (Nat → Int32)) (cw : (Nat → Int32)) (ts : (Nat → Int32)) (tb : (Nat → Int32)) (st : (Nat → Int32)) (ro : Nat) (mr : Nat) (la : Nat) (fu : Option Nat) (dn : Bool) (wr : Nat) (x : Int32) (hfu : ∀ k, fu = some k → k < 2 ^ 31) : svX l D cA h (bw, cw, ts, tb, st, ro, mr, la, fu, dn, wr) sz y_S_requireSnapshot (.code y_S_requireSnapshot b_S_requireSnapshot 2 none) (rmX 1) [.int x] (fun v u' => v = none ∧ cReqS x (bw, cw, ts, tb, st, ro, mr, la, fu, dn, wr) = (.ok (), u') ∧ fB u') (fun k u' => cReqS x (bw, cw, ts, tb, st, ro, mr, la, fu, dn, wr) = (.error k, u')) := by
  refine sv_x hlt (by decide) rfl (Nat.le_of_ble_eq_true rfl) ?_
  intro p e s m args below meth c C X hr hsz I ls hl
  generalize svA cA h (bw, cw, ts, tb, st, ro, mr, la, fu, dn, wr) sz = A at I X ⊢
  have hl : lv_has ls 2 [(0, .ref (h 0)), (1, .int x)] := hl
  refine lv_aload_n C.1 C.2.1 d_S_requireSnapshot_0 rfl (lv_at hl 0 rfl) ?_
  refine lv_iload_n C.1 C.2.1 d_S_requireSnapshot_1 rfl (lv_at hl 1 rfl) ?_
  refine sv_ci C I (c_S_hasSnapshot l D cA h _ bw cw ts tb st ro mr la fu dn wr x) lk_S119 rfl rfl ⟨by decide, by decide⟩ ⟨Nat.zero_le _, Nat.zero_le _⟩ rfl hl.1 (rest := []) rfl (Nat.le_of_ble_eq_true rfl) d_S_requireSnapshot_2 (fun r u' H locs w2 I => ?_)
  obtain ⟨rfl, rfl⟩ := w2
  refine n_ifne (b := cHas st x) (tgt := 18) C.1 C.2.1 d_S_requireSnapshot_5 (by decide) (fun q5 => ?_) (fun q5 => ?_)
  · exact sv_xrv C hr I ⟨rfl, reqS_ok q5, hfu⟩ d_S_requireSnapshot_18
  · exact sv_thr (kd := 3) (names := exN) (by rw [hl.1]; exact C) X I (by decide +kernel) (by decide +kernel) thr3 thw3 thc3 thi3 thn3 (tx := "no snapshot in that place") (by decide +kernel) d_S_requireSnapshot_8 d_S_requireSnapshot_11 d_S_requireSnapshot_12 d_S_requireSnapshot_14 d_S_requireSnapshot_17 (by decide) (by decide) (by decide) (by decide) (reqS_no q5)
set_option maxHeartbeats 4000000 in
set_option maxRecDepth 100000 in
/-- R_S.requireBlock -/
theorem c_S_requireBlock (l : Launch) (hlt : l.stackTraces = false) (D : va_G) (cA : Nat → ClassId) (h : Nat → Nat) (sz : Nat) (bw : (Nat → Int32)) (cw : (Nat → Int32)) (ts : (Nat → Int32)) (tb : (Nat → Int32)) (st : (Nat → Int32)) (ro : Nat) (mr : Nat) (la : Nat) (fu : Option Nat) (dn : Bool) (wr : Nat) (x : Int32) (hfu : ∀ k, fu = some k → k < 2 ^ 31) : svX l D cA h (bw, cw, ts, tb, st, ro, mr, la, fu, dn, wr) sz y_S_requireBlock (.code y_S_requireBlock b_S_requireBlock 2 none) (rmX 0) [.int x] (fun v u' => v = none ∧ cReqB x (bw, cw, ts, tb, st, ro, mr, la, fu, dn, wr) = (.ok (), u') ∧ fB u') (fun k u' => cReqB x (bw, cw, ts, tb, st, ro, mr, la, fu, dn, wr) = (.error k, u')) := by
  refine sv_x hlt (by decide) rfl (Nat.le_of_ble_eq_true rfl) ?_
  intro p e s m args below meth c C X hr hsz I ls hl
  generalize svA cA h (bw, cw, ts, tb, st, ro, mr, la, fu, dn, wr) sz = A at I X ⊢
  have hl : lv_has ls 2 [(0, .ref (h 0)), (1, .int x)] := hl
  refine lv_iload_n C.1 C.2.1 d_S_requireBlock_0 rfl (lv_at hl 1 rfl) ?_
  refine lv_if_lt (x := x) (tgt := 10) C.1 C.2.1 d_S_requireBlock_1 (by decide) (fun q1 => ?_) (fun q1 => ?_)
  · exact sv_thr (kd := 1) (names := exN) (by rw [hl.1]; exact C) X I (by decide +kernel) (by decide +kernel) thr1 thw1 thc1 thi1 thn1 (tx := "no such block") (by decide +kernel) d_S_requireBlock_10 d_S_requireBlock_13 d_S_requireBlock_14 d_S_requireBlock_16 d_S_requireBlock_19 (by decide) (by decide) (by decide) (by decide) (by first | exact reqB_no (ixI_lo q1) _ | exact reqB_no (ixI_hi (Int32.not_lt.mp q7)) _)
  · refine lv_iload_n C.1 C.2.1 d_S_requireBlock_4 rfl (lv_at hl 1 rfl) ?_
    refine lv_bipush (v := nI 6) C.1 C.2.1 d_S_requireBlock_5 (by decide) ?_
    refine lv_icmp_lt (x := x) (y := nI 6) (tgt := 20) C.1 C.2.1 d_S_requireBlock_7 (by decide) (fun q7 => ?_) (fun q7 => ?_)
    · exact sv_xrv C hr I ⟨rfl, (by obtain ⟨k, hk, rfl⟩ := ixI_of (n := 6) (by decide) q1 (Int32.not_le.mpr q7); exact reqB_yes hk _), hfu⟩ d_S_requireBlock_20
    · exact sv_thr (kd := 1) (names := exN) (by rw [hl.1]; exact C) X I (by decide +kernel) (by decide +kernel) thr1 thw1 thc1 thi1 thn1 (tx := "no such block") (by decide +kernel) d_S_requireBlock_10 d_S_requireBlock_13 d_S_requireBlock_14 d_S_requireBlock_16 d_S_requireBlock_19 (by decide) (by decide) (by decide) (by decide) (by first | exact reqB_no (ixI_lo q1) _ | exact reqB_no (ixI_hi (Int32.not_lt.mp q7)) _)
set_option maxHeartbeats 4000000 in
set_option maxRecDepth 100000 in
/-- R_S.requireWord -/
theorem c_S_requireWord (l : Launch) (hlt : l.stackTraces = false) (D : va_G) (cA : Nat → ClassId) (h : Nat → Nat) (sz : Nat) (bw : (Nat → Int32)) (cw : (Nat → Int32)) (ts : (Nat → Int32)) (tb : (Nat → Int32)) (st : (Nat → Int32)) (ro : Nat) (mr : Nat) (la : Nat) (fu : Option Nat) (dn : Bool) (wr : Nat) (x y : Int32) (hfu : ∀ k, fu = some k → k < 2 ^ 31) : svX l D cA h (bw, cw, ts, tb, st, ro, mr, la, fu, dn, wr) sz y_S_requireWord (.code y_S_requireWord b_S_requireWord 3 none) (rmX 1) [.int x, .int y] (fun v u' => v = none ∧ cReqW x y (bw, cw, ts, tb, st, ro, mr, la, fu, dn, wr) = (.ok (), u') ∧ fB u') (fun k u' => cReqW x y (bw, cw, ts, tb, st, ro, mr, la, fu, dn, wr) = (.error k, u')) := by
  refine sv_x hlt (by decide) rfl (Nat.le_of_ble_eq_true rfl) ?_
  intro p e s m args below meth c C X hr hsz I ls hl
  generalize svA cA h (bw, cw, ts, tb, st, ro, mr, la, fu, dn, wr) sz = A at I X ⊢
  have hl : lv_has ls 3 [(0, .ref (h 0)), (1, .int x), (2, .int y)] := hl
  refine lv_aload_n C.1 C.2.1 d_S_requireWord_0 rfl (lv_at hl 0 rfl) ?_
  refine lv_iload_n C.1 C.2.1 d_S_requireWord_1 rfl (lv_at hl 1 rfl) ?_
  refine sv_xc C X I (c_S_requireBlock l hlt D cA h _ bw cw ts tb st ro mr la fu dn wr x hfu) lk_S116 rfl rfl ⟨by decide, by decide⟩ ⟨by decide, by decide⟩ rfl hl.1 (rest := []) rfl (Nat.le_of_ble_eq_true rfl) d_S_requireWord_2 (fun k u' w2 => cB_err w2) (fun v u' H locs w2 I => ?_)
  obtain ⟨rfl, w2, hfb⟩ := w2
  obtain ⟨rfl, k, hk, rfl⟩ := reqB_inv w2
  refine lv_iload_n C.1 C.2.1 d_S_requireWord_5 rfl (lv_at hl 2 rfl) ?_
  refine lv_if_lt (x := y) (tgt := 14) C.1 C.2.1 d_S_requireWord_6 (by decide) (fun q6 => ?_) (fun q6 => ?_)
  · exact sv_thr (kd := 1) (names := exN) (by rw [hl.1]; exact C) X I (by decide +kernel) (by decide +kernel) thr1 thw1 thc1 thi1 thn1 (tx := "no such word") (by decide +kernel) d_S_requireWord_14 d_S_requireWord_17 d_S_requireWord_18 d_S_requireWord_20 d_S_requireWord_23 (by decide) (by decide) (by decide) (by decide) (by first | exact reqW_no (Or.inr (ixI_lo q6)) _ | exact reqW_no (Or.inr (ixI_hi (Int32.not_lt.mp q11))) _)
  · refine lv_iload_n C.1 C.2.1 d_S_requireWord_9 rfl (lv_at hl 2 rfl) ?_
    refine lv_iconst (v := nI 4) C.1 C.2.1 d_S_requireWord_10 (by decide) ?_
    refine lv_icmp_lt (x := y) (y := nI 4) (tgt := 24) C.1 C.2.1 d_S_requireWord_11 (by decide) (fun q11 => ?_) (fun q11 => ?_)
    · exact sv_xrv C hr I ⟨rfl, (by obtain ⟨i, hi, rfl⟩ := ixI_of (n := 4) (by decide) q6 (Int32.not_le.mpr q11); exact reqW_ok (ixI_nI hk (by decide)) (ixI_nI hi (by decide)) _), hfu⟩ d_S_requireWord_24
    · exact sv_thr (kd := 1) (names := exN) (by rw [hl.1]; exact C) X I (by decide +kernel) (by decide +kernel) thr1 thw1 thc1 thi1 thn1 (tx := "no such word") (by decide +kernel) d_S_requireWord_14 d_S_requireWord_17 d_S_requireWord_18 d_S_requireWord_20 d_S_requireWord_23 (by decide) (by decide) (by decide) (by decide) (by first | exact reqW_no (Or.inr (ixI_lo q6)) _ | exact reqW_no (Or.inr (ixI_hi (Int32.not_lt.mp q11))) _)
set_option maxHeartbeats 4000000 in
set_option maxRecDepth 100000 in
/-- R_S.requireFree -/
theorem c_S_requireFree (l : Launch) (hlt : l.stackTraces = false) (D : va_G) (cA : Nat → ClassId) (h : Nat → Nat) (sz : Nat) (bw : (Nat → Int32)) (cw : (Nat → Int32)) (ts : (Nat → Int32)) (tb : (Nat → Int32)) (st : (Nat → Int32)) (ro : Nat) (mr : Nat) (la : Nat) (fu : Option Nat) (dn : Bool) (wr : Nat) (n0 : Nat) (hn0 : n0 < 2 ^ 31) (hfu : ∀ k, fu = some k → k < 2 ^ 31) : svX l D cA h (bw, cw, ts, tb, st, ro, mr, la, fu, dn, wr) sz y_S_requireFree (.code y_S_requireFree b_S_requireFree 2 none) (rmX 2) [.int (nI n0)] (fun v u' => v = none ∧ cReqF n0 (bw, cw, ts, tb, st, ro, mr, la, fu, dn, wr) = (.ok (), u') ∧ fB u') (fun k u' => cReqF n0 (bw, cw, ts, tb, st, ro, mr, la, fu, dn, wr) = (.error k, u')) := by
  refine sv_x hlt (by decide) rfl (Nat.le_of_ble_eq_true rfl) ?_
  intro p e s m args below meth c C X hr hsz I ls hl
  generalize svA cA h (bw, cw, ts, tb, st, ro, mr, la, fu, dn, wr) sz = A at I X ⊢
  have hl : lv_has ls 2 [(0, .ref (h 0)), (1, .int (nI n0))] := hl
  have hc9 : cNF ts st ≤ 9 := cnt_le _ 9
  refine lv_aload_n C.1 C.2.1 d_S_requireFree_0 rfl (lv_at hl 0 rfl) ?_
  refine sv_ci C I (c_S_countFree l D cA h _ bw cw ts tb st ro mr la fu dn wr) lk_S113 rfl rfl ⟨by decide, by decide⟩ ⟨Nat.zero_le _, Nat.zero_le _⟩ rfl hl.1 (rest := []) rfl (Nat.le_of_ble_eq_true rfl) d_S_requireFree_1 (fun r u' H locs w1 I => ?_)
  obtain ⟨rfl, rfl⟩ := w1
  refine lv_iload_n C.1 C.2.1 d_S_requireFree_4 rfl (lv_at hl 1 rfl) ?_
  refine n_icmp_ge C.1 C.2.1 (a := cNF ts st) (b := n0) (tgt := 18) (by omega) (by omega) d_S_requireFree_5 (by decide) (fun q5 => ?_) (fun q5 => ?_)
  · exact sv_xrv C hr I ⟨rfl, if_neg (by omega), hfu⟩ d_S_requireFree_18
  · exact sv_thr (kd := 2) (names := exN) (by rw [hl.1]; exact C) X I (by decide +kernel) (by decide +kernel) thr2 thw2 thc2 thi2 thn2 (tx := "too few copy blocks are free") (by decide +kernel) d_S_requireFree_8 d_S_requireFree_11 d_S_requireFree_12 d_S_requireFree_14 d_S_requireFree_17 (by decide) (by decide) (by decide) (by decide) (if_pos q5)
