set_option maxHeartbeats 4000000 in
set_option maxRecDepth 100000 in
/-- R_S.write -/
theorem c_S_write (l : Launch) (hlt : l.stackTraces = false) (D : va_G) (cA : Nat → ClassId) (h : Nat → Nat) (sz : Nat) (bw : (Nat → Int32)) (cw : (Nat → Int32)) (ts : (Nat → Int32)) (tb : (Nat → Int32)) (st : (Nat → Int32)) (ro : Nat) (mr : Nat) (la : Nat) (fu : Option Nat) (dn : Bool) (wr : Nat) (x y w0 : Int32) (hfu : ∀ k, fu = some k → k < 2 ^ 31) : svX l D cA h (bw, cw, ts, tb, st, ro, mr, la, fu, dn, wr) sz y_S_write (.code y_S_write b_S_write 5 (some .int)) (rmX 4) [.int x, .int y, .int w0] (fun v u' => ∃ r, v = some (.int (nI r)) ∧ cWrite x y w0 (bw, cw, ts, tb, st, ro, mr, la, fu, dn, wr) = (.ok r, u') ∧ fB u') (fun k u' => cWrite x y w0 (bw, cw, ts, tb, st, ro, mr, la, fu, dn, wr) = (.error k, u')) := by
  refine sv_x hlt (by decide) rfl (Nat.le_of_ble_eq_true rfl) ?_
  intro p e s m args below meth c C X hr hsz I ls hl
  generalize svA cA h (bw, cw, ts, tb, st, ro, mr, la, fu, dn, wr) sz = A at I X ⊢
  have hl : lv_has ls 5 [(0, .ref (h 0)), (1, .int x), (2, .int y), (3, .int w0)] := hl
  refine lv_aload_n C.1 C.2.1 d_S_write_0 rfl (lv_at hl 0 rfl) ?_
  refine sv_xc C X I (c_S_requireUp l hlt D cA h _ bw cw ts tb st ro mr la fu dn wr hfu) lk_S28 rfl rfl ⟨by decide, by decide⟩ ⟨by decide, by decide⟩ rfl hl.1 (rest := []) rfl (Nat.le_of_ble_eq_true rfl) d_S_write_1 (fun k u' w1 => cB_err w1) (fun v u' H locs w1 I => ?_)
  obtain ⟨rfl, z1, -⟩ := w1
  obtain ⟨rfl, hdn⟩ := up_inv z1
  refine lv_aload_n C.1 C.2.1 d_S_write_4 rfl (lv_at hl 0 rfl) ?_
  refine lv_iload_n C.1 C.2.1 d_S_write_5 rfl (lv_at hl 1 rfl) ?_
  refine lv_iload_n C.1 C.2.1 d_S_write_6 rfl (lv_at hl 2 rfl) ?_
  refine sv_xc C X I (c_S_requireWord l hlt D cA h _ bw cw ts tb st ro mr la fu dn wr x y hfu) lk_S31 rfl rfl ⟨by decide, by decide⟩ ⟨by decide, by decide⟩ rfl hl.1 (rest := []) rfl (Nat.le_of_ble_eq_true rfl) d_S_write_7 (fun k u' w7 => (cB_ok z1).trans (cB_err w7)) (fun v u' H locs w7 I => ?_)
  obtain ⟨rfl, zw, -⟩ := w7
  obtain ⟨rfl, ⟨b1, hb1, rfl⟩, i1, hi1, rfl⟩ := reqW_inv zw
  have hR : cWrite (nI b1) (nI i1) w0 (bw, cw, ts, tb, st, ro, mr, la, fu, dn, wr) = cB (cReqF (cNS ts tb st b1)) (fun _ => cB (cCopies b1) fun n => cB (cPutB b1 i1 w0) fun _ => cOk n) (bw, cw, ts, tb, st, ro, mr, la, fu, dn, wr) := (cB_ok z1).trans ((cB_ok zw).trans (by simp only [cN_nI (show b1 < 2 ^ 31 by omega), cN_nI (show i1 < 2 ^ 31 by omega)]))
  refine lv_aload_n C.1 C.2.1 d_S_write_10 rfl (lv_at hl 0 rfl) ?_
  refine lv_aload_n C.1 C.2.1 d_S_write_11 rfl (lv_at hl 0 rfl) ?_
  refine lv_iload_n C.1 C.2.1 d_S_write_12 rfl (lv_at hl 1 rfl) ?_
  refine sv_ci C I (c_S_countSharers l D cA h _ bw cw ts tb st ro mr la fu dn wr b1 (by omega)) lk_S35 rfl rfl ⟨by decide, by decide⟩ ⟨Nat.zero_le _, Nat.zero_le _⟩ rfl hl.1 (rest := [.ref (h 0)]) rfl (Nat.le_of_ble_eq_true rfl) d_S_write_13 (fun r u' H locs w13 I => ?_)
  obtain ⟨rfl, rfl⟩ := w13
  refine sv_xc C X I (c_S_requireFree l hlt D cA h _ bw cw ts tb st ro mr la fu dn wr (cNS ts tb st b1) (Nat.lt_of_le_of_lt (cNS_le _ _ _ _) (by decide)) hfu) lk_S39 rfl rfl ⟨by decide, by decide⟩ ⟨by decide, by decide⟩ rfl hl.1 (rest := []) rfl (Nat.le_of_ble_eq_true rfl) d_S_write_16 (fun k u' w16 => hR.trans (cB_err w16)) (fun v u' H locs w16 I => ?_)
  obtain ⟨rfl, z16, -⟩ := w16
  obtain ⟨rfl, hnf⟩ := reqF_inv z16
  refine lv_aload_n C.1 C.2.1 d_S_write_19 rfl (lv_at hl 0 rfl) ?_
  refine lv_iload_n C.1 C.2.1 d_S_write_20 rfl (lv_at hl 1 rfl) ?_
  refine sv_xc C X I (c_S_copyForSharers l hlt D cA h _ bw cw ts tb st ro mr la fu dn wr b1 (by omega) hfu) lk_S43 rfl rfl ⟨by decide, by decide⟩ ⟨by decide, by decide⟩ rfl hl.1 (rest := []) rfl (Nat.le_of_ble_eq_true rfl) d_S_write_21 (fun k u' w21 => hR.trans ((cB_ok z16).trans (cB_err w21))) (fun v u' H locs w21 I => ?_)
  obtain ⟨r21, rfl, z21, hfb21⟩ := w21
  obtain ⟨bw_x, cw_x, ts_x, tb_x, st_x, ro_x, mr_x, la_x, fu_x, dn_x, wr_x⟩ := u'
  refine lv_istore (lv' := [(4, .int (nI r21)), (0, .ref (h 0)), (1, .int (nI b1)), (2, .int (nI i1)), (3, .int w0)]) C.1 C.2.1 d_S_write_24 hl (by decide) rfl (fun ls hl => ?_)
  refine lv_aload_n C.1 C.2.1 d_S_write_26 rfl (lv_at hl 1 rfl) ?_
  refine lv_iload_n C.1 C.2.1 d_S_write_27 rfl (lv_at hl 2 rfl) ?_
  refine lv_iload_n C.1 C.2.1 d_S_write_28 rfl (lv_at hl 3 rfl) ?_
  refine lv_iload_n C.1 C.2.1 d_S_write_29 rfl (lv_at hl 4 rfl) ?_
  refine sv_xc C X I (c_S_putBlockWord l hlt D cA h _ bw_x cw_x ts_x tb_x st_x ro_x mr_x la_x fu_x dn_x wr_x b1 i1 w0 (by omega) (by omega) hfb21) lk_S46 rfl rfl ⟨by decide, by decide⟩ ⟨by decide, by decide⟩ rfl hl.1 (rest := []) rfl (Nat.le_of_ble_eq_true rfl) d_S_write_30 (fun k u' w30 => hR.trans ((cB_ok z16).trans ((cB_ok z21).trans (cB_err w30)))) (fun v u' H locs w30 I => ?_)
  obtain ⟨rfl, z30, hfb30⟩ := w30
  refine lv_iload C.1 C.2.1 d_S_write_33 (lv_at hl 0 rfl) ?_
  exact sv_xri (v := nI r21) C hr I ⟨r21, rfl, hR.trans ((cB_ok z16).trans ((cB_ok z21).trans (cB_ok z30))), hfb30⟩ d_S_write_35
set_option maxHeartbeats 4000000 in
set_option maxRecDepth 100000 in
/-- R_S.read -/
theorem c_S_read (l : Launch) (hlt : l.stackTraces = false) (D : va_G) (cA : Nat → ClassId) (h : Nat → Nat) (sz : Nat) (bw : (Nat → Int32)) (cw : (Nat → Int32)) (ts : (Nat → Int32)) (tb : (Nat → Int32)) (st : (Nat → Int32)) (ro : Nat) (mr : Nat) (la : Nat) (fu : Option Nat) (dn : Bool) (wr : Nat) (x y : Int32) (hfu : ∀ k, fu = some k → k < 2 ^ 31) : svX l D cA h (bw, cw, ts, tb, st, ro, mr, la, fu, dn, wr) sz y_S_read (.code y_S_read b_S_read 3 (some .int)) (rmX 2) [.int x, .int y] (fun v u' => ∃ r, v = some (.int (r)) ∧ cRead x y (bw, cw, ts, tb, st, ro, mr, la, fu, dn, wr) = (.ok r, u') ∧ fB u') (fun k u' => cRead x y (bw, cw, ts, tb, st, ro, mr, la, fu, dn, wr) = (.error k, u')) := by
  refine sv_x hlt (by decide) rfl (Nat.le_of_ble_eq_true rfl) ?_
  intro p e s m args below meth c C X hr hsz I ls hl
  generalize svA cA h (bw, cw, ts, tb, st, ro, mr, la, fu, dn, wr) sz = A at I X ⊢
  have hl : lv_has ls 3 [(0, .ref (h 0)), (1, .int x), (2, .int y)] := hl
  refine lv_aload_n C.1 C.2.1 d_S_read_0 rfl (lv_at hl 0 rfl) ?_
  refine sv_xc C X I (c_S_requireUp l hlt D cA h _ bw cw ts tb st ro mr la fu dn wr hfu) lk_S28 rfl rfl ⟨by decide, by decide⟩ ⟨by decide, by decide⟩ rfl hl.1 (rest := []) rfl (Nat.le_of_ble_eq_true rfl) d_S_read_1 (fun k u' w1 => cB_err w1) (fun v u' H locs w1 I => ?_)
  obtain ⟨rfl, z1, -⟩ := w1
  obtain ⟨rfl, hdn⟩ := up_inv z1
  refine lv_aload_n C.1 C.2.1 d_S_read_4 rfl (lv_at hl 0 rfl) ?_
  refine lv_iload_n C.1 C.2.1 d_S_read_5 rfl (lv_at hl 1 rfl) ?_
  refine lv_iload_n C.1 C.2.1 d_S_read_6 rfl (lv_at hl 2 rfl) ?_
  refine sv_xc C X I (c_S_requireWord l hlt D cA h _ bw cw ts tb st ro mr la fu dn wr x y hfu) lk_S31 rfl rfl ⟨by decide, by decide⟩ ⟨by decide, by decide⟩ rfl hl.1 (rest := []) rfl (Nat.le_of_ble_eq_true rfl) d_S_read_7 (fun k u' w7 => (cB_ok z1).trans (cB_err w7)) (fun v u' H locs w7 I => ?_)
  obtain ⟨rfl, zw, -⟩ := w7
  obtain ⟨rfl, ⟨b1, hb1, rfl⟩, i1, hi1, rfl⟩ := reqW_inv zw
  refine lv_aload_n C.1 C.2.1 d_S_read_10 rfl (lv_at hl 0 rfl) ?_
  refine sv_g0 C I d_S_read_11 ?_
  refine lv_iload_n C.1 C.2.1 d_S_read_14 rfl (lv_at hl 1 rfl) ?_
  refine lv_iconst (v := nI 4) C.1 C.2.1 d_S_read_15 (by decide) ?_
  refine n_imul C.1 C.2.1 (a := b1) (b := 4) d_S_read_16 ?_
  refine lv_iload_n C.1 C.2.1 d_S_read_17 rfl (lv_at hl 2 rfl) ?_
  refine n_iadd C.1 C.2.1 (a := b1 * 4) (b := i1) d_S_read_18 ?_
  refine sv_l1 C I (k := (b1 * 4) + i1) (by omega) d_S_read_19 ?_
  exact sv_xri (v := (bw ((b1 * 4) + i1))) C hr I ⟨_, rfl, (cB_ok z1).trans ((cB_ok zw).trans (by simp only [cN_nI (show b1 < 2 ^ 31 by omega), cN_nI (show i1 < 2 ^ 31 by omega)])), hfu⟩ d_S_read_20
set_option maxHeartbeats 4000000 in
set_option maxRecDepth 100000 in
/-- R_S.snapshot -/
theorem c_S_snapshot (l : Launch) (hlt : l.stackTraces = false) (D : va_G) (cA : Nat → ClassId) (h : Nat → Nat) (sz : Nat) (bw : (Nat → Int32)) (cw : (Nat → Int32)) (ts : (Nat → Int32)) (tb : (Nat → Int32)) (st : (Nat → Int32)) (ro : Nat) (mr : Nat) (la : Nat) (fu : Option Nat) (dn : Bool) (wr : Nat)  (hfu : ∀ k, fu = some k → k < 2 ^ 31) : svX l D cA h (bw, cw, ts, tb, st, ro, mr, la, fu, dn, wr) sz y_S_snapshot (.code y_S_snapshot b_S_snapshot 2 (some .int)) (rmX 2) [] (fun v u' => ∃ r, v = some (.int (nI r)) ∧ cSnap (bw, cw, ts, tb, st, ro, mr, la, fu, dn, wr) = (.ok r, u') ∧ fB u') (fun k u' => cSnap (bw, cw, ts, tb, st, ro, mr, la, fu, dn, wr) = (.error k, u')) := by
  refine sv_x hlt (by decide) rfl (Nat.le_of_ble_eq_true rfl) ?_
  intro p e s m args below meth c C X hr hsz I ls hl
  generalize svA cA h (bw, cw, ts, tb, st, ro, mr, la, fu, dn, wr) sz = A at I X ⊢
  have hl : lv_has ls 2 [(0, .ref (h 0))] := hl
  refine lv_aload_n C.1 C.2.1 d_S_snapshot_0 rfl (lv_at hl 0 rfl) ?_
  refine sv_xc C X I (c_S_requireUp l hlt D cA h _ bw cw ts tb st ro mr la fu dn wr hfu) lk_S28 rfl rfl ⟨by decide, by decide⟩ ⟨by decide, by decide⟩ rfl hl.1 (rest := []) rfl (Nat.le_of_ble_eq_true rfl) d_S_snapshot_1 (fun k u' w1 => cB_err w1) (fun v u' H locs w1 I => ?_)
  obtain ⟨rfl, z1, -⟩ := w1
  obtain ⟨rfl, hdn⟩ := up_inv z1
  refine lv_aload_n C.1 C.2.1 d_S_snapshot_4 rfl (lv_at hl 0 rfl) ?_
  refine sv_ci C I (c_S_lowestEmptyPlace l D cA h _ bw cw ts tb st ro mr la fu dn wr) lk_S50 rfl rfl ⟨by decide, by decide⟩ ⟨Nat.zero_le _, Nat.zero_le _⟩ rfl hl.1 (rest := []) rfl (Nat.le_of_ble_eq_true rfl) d_S_snapshot_5 (fun r u' H locs w5 I => ?_)
  obtain ⟨rfl, rfl⟩ := w5
  rcases hs1 : cLE st with _ | s1
  · refine lv_istore_n (lv' := [(1, .int (oI none)), (0, .ref (h 0))]) C.1 C.2.1 d_S_snapshot_8 rfl hl (by decide) rfl (fun ls hl => ?_)
    refine lv_iload_n C.1 C.2.1 d_S_snapshot_9 rfl (lv_at hl 0 rfl) ?_
    refine lv_iconst (v := oI none) C.1 C.2.1 d_S_snapshot_10 (by decide) ?_
    refine lv_icmp_ne (x := oI none) (y := oI none) (tgt := 24) C.1 C.2.1 d_S_snapshot_11 (by decide) (fun q11 => absurd rfl q11) (fun q11 => ?_)
    exact sv_thr (kd := 2) (names := exN) (by rw [hl.1]; exact C) X I (by decide +kernel) (by decide +kernel) thr2 thw2 thc2 thi2 thn2 (tx := "no place is empty") (by decide +kernel) d_S_snapshot_14 d_S_snapshot_17 d_S_snapshot_18 d_S_snapshot_20 d_S_snapshot_23 (by decide) (by decide) (by decide) (by decide) ((cB_ok z1).trans (by simp only [hs1]))
  · have hs1l := cLE_lt hs1
    refine lv_istore_n (lv' := [(1, .int (nI s1)), (0, .ref (h 0))]) C.1 C.2.1 d_S_snapshot_8 rfl hl (by decide) rfl (fun ls hl => ?_)
    refine lv_iload_n C.1 C.2.1 d_S_snapshot_9 rfl (lv_at hl 0 rfl) ?_
    refine lv_iconst (v := oI none) C.1 C.2.1 d_S_snapshot_10 (by decide) ?_
    refine lv_icmp_ne (x := nI s1) (y := oI none) (tgt := 24) C.1 C.2.1 d_S_snapshot_11 (by decide) (fun q11 => ?_) (fun q11 => absurd ((oI_n (o := none) (by omega) (fun _ e => by cases e)).mp q11) (fun z => by cases z))
    refine lv_aload_n C.1 C.2.1 d_S_snapshot_24 rfl (lv_at hl 1 rfl) ?_
    refine lv_iload_n C.1 C.2.1 d_S_snapshot_25 rfl (lv_at hl 0 rfl) ?_
    refine lv_aload_n C.1 C.2.1 d_S_snapshot_26 rfl (lv_at hl 1 rfl) ?_
    refine sv_g7 C I d_S_snapshot_27 ?_
    refine lv_iconst (v := nI 1) C.1 C.2.1 d_S_snapshot_30 (by decide) ?_
    refine n_iadd C.1 C.2.1 (a := la) (b := 1) d_S_snapshot_31 ?_
    refine sv_xc C X I (c_S_putStamp l hlt D cA h _ bw cw ts tb st ro mr la fu dn wr s1 (nI (la + 1)) (by omega) hfu) lk_S65 rfl rfl ⟨by decide, by decide⟩ ⟨by decide, by decide⟩ rfl hl.1 (rest := []) rfl (Nat.le_of_ble_eq_true rfl) d_S_snapshot_32 (fun k u' w32 => (cB_ok z1).trans (by simp only [hs1]; exact cB_err w32)) (fun v u' H locs w32 I => ?_)
    obtain ⟨rfl, z32, hfb⟩ := w32
    obtain ⟨fu2, rfl⟩ := putS_inv z32
    refine lv_aload_n C.1 C.2.1 d_S_snapshot_35 rfl (lv_at hl 1 rfl) ?_
    refine lv_dup C.1 C.2.1 d_S_snapshot_36 rfl ?_
    refine sv_g7 C I d_S_snapshot_37 ?_
    refine lv_iconst (v := nI 1) C.1 C.2.1 d_S_snapshot_40 (by decide) ?_
    refine n_iadd C.1 C.2.1 (a := la) (b := 1) d_S_snapshot_41 ?_
    refine sv_p7 C I (la + 1) rfl d_S_snapshot_42 (fun H locs I => ?_)
    refine lv_iload_n C.1 C.2.1 d_S_snapshot_45 rfl (lv_at hl 0 rfl) ?_
    exact sv_xri (v := nI s1) C hr I ⟨s1, rfl, (cB_ok z1).trans (by simp only [hs1]; exact cB_ok z32), hfb⟩ d_S_snapshot_46
set_option maxHeartbeats 4000000 in
set_option maxRecDepth 100000 in
/-- R_S.drop -/
theorem c_S_drop (l : Launch) (hlt : l.stackTraces = false) (D : va_G) (cA : Nat → ClassId) (h : Nat → Nat) (sz : Nat) (bw : (Nat → Int32)) (cw : (Nat → Int32)) (ts : (Nat → Int32)) (tb : (Nat → Int32)) (st : (Nat → Int32)) (ro : Nat) (mr : Nat) (la : Nat) (fu : Option Nat) (dn : Bool) (wr : Nat) (x : Int32) (hfu : ∀ k, fu = some k → k < 2 ^ 31) : svX l D cA h (bw, cw, ts, tb, st, ro, mr, la, fu, dn, wr) sz y_S_drop (.code y_S_drop b_S_drop 2 none) (rmX 2) [.int x] (fun v u' => v = none ∧ cDrop x (bw, cw, ts, tb, st, ro, mr, la, fu, dn, wr) = (.ok (), u') ∧ fB u') (fun k u' => cDrop x (bw, cw, ts, tb, st, ro, mr, la, fu, dn, wr) = (.error k, u')) := by
  refine sv_x hlt (by decide) rfl (Nat.le_of_ble_eq_true rfl) ?_
  intro p e s m args below meth c C X hr hsz I ls hl
  generalize svA cA h (bw, cw, ts, tb, st, ro, mr, la, fu, dn, wr) sz = A at I X ⊢
  have hl : lv_has ls 2 [(0, .ref (h 0)), (1, .int x)] := hl
  refine lv_aload_n C.1 C.2.1 d_S_drop_0 rfl (lv_at hl 0 rfl) ?_
  refine sv_xc C X I (c_S_requireUp l hlt D cA h _ bw cw ts tb st ro mr la fu dn wr hfu) lk_S28 rfl rfl ⟨by decide, by decide⟩ ⟨by decide, by decide⟩ rfl hl.1 (rest := []) rfl (Nat.le_of_ble_eq_true rfl) d_S_drop_1 (fun k u' w1 => cB_err w1) (fun v u' H locs w1 I => ?_)
  obtain ⟨rfl, z1, -⟩ := w1
  obtain ⟨rfl, hdn⟩ := up_inv z1
  refine lv_aload_n C.1 C.2.1 d_S_drop_4 rfl (lv_at hl 0 rfl) ?_
  refine lv_iload_n C.1 C.2.1 d_S_drop_5 rfl (lv_at hl 1 rfl) ?_
  refine sv_xc C X I (c_S_requireSnapshot l hlt D cA h _ bw cw ts tb st ro mr la fu dn wr x hfu) lk_S68 rfl rfl ⟨by decide, by decide⟩ ⟨by decide, by decide⟩ rfl hl.1 (rest := []) rfl (Nat.le_of_ble_eq_true rfl) d_S_drop_6 (fun k u' w6 => (cB_ok z1).trans (cB_err w6)) (fun v u' H locs w6 I => ?_)
  obtain ⟨rfl, zs, -⟩ := w6
  obtain ⟨rfl, hx⟩ := reqS_inv zs
  obtain ⟨s1, hs1, rfl⟩ := has_ix hx
  refine lv_aload_n C.1 C.2.1 d_S_drop_9 rfl (lv_at hl 0 rfl) ?_
  refine lv_iload_n C.1 C.2.1 d_S_drop_10 rfl (lv_at hl 1 rfl) ?_
  refine lv_iconst (v := nI 0) C.1 C.2.1 d_S_drop_11 (by decide) ?_
  refine sv_xc C X I (c_S_putStamp l hlt D cA h _ bw cw ts tb st ro mr la fu dn wr s1 0 (by omega) hfu) lk_S65 rfl rfl ⟨by decide, by decide⟩ ⟨by decide, by decide⟩ rfl hl.1 (rest := []) rfl (Nat.le_of_ble_eq_true rfl) d_S_drop_12 (fun k u' w12 => (cB_ok z1).trans ((cB_ok zs).trans (by rw [cN_nI (show s1 < 2 ^ 31 by omega)]; exact w12))) (fun v u' H locs w12 I => ?_)
  obtain ⟨rfl, z12, hfb⟩ := w12
  exact sv_xrv C hr I ⟨rfl, (cB_ok z1).trans ((cB_ok zs).trans (by rw [cN_nI (show s1 < 2 ^ 31 by omega)]; exact z12)), hfb⟩ d_S_drop_15
set_option maxHeartbeats 4000000 in
set_option maxRecDepth 100000 in
/-- R_S.readSnapshot -/
theorem c_S_readSnapshot (l : Launch) (hlt : l.stackTraces = false) (D : va_G) (cA : Nat → ClassId) (h : Nat → Nat) (sz : Nat) (bw : (Nat → Int32)) (cw : (Nat → Int32)) (ts : (Nat → Int32)) (tb : (Nat → Int32)) (st : (Nat → Int32)) (ro : Nat) (mr : Nat) (la : Nat) (fu : Option Nat) (dn : Bool) (wr : Nat) (x y z : Int32) (hfu : ∀ k, fu = some k → k < 2 ^ 31) : svX l D cA h (bw, cw, ts, tb, st, ro, mr, la, fu, dn, wr) sz y_S_readSnapshot (.code y_S_readSnapshot b_S_readSnapshot 4 (some .int)) (rmX 3) [.int x, .int y, .int z] (fun v u' => ∃ r, v = some (.int (r)) ∧ cReadS x y z (bw, cw, ts, tb, st, ro, mr, la, fu, dn, wr) = (.ok r, u') ∧ fB u') (fun k u' => cReadS x y z (bw, cw, ts, tb, st, ro, mr, la, fu, dn, wr) = (.error k, u')) := by
  refine sv_x hlt (by decide) rfl (Nat.le_of_ble_eq_true rfl) ?_
  intro p e s m args below meth c C X hr hsz I ls hl
  generalize svA cA h (bw, cw, ts, tb, st, ro, mr, la, fu, dn, wr) sz = A at I X ⊢
  have hl : lv_has ls 4 [(0, .ref (h 0)), (1, .int x), (2, .int y), (3, .int z)] := hl
  refine lv_aload_n C.1 C.2.1 d_S_readSnapshot_0 rfl (lv_at hl 0 rfl) ?_
  refine sv_xc C X I (c_S_requireUp l hlt D cA h _ bw cw ts tb st ro mr la fu dn wr hfu) lk_S28 rfl rfl ⟨by decide, by decide⟩ ⟨by decide, by decide⟩ rfl hl.1 (rest := []) rfl (Nat.le_of_ble_eq_true rfl) d_S_readSnapshot_1 (fun k u' w1 => cB_err w1) (fun v u' H locs w1 I => ?_)
  obtain ⟨rfl, z1, -⟩ := w1
  obtain ⟨rfl, hdn⟩ := up_inv z1
  refine lv_aload_n C.1 C.2.1 d_S_readSnapshot_4 rfl (lv_at hl 0 rfl) ?_
  refine lv_iload_n C.1 C.2.1 d_S_readSnapshot_5 rfl (lv_at hl 1 rfl) ?_
  refine sv_xc C X I (c_S_requireSnapshot l hlt D cA h _ bw cw ts tb st ro mr la fu dn wr x hfu) lk_S68 rfl rfl ⟨by decide, by decide⟩ ⟨by decide, by decide⟩ rfl hl.1 (rest := []) rfl (Nat.le_of_ble_eq_true rfl) d_S_readSnapshot_6 (fun k u' w6 => (cB_ok z1).trans (cB_err w6)) (fun v u' H locs w6 I => ?_)
  obtain ⟨rfl, zs, -⟩ := w6
  obtain ⟨rfl, hx⟩ := reqS_inv zs
  obtain ⟨s1, hs1, rfl⟩ := has_ix hx
  refine lv_aload_n C.1 C.2.1 d_S_readSnapshot_9 rfl (lv_at hl 0 rfl) ?_
  refine lv_iload_n C.1 C.2.1 d_S_readSnapshot_10 rfl (lv_at hl 2 rfl) ?_
  refine lv_iload_n C.1 C.2.1 d_S_readSnapshot_11 rfl (lv_at hl 3 rfl) ?_
  refine sv_xc C X I (c_S_requireWord l hlt D cA h _ bw cw ts tb st ro mr la fu dn wr y z hfu) lk_S31 rfl rfl ⟨by decide, by decide⟩ ⟨by decide, by decide⟩ rfl hl.1 (rest := []) rfl (Nat.le_of_ble_eq_true rfl) d_S_readSnapshot_12 (fun k u' w12 => (cB_ok z1).trans ((cB_ok zs).trans (cB_err w12))) (fun v u' H locs w12 I => ?_)
  obtain ⟨rfl, zw, -⟩ := w12
  obtain ⟨rfl, ⟨b1, hb1, rfl⟩, i1, hi1, rfl⟩ := reqW_inv zw
  refine lv_aload_n C.1 C.2.1 d_S_readSnapshot_15 rfl (lv_at hl 0 rfl) ?_
  refine lv_iload_n C.1 C.2.1 d_S_readSnapshot_16 rfl (lv_at hl 1 rfl) ?_
  refine lv_iload_n C.1 C.2.1 d_S_readSnapshot_17 rfl (lv_at hl 2 rfl) ?_
  refine lv_iload_n C.1 C.2.1 d_S_readSnapshot_18 rfl (lv_at hl 3 rfl) ?_
  refine sv_ci C I (c_S_snapshotWord l D cA h _ bw cw ts tb st ro mr la fu dn wr s1 b1 (by omega) (by omega) i1 (by omega)) lk_S71 rfl rfl ⟨by decide, by decide⟩ ⟨Nat.zero_le _, Nat.zero_le _⟩ rfl hl.1 (rest := []) rfl (Nat.le_of_ble_eq_true rfl) d_S_readSnapshot_19 (fun r u' H locs w19 I => ?_)
  obtain ⟨rfl, rfl⟩ := w19
  exact sv_xri (v := (cWord bw cw ts tb st s1 b1 i1)) C hr I ⟨_, rfl, (cB_ok z1).trans ((cB_ok zs).trans ((cB_ok zw).trans (by simp only [cN_nI (show s1 < 2 ^ 31 by omega), cN_nI (show b1 < 2 ^ 31 by omega), cN_nI (show i1 < 2 ^ 31 by omega)]))), hfu⟩ d_S_readSnapshot_22
set_option maxHeartbeats 4000000 in
set_option maxRecDepth 100000 in
/-- R_S.writeSnapshot -/
theorem c_S_writeSnapshot (l : Launch) (hlt : l.stackTraces = false) (D : va_G) (cA : Nat → ClassId) (h : Nat → Nat) (sz : Nat) (bw : (Nat → Int32)) (cw : (Nat → Int32)) (ts : (Nat → Int32)) (tb : (Nat → Int32)) (st : (Nat → Int32)) (ro : Nat) (mr : Nat) (la : Nat) (fu : Option Nat) (dn : Bool) (wr : Nat) (x y z w0 : Int32) (hfu : ∀ k, fu = some k → k < 2 ^ 31) : svX l D cA h (bw, cw, ts, tb, st, ro, mr, la, fu, dn, wr) sz y_S_writeSnapshot (.code y_S_writeSnapshot b_S_writeSnapshot 6 (some .boolean)) (rmX 3) [.int x, .int y, .int z, .int w0] (fun v u' => ∃ r, v = some (.int (bI r)) ∧ cWriteS x y z w0 (bw, cw, ts, tb, st, ro, mr, la, fu, dn, wr) = (.ok r, u') ∧ fB u') (fun k u' => cWriteS x y z w0 (bw, cw, ts, tb, st, ro, mr, la, fu, dn, wr) = (.error k, u')) := by
  refine sv_x hlt (by decide) rfl (Nat.le_of_ble_eq_true rfl) ?_
  intro p e s m args below meth c C X hr hsz I ls hl
  generalize svA cA h (bw, cw, ts, tb, st, ro, mr, la, fu, dn, wr) sz = A at I X ⊢
  have hl : lv_has ls 6 [(0, .ref (h 0)), (1, .int x), (2, .int y), (3, .int z), (4, .int w0)] := hl
  refine lv_aload_n C.1 C.2.1 d_S_writeSnapshot_0 rfl (lv_at hl 0 rfl) ?_
  refine sv_xc C X I (c_S_requireUp l hlt D cA h _ bw cw ts tb st ro mr la fu dn wr hfu) lk_S28 rfl rfl ⟨by decide, by decide⟩ ⟨by decide, by decide⟩ rfl hl.1 (rest := []) rfl (Nat.le_of_ble_eq_true rfl) d_S_writeSnapshot_1 (fun k u' w1 => cB_err w1) (fun v u' H locs w1 I => ?_)
  obtain ⟨rfl, z1, -⟩ := w1
  obtain ⟨rfl, hdn⟩ := up_inv z1
  refine lv_aload_n C.1 C.2.1 d_S_writeSnapshot_4 rfl (lv_at hl 0 rfl) ?_
  refine lv_iload_n C.1 C.2.1 d_S_writeSnapshot_5 rfl (lv_at hl 1 rfl) ?_
  refine sv_xc C X I (c_S_requireSnapshot l hlt D cA h _ bw cw ts tb st ro mr la fu dn wr x hfu) lk_S68 rfl rfl ⟨by decide, by decide⟩ ⟨by decide, by decide⟩ rfl hl.1 (rest := []) rfl (Nat.le_of_ble_eq_true rfl) d_S_writeSnapshot_6 (fun k u' w6 => (cB_ok z1).trans (cB_err w6)) (fun v u' H locs w6 I => ?_)
  obtain ⟨rfl, zs, -⟩ := w6
  obtain ⟨rfl, hx⟩ := reqS_inv zs
  obtain ⟨s1, hs1, rfl⟩ := has_ix hx
  refine lv_aload_n C.1 C.2.1 d_S_writeSnapshot_9 rfl (lv_at hl 0 rfl) ?_
  refine lv_iload_n C.1 C.2.1 d_S_writeSnapshot_10 rfl (lv_at hl 2 rfl) ?_
  refine lv_iload_n C.1 C.2.1 d_S_writeSnapshot_11 rfl (lv_at hl 3 rfl) ?_
  refine sv_xc C X I (c_S_requireWord l hlt D cA h _ bw cw ts tb st ro mr la fu dn wr y z hfu) lk_S31 rfl rfl ⟨by decide, by decide⟩ ⟨by decide, by decide⟩ rfl hl.1 (rest := []) rfl (Nat.le_of_ble_eq_true rfl) d_S_writeSnapshot_12 (fun k u' w12 => (cB_ok z1).trans ((cB_ok zs).trans (cB_err w12))) (fun v u' H locs w12 I => ?_)
  obtain ⟨rfl, zw, -⟩ := w12
  obtain ⟨rfl, ⟨b1, hb1, rfl⟩, i1, hi1, rfl⟩ := reqW_inv zw
  refine lv_aload_n C.1 C.2.1 d_S_writeSnapshot_15 rfl (lv_at hl 0 rfl) ?_
  refine lv_iload_n C.1 C.2.1 d_S_writeSnapshot_16 rfl (lv_at hl 1 rfl) ?_
  refine lv_iload_n C.1 C.2.1 d_S_writeSnapshot_17 rfl (lv_at hl 2 rfl) ?_
  refine sv_ci C I (c_S_findCopy l D cA h _ bw cw ts tb st ro mr la fu dn wr s1 b1 (by omega) (by omega)) lk_S75 rfl rfl ⟨by decide, by decide⟩ ⟨Nat.zero_le _, Nat.zero_le _⟩ rfl hl.1 (rest := []) rfl (Nat.le_of_ble_eq_true rfl) d_S_writeSnapshot_18 (fun r u' H locs w18 I => ?_)
  obtain ⟨rfl, rfl⟩ := w18
  rcases hc1 : cFind ts tb st s1 b1 with _ | c1
  · refine lv_istore (lv' := [(5, .int (oI none)), (0, .ref (h 0)), (1, .int (nI s1)), (2, .int (nI b1)), (3, .int (nI i1)), (4, .int w0)]) C.1 C.2.1 d_S_writeSnapshot_21 hl (by decide) rfl (fun ls hl => ?_)
    refine lv_iload C.1 C.2.1 d_S_writeSnapshot_23 (lv_at hl 0 rfl) ?_
    refine lv_iconst (v := oI none) C.1 C.2.1 d_S_writeSnapshot_25 (by decide) ?_
    refine lv_icmp_eq (x := oI none) (y := oI none) (tgt := 40) C.1 C.2.1 d_S_writeSnapshot_26 (by decide) (fun q26 => ?_) (fun q26 => absurd rfl q26)
    have hR : cWriteS (nI s1) (nI b1) (nI i1) w0 (bw, cw, ts, tb, st, ro, mr, la, fu, dn, wr) = cB (cReqF 1) (fun _ => cB (cCopy s1 b1 (some i1) w0) fun _ => cOk true) (bw, cw, ts, tb, st, ro, mr, la, fu, dn, wr) := (cB_ok z1).trans ((cB_ok zs).trans ((cB_ok zw).trans (by simp only [cN_nI (show s1 < 2 ^ 31 by omega), cN_nI (show b1 < 2 ^ 31 by omega), cN_nI (show i1 < 2 ^ 31 by omega), hc1])))
    refine lv_aload_n C.1 C.2.1 d_S_writeSnapshot_40 rfl (lv_at hl 1 rfl) ?_
    refine lv_iconst (v := nI 1) C.1 C.2.1 d_S_writeSnapshot_41 (by decide) ?_
    refine sv_xc C X I (c_S_requireFree l hlt D cA h _ bw cw ts tb st ro mr la fu dn wr 1 (by omega) hfu) lk_S39 rfl rfl ⟨by decide, by decide⟩ ⟨by decide, by decide⟩ rfl hl.1 (rest := []) rfl (Nat.le_of_ble_eq_true rfl) d_S_writeSnapshot_42 (fun k u' w42 => hR.trans (cB_err w42)) (fun v u' H locs w42 I => ?_)
    obtain ⟨rfl, z42, -⟩ := w42
    obtain ⟨rfl, hnf⟩ := reqF_inv z42
    refine lv_aload_n C.1 C.2.1 d_S_writeSnapshot_45 rfl (lv_at hl 1 rfl) ?_
    refine lv_iload_n C.1 C.2.1 d_S_writeSnapshot_46 rfl (lv_at hl 2 rfl) ?_
    refine lv_iload_n C.1 C.2.1 d_S_writeSnapshot_47 rfl (lv_at hl 3 rfl) ?_
    refine lv_iload_n C.1 C.2.1 d_S_writeSnapshot_48 rfl (lv_at hl 4 rfl) ?_
    refine lv_iload C.1 C.2.1 d_S_writeSnapshot_49 (lv_at hl 5 rfl) ?_
    refine sv_xc C X I (c_S_copyBlock l hlt D cA h _ bw cw ts tb st ro mr la fu dn wr s1 b1 (some i1) w0 (by omega) (by omega) (fun j e => by cases e; omega) hfu) lk_S82 rfl rfl ⟨by decide, by decide⟩ ⟨by decide, by decide⟩ rfl hl.1 (rest := []) rfl (Nat.le_of_ble_eq_true rfl) d_S_writeSnapshot_51 (fun k u' w51 => hR.trans ((cB_ok z42).trans (cB_err w51))) (fun v u' H locs w51 I => ?_)
    obtain ⟨rfl, z51, hfb⟩ := w51
    refine lv_iconst (v := nI 1) C.1 C.2.1 d_S_writeSnapshot_54 (by decide) ?_
    exact sv_xrz (b := true) C hr I ⟨true, rfl, hR.trans ((cB_ok z42).trans (cB_ok z51)), hfb⟩ d_S_writeSnapshot_55
  · have hc1l := cFind_lt hc1
    refine lv_istore (lv' := [(5, .int (nI c1)), (0, .ref (h 0)), (1, .int (nI s1)), (2, .int (nI b1)), (3, .int (nI i1)), (4, .int w0)]) C.1 C.2.1 d_S_writeSnapshot_21 hl (by decide) rfl (fun ls hl => ?_)
    refine lv_iload C.1 C.2.1 d_S_writeSnapshot_23 (lv_at hl 0 rfl) ?_
    refine lv_iconst (v := oI none) C.1 C.2.1 d_S_writeSnapshot_25 (by decide) ?_
    refine lv_icmp_eq (x := nI c1) (y := oI none) (tgt := 40) C.1 C.2.1 d_S_writeSnapshot_26 (by decide) (fun q26 => absurd ((oI_n (o := none) (by omega) (fun _ e => by cases e)).mp q26) (fun z => by cases z)) (fun q26 => ?_)
    have hR : cWriteS (nI s1) (nI b1) (nI i1) w0 (bw, cw, ts, tb, st, ro, mr, la, fu, dn, wr) = cB (cPutC c1 i1 w0) (fun _ => cOk false) (bw, cw, ts, tb, st, ro, mr, la, fu, dn, wr) := (cB_ok z1).trans ((cB_ok zs).trans ((cB_ok zw).trans (by simp only [cN_nI (show s1 < 2 ^ 31 by omega), cN_nI (show b1 < 2 ^ 31 by omega), cN_nI (show i1 < 2 ^ 31 by omega), hc1])))
    refine lv_aload_n C.1 C.2.1 d_S_writeSnapshot_29 rfl (lv_at hl 1 rfl) ?_
    refine lv_iload C.1 C.2.1 d_S_writeSnapshot_30 (lv_at hl 0 rfl) ?_
    refine lv_iload_n C.1 C.2.1 d_S_writeSnapshot_32 rfl (lv_at hl 4 rfl) ?_
    refine lv_iload C.1 C.2.1 d_S_writeSnapshot_33 (lv_at hl 5 rfl) ?_
    refine sv_xc C X I (c_S_putCopyWord l hlt D cA h _ bw cw ts tb st ro mr la fu dn wr c1 i1 w0 (by omega) (by omega) hfu) lk_S79 rfl rfl ⟨by decide, by decide⟩ ⟨by decide, by decide⟩ rfl hl.1 (rest := []) rfl (Nat.le_of_ble_eq_true rfl) d_S_writeSnapshot_35 (fun k u' w35 => hR.trans (cB_err w35)) (fun v u' H locs w35 I => ?_)
    obtain ⟨rfl, z35, hfb⟩ := w35
    refine lv_iconst (v := nI 0) C.1 C.2.1 d_S_writeSnapshot_38 (by decide) ?_
    exact sv_xrz (b := false) C hr I ⟨false, rfl, hR.trans (cB_ok z35), hfb⟩ d_S_writeSnapshot_39
set_option maxHeartbeats 4000000 in
set_option maxRecDepth 100000 in
/-- R_S.rollback -/
theorem c_S_rollback (l : Launch) (hlt : l.stackTraces = false) (D : va_G) (cA : Nat → ClassId) (h : Nat → Nat) (sz : Nat) (bw : (Nat → Int32)) (cw : (Nat → Int32)) (ts : (Nat → Int32)) (tb : (Nat → Int32)) (st : (Nat → Int32)) (ro : Nat) (mr : Nat) (la : Nat) (fu : Option Nat) (dn : Bool) (wr : Nat) (x : Int32) (hfu : ∀ k, fu = some k → k < 2 ^ 31) : svX l D cA h (bw, cw, ts, tb, st, ro, mr, la, fu, dn, wr) sz y_S_rollback (.code y_S_rollback b_S_rollback 2 (some .int)) (rmX 5) [.int x] (fun v u' => ∃ r, v = some (.int (nI r)) ∧ cRoll x (bw, cw, ts, tb, st, ro, mr, la, fu, dn, wr) = (.ok r, u') ∧ fB u') (fun k u' => cRoll x (bw, cw, ts, tb, st, ro, mr, la, fu, dn, wr) = (.error k, u')) := by
  refine sv_x hlt (by decide) rfl (Nat.le_of_ble_eq_true rfl) ?_
  intro p e s m args below meth c C X hr hsz I ls hl
  generalize svA cA h (bw, cw, ts, tb, st, ro, mr, la, fu, dn, wr) sz = A at I X ⊢
  have hl : lv_has ls 2 [(0, .ref (h 0)), (1, .int x)] := hl
  refine lv_aload_n C.1 C.2.1 d_S_rollback_0 rfl (lv_at hl 0 rfl) ?_
  refine sv_xc C X I (c_S_requireUp l hlt D cA h _ bw cw ts tb st ro mr la fu dn wr hfu) lk_S28 rfl rfl ⟨by decide, by decide⟩ ⟨by decide, by decide⟩ rfl hl.1 (rest := []) rfl (Nat.le_of_ble_eq_true rfl) d_S_rollback_1 (fun k u' w1 => cB_err w1) (fun v u' H locs w1 I => ?_)
  obtain ⟨rfl, z1, -⟩ := w1
  obtain ⟨rfl, hdn⟩ := up_inv z1
  refine lv_aload_n C.1 C.2.1 d_S_rollback_4 rfl (lv_at hl 0 rfl) ?_
  refine lv_iload_n C.1 C.2.1 d_S_rollback_5 rfl (lv_at hl 1 rfl) ?_
  refine sv_xc C X I (c_S_requireSnapshot l hlt D cA h _ bw cw ts tb st ro mr la fu dn wr x hfu) lk_S68 rfl rfl ⟨by decide, by decide⟩ ⟨by decide, by decide⟩ rfl hl.1 (rest := []) rfl (Nat.le_of_ble_eq_true rfl) d_S_rollback_6 (fun k u' w6 => (cB_ok z1).trans (cB_err w6)) (fun v u' H locs w6 I => ?_)
  obtain ⟨rfl, zs, -⟩ := w6
  obtain ⟨rfl, hx⟩ := reqS_inv zs
  obtain ⟨s1, hs1, rfl⟩ := has_ix hx
  have hR : cRoll (nI s1) (bw, cw, ts, tb, st, ro, mr, la, fu, dn, wr) = cB (cReqF (cNM ts tb st s1)) (fun _ => cB (cPutM 0) fun _ => cB (cPutR (1 + s1)) fun _ => cMerge s1) (bw, cw, ts, tb, st, ro, mr, la, fu, dn, wr) := (cB_ok z1).trans ((cB_ok zs).trans (by simp only [cN_nI (show s1 < 2 ^ 31 by omega)]))
  refine lv_aload_n C.1 C.2.1 d_S_rollback_9 rfl (lv_at hl 0 rfl) ?_
  refine lv_aload_n C.1 C.2.1 d_S_rollback_10 rfl (lv_at hl 0 rfl) ?_
  refine lv_iload_n C.1 C.2.1 d_S_rollback_11 rfl (lv_at hl 1 rfl) ?_
  refine sv_ci C I (c_S_countCopiesToMerge l D cA h _ bw cw ts tb st ro mr la fu dn wr s1 (by omega)) lk_S86 rfl rfl ⟨by decide, by decide⟩ ⟨Nat.zero_le _, Nat.zero_le _⟩ rfl hl.1 (rest := [.ref (h 0)]) rfl (Nat.le_of_ble_eq_true rfl) d_S_rollback_12 (fun r u' H locs w12 I => ?_)
  obtain ⟨rfl, rfl⟩ := w12
  refine sv_xc C X I (c_S_requireFree l hlt D cA h _ bw cw ts tb st ro mr la fu dn wr (cNM ts tb st s1) (Nat.lt_of_le_of_lt (cNM_le _ _ _ _) (by decide)) hfu) lk_S39 rfl rfl ⟨by decide, by decide⟩ ⟨by decide, by decide⟩ rfl hl.1 (rest := []) rfl (Nat.le_of_ble_eq_true rfl) d_S_rollback_15 (fun k u' w15 => hR.trans (cB_err w15)) (fun v u' H locs w15 I => ?_)
  obtain ⟨rfl, z15, -⟩ := w15
  obtain ⟨rfl, hnf⟩ := reqF_inv z15
  refine lv_aload_n C.1 C.2.1 d_S_rollback_18 rfl (lv_at hl 0 rfl) ?_
  refine lv_iconst (v := nI 0) C.1 C.2.1 d_S_rollback_19 (by decide) ?_
  refine sv_xc C X I (c_S_putMark l hlt D cA h _ bw cw ts tb st ro mr la fu dn wr 0 hfu) lk_S89 rfl rfl ⟨by decide, by decide⟩ ⟨by decide, by decide⟩ rfl hl.1 (rest := []) rfl (Nat.le_of_ble_eq_true rfl) d_S_rollback_20 (fun k u' w20 => hR.trans ((cB_ok z15).trans (cB_err w20))) (fun v u' H locs w20 I => ?_)
  obtain ⟨rfl, z20, hfb20⟩ := w20
  obtain ⟨fu2, rfl⟩ := putM_inv z20
  refine lv_aload_n C.1 C.2.1 d_S_rollback_23 rfl (lv_at hl 0 rfl) ?_
  refine lv_iconst (v := nI 1) C.1 C.2.1 d_S_rollback_24 (by decide) ?_
  refine lv_iload_n C.1 C.2.1 d_S_rollback_25 rfl (lv_at hl 1 rfl) ?_
  refine n_iadd C.1 C.2.1 (a := 1) (b := s1) d_S_rollback_26 ?_
  refine sv_xc C X I (c_S_putRoll l hlt D cA h _ bw cw ts tb st ro 0 la fu2 dn (wr + 1) (1 + s1) hfb20) lk_S92 rfl rfl ⟨by decide, by decide⟩ ⟨by decide, by decide⟩ rfl hl.1 (rest := []) rfl (Nat.le_of_ble_eq_true rfl) d_S_rollback_27 (fun k u' w27 => hR.trans ((cB_ok z15).trans ((cB_ok z20).trans (cB_err w27)))) (fun v u' H locs w27 I => ?_)
  obtain ⟨rfl, z27, hfb27⟩ := w27
  obtain ⟨fu3, rfl⟩ := putR_inv z27
  refine lv_aload_n C.1 C.2.1 d_S_rollback_30 rfl (lv_at hl 0 rfl) ?_
  refine lv_iload_n C.1 C.2.1 d_S_rollback_31 rfl (lv_at hl 1 rfl) ?_
  refine sv_xc C X I (c_S_mergeFromMark l hlt D cA h _ bw cw ts tb st (1 + s1) 0 la fu3 dn ((wr + 1) + 1) s1 (by omega) (by omega) hfb27) lk_S95 rfl rfl ⟨by decide, by decide⟩ ⟨by decide, by decide⟩ rfl hl.1 (rest := []) rfl (Nat.le_of_ble_eq_true rfl) d_S_rollback_32 (fun k u' w32 => hR.trans ((cB_ok z15).trans ((cB_ok z20).trans ((cB_ok z27).trans w32)))) (fun v u' H locs w32 I => ?_)
  obtain ⟨r32, rfl, z32, hfb32⟩ := w32
  exact sv_xri (v := nI r32) C hr I ⟨r32, rfl, hR.trans ((cB_ok z15).trans ((cB_ok z20).trans ((cB_ok z27).trans z32))), hfb32⟩ d_S_rollback_35
set_option maxHeartbeats 4000000 in
set_option maxRecDepth 100000 in
/-- R_S.recover -/
theorem c_S_recover (l : Launch) (hlt : l.stackTraces = false) (D : va_G) (cA : Nat → ClassId) (h : Nat → Nat) (sz : Nat) (bw : (Nat → Int32)) (cw : (Nat → Int32)) (ts : (Nat → Int32)) (tb : (Nat → Int32)) (st : (Nat → Int32)) (ro : Nat) (mr : Nat) (la : Nat) (fu : Option Nat) (dn : Bool) (wr : Nat) (hmr : ∀ r, ro = r + 1 → mr ≤ 6) (hro : ro ≤ 3) (hfu : ∀ k, fu = some k → k < 2 ^ 31) : svX l D cA h (bw, cw, ts, tb, st, ro, mr, la, fu, dn, wr) sz y_S_recover (.code y_S_recover b_S_recover 1 (some .int)) (rmX 5) [] (fun v u' => ∃ r, v = some (.int (nI r)) ∧ cRec (bw, cw, ts, tb, st, ro, mr, la, fu, dn, wr) = (.ok r, u') ∧ fB u') (fun k u' => cRec (bw, cw, ts, tb, st, ro, mr, la, fu, dn, wr) = (.error k, u')) := by
  refine sv_x hlt (by decide) rfl (Nat.le_of_ble_eq_true rfl) ?_
  intro p e s m args below meth c C X hr hsz I ls hl
  generalize svA cA h (bw, cw, ts, tb, st, ro, mr, la, fu, dn, wr) sz = A at I X ⊢
  have hl : lv_has ls 1 [(0, .ref (h 0))] := hl
  refine lv_aload_n C.1 C.2.1 d_S_recover_0 rfl (lv_at hl 0 rfl) ?_
  refine sv_g9 C I d_S_recover_1 ?_
  refine n_ifne (b := dn) (tgt := 17) C.1 C.2.1 d_S_recover_4 (by decide) (fun q4 => ?_) (fun q4 => ?_)
  · refine lv_aload_n C.1 C.2.1 d_S_recover_17 rfl (lv_at hl 0 rfl) ?_
    refine lv_iconst (v := nI 0) C.1 C.2.1 d_S_recover_18 (by decide) ?_
    refine sv_p9 C I false rfl d_S_recover_19 (fun H locs I => ?_)
    refine lv_aload_n C.1 C.2.1 d_S_recover_22 rfl (lv_at hl 0 rfl) ?_
    refine sv_g5 C I d_S_recover_23 ?_
    refine n_ifz_ne (a := ro) (tgt := 33) C.1 C.2.1 (by omega) d_S_recover_26 (by decide) (fun q26 => ?_) (fun q26 => ?_)
    · obtain ⟨r1, rfl⟩ : ∃ r, ro = r + 1 := ⟨ro - 1, by omega⟩
      refine lv_aload_n C.1 C.2.1 d_S_recover_33 rfl (lv_at hl 0 rfl) ?_
      refine lv_aload_n C.1 C.2.1 d_S_recover_34 rfl (lv_at hl 0 rfl) ?_
      refine sv_g5 C I d_S_recover_35 ?_
      refine lv_iconst (v := nI 1) C.1 C.2.1 d_S_recover_38 (by decide) ?_
      refine n_isub C.1 C.2.1 (a := r1 + 1) (b := 1) (by omega) d_S_recover_39 ?_
      refine sv_xc C X I (c_S_mergeFromMark l hlt D cA h _ bw cw ts tb st (r1 + 1) mr la fu false wr r1 (by omega) (hmr r1 rfl) hfu) lk_S95 rfl rfl ⟨by decide, by decide⟩ ⟨by decide, by decide⟩ rfl hl.1 (rest := []) rfl (Nat.le_of_ble_eq_true rfl) d_S_recover_40 (fun k u' w40 => (by subst q4; exact w40)) (fun v u' H locs w40 I => ?_)
      obtain ⟨r40, rfl, z40, hfb⟩ := w40
      exact sv_xri (v := nI r40) C hr I (by first | exact ⟨r40, rfl, by subst q4; exact z40, hfb⟩ | (subst q4; subst q26; exact ⟨0, rfl, rfl, hfu⟩)) d_S_recover_43
    · refine lv_iconst (v := nI 0) C.1 C.2.1 d_S_recover_29 (by decide) ?_
      refine lv_goto (tgt := 43) C.1 C.2.1 d_S_recover_30 (by decide) ?_
      exact sv_xri (v := nI 0) C hr I (by first | exact ⟨r40, rfl, by subst q4; exact z40, hfb⟩ | (subst q4; subst q26; exact ⟨0, rfl, rfl, hfu⟩)) d_S_recover_43
  · exact sv_thr (kd := 2) (names := exN) (by rw [hl.1]; exact C) X I (by decide +kernel) (by decide +kernel) thr2 thw2 thc2 thi2 thn2 (tx := "the volume is up") (by decide +kernel) d_S_recover_7 d_S_recover_10 d_S_recover_11 d_S_recover_13 d_S_recover_16 (by decide) (by decide) (by decide) (by decide) (by subst q4; rfl)
set_option maxHeartbeats 4000000 in
set_option maxRecDepth 100000 in
/-- R_S.used -/
theorem c_S_used (l : Launch) (hlt : l.stackTraces = false) (D : va_G) (cA : Nat → ClassId) (h : Nat → Nat) (sz : Nat) (bw : (Nat → Int32)) (cw : (Nat → Int32)) (ts : (Nat → Int32)) (tb : (Nat → Int32)) (st : (Nat → Int32)) (ro : Nat) (mr : Nat) (la : Nat) (fu : Option Nat) (dn : Bool) (wr : Nat)  (hfu : ∀ k, fu = some k → k < 2 ^ 31) : svX l D cA h (bw, cw, ts, tb, st, ro, mr, la, fu, dn, wr) sz y_S_used (.code y_S_used b_S_used 1 (some .int)) (rmX 2) [] (fun v u' => ∃ r, v = some (.int (nI r)) ∧ cUsed (bw, cw, ts, tb, st, ro, mr, la, fu, dn, wr) = (.ok r, u') ∧ fB u') (fun k u' => cUsed (bw, cw, ts, tb, st, ro, mr, la, fu, dn, wr) = (.error k, u')) := by
  refine sv_x hlt (by decide) rfl (Nat.le_of_ble_eq_true rfl) ?_
  intro p e s m args below meth c C X hr hsz I ls hl
  generalize svA cA h (bw, cw, ts, tb, st, ro, mr, la, fu, dn, wr) sz = A at I X ⊢
  have hl : lv_has ls 1 [(0, .ref (h 0))] := hl
  obtain ⟨nf, hnf⟩ : ∃ nf, cNF ts st = nf := ⟨_, rfl⟩
  have hc9 : nf ≤ 9 := by rw [← hnf]; exact cnt_le _ 9
  refine lv_aload_n C.1 C.2.1 d_S_used_0 rfl (lv_at hl 0 rfl) ?_
  refine sv_xc C X I (c_S_requireUp l hlt D cA h _ bw cw ts tb st ro mr la fu dn wr hfu) lk_S28 rfl rfl ⟨by decide, by decide⟩ ⟨by decide, by decide⟩ rfl hl.1 (rest := []) rfl (Nat.le_of_ble_eq_true rfl) d_S_used_1 (fun k u' w1 => cB_err w1) (fun v u' H locs w1 I => ?_)
  obtain ⟨rfl, z1, -⟩ := w1
  obtain ⟨rfl, hdn⟩ := up_inv z1
  refine lv_bipush (v := nI 9) C.1 C.2.1 d_S_used_4 (by decide) ?_
  refine lv_aload_n C.1 C.2.1 d_S_used_6 rfl (lv_at hl 0 rfl) ?_
  refine sv_ci C I (c_S_countFree l D cA h _ bw cw ts tb st ro mr la fu dn wr) lk_S113 rfl rfl ⟨by decide, by decide⟩ ⟨Nat.zero_le _, Nat.zero_le _⟩ rfl hl.1 (rest := [.int (nI 9)]) rfl (Nat.le_of_ble_eq_true rfl) d_S_used_7 (fun r u' H locs w7 I => ?_)
  obtain ⟨rfl, rfl⟩ := w7
  rw [hnf]
  refine n_isub C.1 C.2.1 (a := 9) (b := nf) (by omega) d_S_used_10 ?_
  exact sv_xri (v := nI (9 - nf)) C hr I ⟨9 - nf, rfl, (cB_ok z1).trans (by simp only [hnf]), hfu⟩ d_S_used_11
set_option maxHeartbeats 4000000 in
set_option maxRecDepth 100000 in
/-- R_S.copyOf -/
theorem c_S_copyOf (l : Launch) (hlt : l.stackTraces = false) (D : va_G) (cA : Nat → ClassId) (h : Nat → Nat) (sz : Nat) (bw : (Nat → Int32)) (cw : (Nat → Int32)) (ts : (Nat → Int32)) (tb : (Nat → Int32)) (st : (Nat → Int32)) (ro : Nat) (mr : Nat) (la : Nat) (fu : Option Nat) (dn : Bool) (wr : Nat) (x y : Int32) (hfu : ∀ k, fu = some k → k < 2 ^ 31) : svX l D cA h (bw, cw, ts, tb, st, ro, mr, la, fu, dn, wr) sz y_S_copyOf (.code y_S_copyOf b_S_copyOf 3 (some .int)) (rmX 2) [.int x, .int y] (fun v u' => ∃ r, v = some (.int (oI r)) ∧ cCopyOf x y (bw, cw, ts, tb, st, ro, mr, la, fu, dn, wr) = (.ok r, u') ∧ fB u') (fun k u' => cCopyOf x y (bw, cw, ts, tb, st, ro, mr, la, fu, dn, wr) = (.error k, u')) := by
  refine sv_x hlt (by decide) rfl (Nat.le_of_ble_eq_true rfl) ?_
  intro p e s m args below meth c C X hr hsz I ls hl
  generalize svA cA h (bw, cw, ts, tb, st, ro, mr, la, fu, dn, wr) sz = A at I X ⊢
  have hl : lv_has ls 3 [(0, .ref (h 0)), (1, .int x), (2, .int y)] := hl
  refine lv_aload_n C.1 C.2.1 d_S_copyOf_0 rfl (lv_at hl 0 rfl) ?_
  refine sv_xc C X I (c_S_requireUp l hlt D cA h _ bw cw ts tb st ro mr la fu dn wr hfu) lk_S28 rfl rfl ⟨by decide, by decide⟩ ⟨by decide, by decide⟩ rfl hl.1 (rest := []) rfl (Nat.le_of_ble_eq_true rfl) d_S_copyOf_1 (fun k u' w1 => cB_err w1) (fun v u' H locs w1 I => ?_)
  obtain ⟨rfl, z1, -⟩ := w1
  obtain ⟨rfl, hdn⟩ := up_inv z1
  refine lv_aload_n C.1 C.2.1 d_S_copyOf_4 rfl (lv_at hl 0 rfl) ?_
  refine lv_iload_n C.1 C.2.1 d_S_copyOf_5 rfl (lv_at hl 1 rfl) ?_
  refine sv_xc C X I (c_S_requireSnapshot l hlt D cA h _ bw cw ts tb st ro mr la fu dn wr x hfu) lk_S68 rfl rfl ⟨by decide, by decide⟩ ⟨by decide, by decide⟩ rfl hl.1 (rest := []) rfl (Nat.le_of_ble_eq_true rfl) d_S_copyOf_6 (fun k u' w6 => (cB_ok z1).trans (cB_err w6)) (fun v u' H locs w6 I => ?_)
  obtain ⟨rfl, zs, -⟩ := w6
  obtain ⟨rfl, hx⟩ := reqS_inv zs
  obtain ⟨s1, hs1, rfl⟩ := has_ix hx
  refine lv_aload_n C.1 C.2.1 d_S_copyOf_9 rfl (lv_at hl 0 rfl) ?_
  refine lv_iload_n C.1 C.2.1 d_S_copyOf_10 rfl (lv_at hl 2 rfl) ?_
  refine sv_xc C X I (c_S_requireBlock l hlt D cA h _ bw cw ts tb st ro mr la fu dn wr y hfu) lk_S116 rfl rfl ⟨by decide, by decide⟩ ⟨by decide, by decide⟩ rfl hl.1 (rest := []) rfl (Nat.le_of_ble_eq_true rfl) d_S_copyOf_11 (fun k u' w11 => (cB_ok z1).trans ((cB_ok zs).trans (cB_err w11))) (fun v u' H locs w11 I => ?_)
  obtain ⟨rfl, zw, -⟩ := w11
  obtain ⟨rfl, b1, hb1, rfl⟩ := reqB_inv zw
  refine lv_aload_n C.1 C.2.1 d_S_copyOf_14 rfl (lv_at hl 0 rfl) ?_
  refine lv_iload_n C.1 C.2.1 d_S_copyOf_15 rfl (lv_at hl 1 rfl) ?_
  refine lv_iload_n C.1 C.2.1 d_S_copyOf_16 rfl (lv_at hl 2 rfl) ?_
  refine sv_ci C I (c_S_findCopy l D cA h _ bw cw ts tb st ro mr la fu dn wr s1 b1 (by omega) (by omega)) lk_S75 rfl rfl ⟨by decide, by decide⟩ ⟨Nat.zero_le _, Nat.zero_le _⟩ rfl hl.1 (rest := []) rfl (Nat.le_of_ble_eq_true rfl) d_S_copyOf_17 (fun r u' H locs w17 I => ?_)
  obtain ⟨rfl, rfl⟩ := w17
  exact sv_xri (v := oI (cFind ts tb st s1 b1)) C hr I ⟨_, rfl, (cB_ok z1).trans ((cB_ok zs).trans ((cB_ok zw).trans (by simp only [cN_nI (show s1 < 2 ^ 31 by omega), cN_nI (show b1 < 2 ^ 31 by omega)]))), hfu⟩ d_S_copyOf_20
set_option maxHeartbeats 4000000 in
set_option maxRecDepth 100000 in
theorem lp_S_places_8 {p : Program} {l : Launch} {e : Env} {s : State} {m : MethodId} {args : Array Value} {below : List Frame} {meth : Method} {c : Code} {D : va_G} {cA : Nat → ClassId} {A : Nat → Prop} {h : Nat → Nat} {bw : (Nat → Int32)} {cw : (Nat → Int32)} {ts : (Nat → Int32)} {tb : (Nat → Int32)} {st : (Nat → Int32)} {ro : Nat} {mr : Nat} {la : Nat} {fu : Option Nat} {dn : Bool} {wr : Nat} (C : gC p s m args meth c b_S_places 3 R_S) (X : gX l c s A) (hlt : l.stackTraces = false) (hr : meth.sig.returnType = (some .int))  (hfu : ∀ k, fu = some k → k < 2 ^ 31) (z1 : cUp (bw, cw, ts, tb, st, ro, mr, la, fu, dn, wr) = (.ok (), (bw, cw, ts, tb, st, ro, mr, la, fu, dn, wr)))  : ∀ (fuel : Nat) (i : Nat) (a : Nat), 3 - i < fuel → i ≤ 3 → a = sm (fun s => if st s = 0 then 0 else 2 ^ s) i → ∀ (H : Heap) (locs : List Loc), svI D cA A s h (bw, cw, ts, tb, st, ro, mr, la, fu, dn, wr) H locs → ∀ (ls : Array Slot), lv_has ls 3 [(0, .ref (h 0)), (1, .int (nI a)), (2, .int (nI i))] → W p l e (rmX 1) s m args below meth c H locs 0 0 (wx_MQ below (wx_Q (fun v u' => ∃ r, v = some (.int (nI r)) ∧ cPlaces (bw, cw, ts, tb, st, ro, mr, la, fu, dn, wr) = (.ok r, u') ∧ fB u') (fun k u' => cPlaces (bw, cw, ts, tb, st, ro, mr, la, fu, dn, wr) = (.error k, u')) (svAt D cA A h) A) args s 1 6 A) (F0 m 8 ls []) := by
  intro fuel
  induction fuel with
  | zero =>
    intro _ _ hfuel
    exact absurd hfuel (Nat.not_lt_zero _)
  | succ fuel ih =>
    intro i a hfuel hi ha H locs I ls hl
    refine lv_iload_n C.1 C.2.1 d_S_places_8 rfl (lv_at hl 2 rfl) ?_
    refine lv_iconst (v := nI 3) C.1 C.2.1 d_S_places_9 (by decide) ?_
    refine n_icmp_ge C.1 C.2.1 (a := i) (b := 3) (tgt := 33) (by omega) (by omega) d_S_places_10 (by decide) (fun q10 => ?_) (fun q10 => ?_)
    · refine lv_iload_n C.1 C.2.1 d_S_places_33 rfl (lv_at hl 1 rfl) ?_
      exact sv_xri (v := nI a) C hr I ⟨a, rfl, (cB_ok z1).trans (by rw [ha, show i = 3 by omega]; rfl), hfu⟩ d_S_places_34
    · refine lv_aload_n C.1 C.2.1 d_S_places_13 rfl (lv_at hl 0 rfl) ?_
      refine lv_iload_n C.1 C.2.1 d_S_places_14 rfl (lv_at hl 2 rfl) ?_
      refine sv_ci C I (c_S_hasSnapshot l D cA h _ bw cw ts tb st ro mr la fu dn wr (nI i)) lk_S119 rfl rfl ⟨by decide, by decide⟩ ⟨Nat.zero_le _, Nat.zero_le _⟩ rfl hl.1 (rest := []) rfl (Nat.le_of_ble_eq_true rfl) d_S_places_15 (fun r u' H locs w15 I => ?_)
      obtain ⟨rfl, rfl⟩ := w15
      refine n_ifeq (b := cHas st (nI i)) (tgt := 27) C.1 C.2.1 d_S_places_18 (by decide) (fun q18 => ?_) (fun q18 => ?_)
      · refine lv_iinc (v := nI (i + 1)) (lv' := [(2, .int (nI (i + 1))), (0, .ref (h 0)), (1, .int (nI a))]) C.1 C.2.1 d_S_places_27 hl (k := 2) rfl (by rw [show nI (i + 1) = nI i + nI 1 from (nI_add _ _).symm]; rfl) (by decide) rfl (fun ls hl => ?_)
        refine lv_goto (tgt := 8) C.1 C.2.1 d_S_places_30 (by decide) ?_
        exact ih (i + 1) a (by omega) (by omega) (by show _ = sm (fun s => if st s = 0 then 0 else 2 ^ s) i + (if st i = 0 then 0 else 2 ^ i); rw [cHas_n _ (by omega)] at q18; rw [ha]; first | rw [if_neg (by simpa using q18)] | (rw [if_pos (by simpa using q18)]; rfl)) _ _ I ls (lv_sub hl [1, 2, 0] rfl)
      · refine lv_iload_n C.1 C.2.1 d_S_places_21 rfl (lv_at hl 1 rfl) ?_
        refine lv_iconst (v := nI 1) C.1 C.2.1 d_S_places_22 (by decide) ?_
        refine lv_iload_n C.1 C.2.1 d_S_places_23 rfl (lv_at hl 2 rfl) ?_
        refine lv_ishl C.1 C.2.1 d_S_places_24 ?_
        rw [sh_pow (show i < 3 by omega)]
        refine n_iadd C.1 C.2.1 (a := a) (b := 2 ^ i) d_S_places_25 ?_
        refine lv_istore_n (lv' := [(1, .int (nI (a + (2 ^ i)))), (0, .ref (h 0)), (2, .int (nI i))]) C.1 C.2.1 d_S_places_26 rfl hl (by decide) rfl (fun ls hl => ?_)
        refine lv_iinc (v := nI (i + 1)) (lv' := [(2, .int (nI (i + 1))), (1, .int (nI (a + (2 ^ i)))), (0, .ref (h 0))]) C.1 C.2.1 d_S_places_27 hl (k := 2) rfl (by rw [show nI (i + 1) = nI i + nI 1 from (nI_add _ _).symm]; rfl) (by decide) rfl (fun ls hl => ?_)
        refine lv_goto (tgt := 8) C.1 C.2.1 d_S_places_30 (by decide) ?_
        exact ih (i + 1) (a + (2 ^ i)) (by omega) (by omega) (by show _ = sm (fun s => if st s = 0 then 0 else 2 ^ s) i + (if st i = 0 then 0 else 2 ^ i); rw [cHas_n _ (by omega)] at q18; rw [ha]; first | rw [if_neg (by simpa using q18)] | (rw [if_pos (by simpa using q18)]; rfl)) _ _ I ls (lv_sub hl [2, 1, 0] rfl)
set_option maxHeartbeats 4000000 in
set_option maxRecDepth 100000 in
/-- R_S.places -/
theorem c_S_places (l : Launch) (hlt : l.stackTraces = false) (D : va_G) (cA : Nat → ClassId) (h : Nat → Nat) (sz : Nat) (bw : (Nat → Int32)) (cw : (Nat → Int32)) (ts : (Nat → Int32)) (tb : (Nat → Int32)) (st : (Nat → Int32)) (ro : Nat) (mr : Nat) (la : Nat) (fu : Option Nat) (dn : Bool) (wr : Nat)  (hfu : ∀ k, fu = some k → k < 2 ^ 31) : svX l D cA h (bw, cw, ts, tb, st, ro, mr, la, fu, dn, wr) sz y_S_places (.code y_S_places b_S_places 3 (some .int)) (rmX 1) [] (fun v u' => ∃ r, v = some (.int (nI r)) ∧ cPlaces (bw, cw, ts, tb, st, ro, mr, la, fu, dn, wr) = (.ok r, u') ∧ fB u') (fun k u' => cPlaces (bw, cw, ts, tb, st, ro, mr, la, fu, dn, wr) = (.error k, u')) := by
  refine sv_x hlt (by decide) rfl (Nat.le_of_ble_eq_true rfl) ?_
  intro p e s m args below meth c C X hr hsz I ls hl
  generalize svA cA h (bw, cw, ts, tb, st, ro, mr, la, fu, dn, wr) sz = A at I X ⊢
  have hl : lv_has ls 3 [(0, .ref (h 0))] := hl
  refine lv_aload_n C.1 C.2.1 d_S_places_0 rfl (lv_at hl 0 rfl) ?_
  refine sv_xc C X I (c_S_requireUp l hlt D cA h _ bw cw ts tb st ro mr la fu dn wr hfu) lk_S28 rfl rfl ⟨by decide, by decide⟩ ⟨by decide, by decide⟩ rfl hl.1 (rest := []) rfl (Nat.le_of_ble_eq_true rfl) d_S_places_1 (fun k u' w1 => cB_err w1) (fun v u' H locs w1 I => ?_)
  obtain ⟨rfl, z1, -⟩ := w1
  obtain ⟨rfl, hdn⟩ := up_inv z1
  refine lv_iconst (v := nI 0) C.1 C.2.1 d_S_places_4 (by decide) ?_
  refine lv_istore_n (lv' := [(1, .int (nI 0)), (0, .ref (h 0))]) C.1 C.2.1 d_S_places_5 rfl hl (by decide) rfl (fun ls hl => ?_)
  refine lv_iconst (v := nI 0) C.1 C.2.1 d_S_places_6 (by decide) ?_
  refine lv_istore_n (lv' := [(2, .int (nI 0)), (1, .int (nI 0)), (0, .ref (h 0))]) C.1 C.2.1 d_S_places_7 rfl hl (by decide) rfl (fun ls hl => ?_)
  exact lp_S_places_8 C X hlt hr  hfu z1 _ 0 0 (Nat.lt_succ_self _) (by omega) rfl _ _ I ls (lv_sub hl [2, 1, 0] rfl)
set_option maxHeartbeats 4000000 in
set_option maxRecDepth 100000 in
theorem lp_S_changed_13 {p : Program} {l : Launch} {e : Env} {s : State} {m : MethodId} {args : Array Value} {below : List Frame} {meth : Method} {c : Code} {D : va_G} {cA : Nat → ClassId} {A : Nat → Prop} {h : Nat → Nat} {bw : (Nat → Int32)} {cw : (Nat → Int32)} {ts : (Nat → Int32)} {tb : (Nat → Int32)} {st : (Nat → Int32)} {ro : Nat} {mr : Nat} {la : Nat} {fu : Option Nat} {dn : Bool} {wr : Nat} (C : gC p s m args meth c b_S_changed 4 R_S) (X : gX l c s A) (hlt : l.stackTraces = false) (hr : meth.sig.returnType = (some .int)) (x : Int32) (hfu : ∀ k, fu = some k → k < 2 ^ 31) (s1 : Nat) (hs1 : s1 < 3) (hR : cChanged x (bw, cw, ts, tb, st, ro, mr, la, fu, dn, wr) = (.ok (cCh bw cw ts tb st s1), (bw, cw, ts, tb, st, ro, mr, la, fu, dn, wr)))  : ∀ (fuel : Nat) (i : Nat) (a : Nat), 6 - i < fuel → i ≤ 6 → a = cnt (cDiff bw cw ts tb st s1) i → ∀ (H : Heap) (locs : List Loc), svI D cA A s h (bw, cw, ts, tb, st, ro, mr, la, fu, dn, wr) H locs → ∀ (ls : Array Slot), lv_has ls 4 [(0, .ref (h 0)), (1, .int (nI s1)), (2, .int (nI a)), (3, .int (nI i))] → W p l e (rmX 4) s m args below meth c H locs 0 0 (wx_MQ below (wx_Q (fun v u' => ∃ r, v = some (.int (nI r)) ∧ cChanged x (bw, cw, ts, tb, st, ro, mr, la, fu, dn, wr) = (.ok r, u') ∧ fB u') (fun k u' => cChanged x (bw, cw, ts, tb, st, ro, mr, la, fu, dn, wr) = (.error k, u')) (svAt D cA A h) A) args s 1 6 A) (F0 m 13 ls []) := by
  intro fuel
  induction fuel with
  | zero =>
    intro _ _ hfuel
    exact absurd hfuel (Nat.not_lt_zero _)
  | succ fuel ih =>
    intro i a hfuel hi ha H locs I ls hl
    refine lv_iload_n C.1 C.2.1 d_S_changed_13 rfl (lv_at hl 3 rfl) ?_
    refine lv_bipush (v := nI 6) C.1 C.2.1 d_S_changed_14 (by decide) ?_
    refine n_icmp_ge C.1 C.2.1 (a := i) (b := 6) (tgt := 37) (by omega) (by omega) d_S_changed_16 (by decide) (fun q16 => ?_) (fun q16 => ?_)
    · refine lv_iload_n C.1 C.2.1 d_S_changed_37 rfl (lv_at hl 2 rfl) ?_
      exact sv_xri (v := nI a) C hr I ⟨a, rfl, hR.trans (by rw [ha, show i = 6 by omega]; rfl), hfu⟩ d_S_changed_38
    · refine lv_aload_n C.1 C.2.1 d_S_changed_19 rfl (lv_at hl 0 rfl) ?_
      refine lv_iload_n C.1 C.2.1 d_S_changed_20 rfl (lv_at hl 1 rfl) ?_
      refine lv_iload_n C.1 C.2.1 d_S_changed_21 rfl (lv_at hl 3 rfl) ?_
      refine sv_ci C I (c_S_differs l D cA h _ bw cw ts tb st ro mr la fu dn wr s1 i (by omega) (by omega)) lk_S123 rfl rfl ⟨by decide, by decide⟩ ⟨Nat.zero_le _, Nat.zero_le _⟩ rfl hl.1 (rest := []) rfl (Nat.le_of_ble_eq_true rfl) d_S_changed_22 (fun r u' H locs w22 I => ?_)
      obtain ⟨rfl, rfl⟩ := w22
      refine n_ifeq (b := cDiff bw cw ts tb st s1 i) (tgt := 31) C.1 C.2.1 d_S_changed_25 (by decide) (fun q25 => ?_) (fun q25 => ?_)
      · refine lv_iinc (v := nI (i + 1)) (lv' := [(3, .int (nI (i + 1))), (0, .ref (h 0)), (1, .int (nI s1)), (2, .int (nI a))]) C.1 C.2.1 d_S_changed_31 hl (k := 3) rfl (by rw [show nI (i + 1) = nI i + nI 1 from (nI_add _ _).symm]; rfl) (by decide) rfl (fun ls hl => ?_)
        refine lv_goto (tgt := 13) C.1 C.2.1 d_S_changed_34 (by decide) ?_
        exact ih (i + 1) a (by omega) (by omega) (by rw [ha]; first | exact (cnt_y q25).symm | exact (cnt_s q25).symm) _ _ I ls (lv_sub hl [1, 2, 3, 0] rfl)
      · refine lv_iinc (v := nI (a + 1)) (lv' := [(2, .int (nI (a + 1))), (0, .ref (h 0)), (1, .int (nI s1)), (3, .int (nI i))]) C.1 C.2.1 d_S_changed_28 hl (k := 2) rfl (by rw [show nI (a + 1) = nI a + nI 1 from (nI_add _ _).symm]; rfl) (by decide) rfl (fun ls hl => ?_)
        refine lv_iinc (v := nI (i + 1)) (lv' := [(3, .int (nI (i + 1))), (2, .int (nI (a + 1))), (0, .ref (h 0)), (1, .int (nI s1))]) C.1 C.2.1 d_S_changed_31 hl (k := 3) rfl (by rw [show nI (i + 1) = nI i + nI 1 from (nI_add _ _).symm]; rfl) (by decide) rfl (fun ls hl => ?_)
        refine lv_goto (tgt := 13) C.1 C.2.1 d_S_changed_34 (by decide) ?_
        exact ih (i + 1) (a + 1) (by omega) (by omega) (by rw [ha]; first | exact (cnt_y q25).symm | exact (cnt_s q25).symm) _ _ I ls (lv_sub hl [2, 3, 1, 0] rfl)
set_option maxHeartbeats 4000000 in
set_option maxRecDepth 100000 in
/-- R_S.changed -/
theorem c_S_changed (l : Launch) (hlt : l.stackTraces = false) (D : va_G) (cA : Nat → ClassId) (h : Nat → Nat) (sz : Nat) (bw : (Nat → Int32)) (cw : (Nat → Int32)) (ts : (Nat → Int32)) (tb : (Nat → Int32)) (st : (Nat → Int32)) (ro : Nat) (mr : Nat) (la : Nat) (fu : Option Nat) (dn : Bool) (wr : Nat) (x : Int32) (hfu : ∀ k, fu = some k → k < 2 ^ 31) : svX l D cA h (bw, cw, ts, tb, st, ro, mr, la, fu, dn, wr) sz y_S_changed (.code y_S_changed b_S_changed 4 (some .int)) (rmX 4) [.int x] (fun v u' => ∃ r, v = some (.int (nI r)) ∧ cChanged x (bw, cw, ts, tb, st, ro, mr, la, fu, dn, wr) = (.ok r, u') ∧ fB u') (fun k u' => cChanged x (bw, cw, ts, tb, st, ro, mr, la, fu, dn, wr) = (.error k, u')) := by
  refine sv_x hlt (by decide) rfl (Nat.le_of_ble_eq_true rfl) ?_
  intro p e s m args below meth c C X hr hsz I ls hl
  generalize svA cA h (bw, cw, ts, tb, st, ro, mr, la, fu, dn, wr) sz = A at I X ⊢
  have hl : lv_has ls 4 [(0, .ref (h 0)), (1, .int x)] := hl
  refine lv_aload_n C.1 C.2.1 d_S_changed_0 rfl (lv_at hl 0 rfl) ?_
  refine sv_xc C X I (c_S_requireUp l hlt D cA h _ bw cw ts tb st ro mr la fu dn wr hfu) lk_S28 rfl rfl ⟨by decide, by decide⟩ ⟨by decide, by decide⟩ rfl hl.1 (rest := []) rfl (Nat.le_of_ble_eq_true rfl) d_S_changed_1 (fun k u' w1 => cB_err w1) (fun v u' H locs w1 I => ?_)
  obtain ⟨rfl, z1, -⟩ := w1
  obtain ⟨rfl, hdn⟩ := up_inv z1
  refine lv_aload_n C.1 C.2.1 d_S_changed_4 rfl (lv_at hl 0 rfl) ?_
  refine lv_iload_n C.1 C.2.1 d_S_changed_5 rfl (lv_at hl 1 rfl) ?_
  refine sv_xc C X I (c_S_requireSnapshot l hlt D cA h _ bw cw ts tb st ro mr la fu dn wr x hfu) lk_S68 rfl rfl ⟨by decide, by decide⟩ ⟨by decide, by decide⟩ rfl hl.1 (rest := []) rfl (Nat.le_of_ble_eq_true rfl) d_S_changed_6 (fun k u' w6 => (cB_ok z1).trans (cB_err w6)) (fun v u' H locs w6 I => ?_)
  obtain ⟨rfl, zs, -⟩ := w6
  obtain ⟨rfl, hx⟩ := reqS_inv zs
  obtain ⟨s1, hs1, rfl⟩ := has_ix hx
  have hR : cChanged (nI s1) (bw, cw, ts, tb, st, ro, mr, la, fu, dn, wr) = (.ok (cCh bw cw ts tb st s1), (bw, cw, ts, tb, st, ro, mr, la, fu, dn, wr)) := (cB_ok z1).trans ((cB_ok zs).trans (by simp only [cN_nI (show s1 < 2 ^ 31 by omega)]))
  refine lv_iconst (v := nI 0) C.1 C.2.1 d_S_changed_9 (by decide) ?_
  refine lv_istore_n (lv' := [(2, .int (nI 0)), (0, .ref (h 0)), (1, .int (nI s1))]) C.1 C.2.1 d_S_changed_10 rfl hl (by decide) rfl (fun ls hl => ?_)
  refine lv_iconst (v := nI 0) C.1 C.2.1 d_S_changed_11 (by decide) ?_
  refine lv_istore_n (lv' := [(3, .int (nI 0)), (2, .int (nI 0)), (0, .ref (h 0)), (1, .int (nI s1))]) C.1 C.2.1 d_S_changed_12 rfl hl (by decide) rfl (fun ls hl => ?_)
  exact lp_S_changed_13 C X hlt hr _ hfu s1 hs1 hR _ 0 0 (Nat.lt_succ_self _) (by omega) rfl _ _ I ls (lv_sub hl [2, 3, 1, 0] rfl)
