theorem cl_L13 : Cond.classLink R_L 13 (wx_N 1) ∈ wG := wg_i (by decide +kernel)
theorem cl_L15 : Cond.classLink R_L 15 (wx_N 2) ∈ wG := wg_i (by decide +kernel)
theorem cl_L17 : Cond.classLink R_L 17 (wx_N 0) ∈ wG := wg_i (by decide +kernel)
theorem cl_L31 : Cond.classLink R_L 31 (wx_N 3) ∈ wG := wg_i (by decide +kernel)
set_option maxHeartbeats 4000000 in
set_option maxRecDepth 100000 in
/-- SnapshotVolumeLaw.write -/
theorem c_L_write (l : Launch) (hlt : l.stackTraces = false) (D : va_G) (cA : Nat → ClassId) (h : Nat → Nat) (qo : Nat) (f : Nat → Int64) (sz : Nat) (bw : (Nat → Int32)) (cw : (Nat → Int32)) (ts : (Nat → Int32)) (tb : (Nat → Int32)) (st : (Nat → Int32)) (ro : Nat) (mr : Nat) (la : Nat) (fu : Option Nat) (dn : Bool) (wr : Nat) (x y w0 : Int32) (hfu : ∀ k, fu = some k → k < 2 ^ 31)  : wMi l D cA h qo f (bw, cw, ts, tb, st, ro, mr, la, fu, dn, wr) sz y_L_write (.codeWith y_L_write b_L_write 6 (some .int) [(0, 12, 15, 13), (0, 12, 19, 15), (0, 12, 23, 17)]) (rmX 6) [.ref (h 0), .int x, .int y, .int w0, .ref qo] (wP (cWrite x y w0) (fun a g => g 0 = (nI a).toInt64) kcW (bw, cw, ts, tb, st, ro, mr, la, fu, dn, wr)) := by
  refine lx_m (by decide) rfl (Nat.le_of_ble_eq_true rfl) ?_
  intro p e s m args below meth c C G hr hsz I ls hl
  generalize va_A (wW cA h qo f (bw, cw, ts, tb, st, ro, mr, la, fu, dn, wr)) sz = A at I G ⊢
  have hl : lv_has ls 6 [(0, .ref (h 0)), (1, .int x), (2, .int y), (3, .int w0), (4, .ref qo)] := hl
  refine lv_aload C.1 C.2.1 d_L_write_0 (lv_at hl 4 rfl) ?_
  refine lv_iconst (v := nI 0) C.1 C.2.1 d_L_write_2 (by decide) ?_
  refine lv_aload_n C.1 C.2.1 d_L_write_3 rfl (lv_at hl 0 rfl) ?_
  refine lv_iload_n C.1 C.2.1 d_L_write_4 rfl (lv_at hl 1 rfl) ?_
  refine lv_iload_n C.1 C.2.1 d_L_write_5 rfl (lv_at hl 2 rfl) ?_
  refine lv_iload_n C.1 C.2.1 d_L_write_6 rfl (lv_at hl 3 rfl) ?_
  refine lx_call C G I (c_S_write l hlt D cA h _ bw cw ts tb st ro mr la fu dn wr x y w0 hfu) lk_L7 rfl rfl ⟨by decide, by decide⟩ ⟨by decide, by decide⟩ rfl hl.1 (rest := [.int (nI 0), .ref qo]) rfl (Nat.le_of_ble_eq_true rfl) d_L_write_7 (fun v u' H locs wc I => ?_) (fun k xk u' H locs hE wc I => ?_)
  · obtain ⟨r1, rfl, z, hfb⟩ := wc
    refine lv_i2l C.1 C.2.1 d_L_write_10 rfl ?_
    refine lx_last C I d_L_write_11 (fun H locs I => ?_)
    refine lv_goto (tgt := 27) C.1 C.2.1 d_L_write_12 (by decide) ?_
    refine lv_iconst (v := nI 0) C.1 C.2.1 d_L_write_27 (by decide) ?_
    exact lx_ret C hr I (by decide) (by decide) (Or.inl ⟨r1, z, rfl, rfl⟩) d_L_write_28
  · have hk : k = 0 ∨ k = 1 ∨ k = 2 := (er_write (S := fun k => k = 0 ∨ k = 1 ∨ k = 2) (Or.inl rfl) (Or.inr (Or.inl rfl)) (Or.inr (Or.inr (rfl))) x y w0 _ _ _ wc)
    rcases hk with rfl | rfl | rfl
    · refine wx_catch (own := R_L) C.2.2.2.1 hE [⟨0, 12, 15, 13⟩, ⟨0, 12, 19, 15⟩] ⟨0, 12, 23, 17⟩ [] (G.2.2.2.trans rfl) (List.forall_mem_cons.mpr ⟨⟨rfl, by decide, _, C.2.2.2.2.1 _ cl_L13, G.2.2.1 0 1 (by decide) (by decide) (by decide)⟩, (List.forall_mem_cons.mpr ⟨⟨rfl, by decide, _, C.2.2.2.2.1 _ cl_L15, G.2.2.1 0 2 (by decide) (by decide) (by decide)⟩, (fun _ hm => nomatch hm)⟩)⟩) ⟨rfl, by decide, C.2.2.2.2.1 _ cl_L17⟩ ?_
      refine lv_astore (lv' := [(5, .ref xk), (0, .ref (h 0)), (1, .int x), (2, .int y), (3, .int w0), (4, .ref qo)]) C.1 C.2.1 d_L_write_23 hl (by decide) rfl (fun ls hl => ?_)
      refine lv_iconst (v := nI 3) C.1 C.2.1 d_L_write_25 (by decide) ?_
      exact lx_ret C hr I (by decide) (by decide) (Or.inr ⟨0, by decide, wc, rfl⟩) d_L_write_26
    · refine wx_catch (own := R_L) C.2.2.2.1 hE [] ⟨0, 12, 15, 13⟩ [⟨0, 12, 19, 15⟩, ⟨0, 12, 23, 17⟩] (G.2.2.2.trans rfl) (fun _ hm => nomatch hm) ⟨rfl, by decide, C.2.2.2.2.1 _ cl_L13⟩ ?_
      refine lv_astore (lv' := [(5, .ref xk), (0, .ref (h 0)), (1, .int x), (2, .int y), (3, .int w0), (4, .ref qo)]) C.1 C.2.1 d_L_write_15 hl (by decide) rfl (fun ls hl => ?_)
      refine lv_iconst (v := nI 1) C.1 C.2.1 d_L_write_17 (by decide) ?_
      exact lx_ret C hr I (by decide) (by decide) (Or.inr ⟨1, by decide, wc, rfl⟩) d_L_write_18
    · refine wx_catch (own := R_L) C.2.2.2.1 hE [⟨0, 12, 15, 13⟩] ⟨0, 12, 19, 15⟩ [⟨0, 12, 23, 17⟩] (G.2.2.2.trans rfl) (List.forall_mem_cons.mpr ⟨⟨rfl, by decide, _, C.2.2.2.2.1 _ cl_L13, G.2.2.1 2 1 (by decide) (by decide) (by decide)⟩, (fun _ hm => nomatch hm)⟩) ⟨rfl, by decide, C.2.2.2.2.1 _ cl_L15⟩ ?_
      refine lv_astore (lv' := [(5, .ref xk), (0, .ref (h 0)), (1, .int x), (2, .int y), (3, .int w0), (4, .ref qo)]) C.1 C.2.1 d_L_write_19 hl (by decide) rfl (fun ls hl => ?_)
      refine lv_iconst (v := nI 2) C.1 C.2.1 d_L_write_21 (by decide) ?_
      exact lx_ret C hr I (by decide) (by decide) (Or.inr ⟨2, by decide, wc, rfl⟩) d_L_write_22
set_option maxHeartbeats 4000000 in
set_option maxRecDepth 100000 in
/-- SnapshotVolumeLaw.read -/
theorem c_L_read (l : Launch) (hlt : l.stackTraces = false) (D : va_G) (cA : Nat → ClassId) (h : Nat → Nat) (qo : Nat) (f : Nat → Int64) (sz : Nat) (bw : (Nat → Int32)) (cw : (Nat → Int32)) (ts : (Nat → Int32)) (tb : (Nat → Int32)) (st : (Nat → Int32)) (ro : Nat) (mr : Nat) (la : Nat) (fu : Option Nat) (dn : Bool) (wr : Nat) (x y : Int32) (hfu : ∀ k, fu = some k → k < 2 ^ 31)  : wMi l D cA h qo f (bw, cw, ts, tb, st, ro, mr, la, fu, dn, wr) sz y_L_read (.codeWith y_L_read b_L_read 5 (some .int) [(0, 10, 13, 13), (0, 10, 17, 17)]) (rmX 6) [.ref (h 0), .int x, .int y, .ref qo] (wP (cRead x y) (fun a g => g 0 = a.toInt64) kcR (bw, cw, ts, tb, st, ro, mr, la, fu, dn, wr)) := by
  refine lx_m (by decide) rfl (Nat.le_of_ble_eq_true rfl) ?_
  intro p e s m args below meth c C G hr hsz I ls hl
  generalize va_A (wW cA h qo f (bw, cw, ts, tb, st, ro, mr, la, fu, dn, wr)) sz = A at I G ⊢
  have hl : lv_has ls 5 [(0, .ref (h 0)), (1, .int x), (2, .int y), (3, .ref qo)] := hl
  refine lv_aload_n C.1 C.2.1 d_L_read_0 rfl (lv_at hl 3 rfl) ?_
  refine lv_iconst (v := nI 0) C.1 C.2.1 d_L_read_1 (by decide) ?_
  refine lv_aload_n C.1 C.2.1 d_L_read_2 rfl (lv_at hl 0 rfl) ?_
  refine lv_iload_n C.1 C.2.1 d_L_read_3 rfl (lv_at hl 1 rfl) ?_
  refine lv_iload_n C.1 C.2.1 d_L_read_4 rfl (lv_at hl 2 rfl) ?_
  refine lx_call C G I (c_S_read l hlt D cA h _ bw cw ts tb st ro mr la fu dn wr x y hfu) lk_L19 rfl rfl ⟨by decide, by decide⟩ ⟨by decide, by decide⟩ rfl hl.1 (rest := [.int (nI 0), .ref qo]) rfl (Nat.le_of_ble_eq_true rfl) d_L_read_5 (fun v u' H locs wc I => ?_) (fun k xk u' H locs hE wc I => ?_)
  · obtain ⟨r1, rfl, z, hfb⟩ := wc
    refine lv_i2l C.1 C.2.1 d_L_read_8 rfl ?_
    refine lx_last C I d_L_read_9 (fun H locs I => ?_)
    refine lv_goto (tgt := 21) C.1 C.2.1 d_L_read_10 (by decide) ?_
    refine lv_iconst (v := nI 0) C.1 C.2.1 d_L_read_21 (by decide) ?_
    exact lx_ret C hr I (by decide) (by decide) (Or.inl ⟨r1, z, rfl, rfl⟩) d_L_read_22
  · have hk : k = 0 ∨ k = 1 := (er_read (S := fun k => k = 0 ∨ k = 1) (Or.inl rfl) (Or.inr (rfl)) x y _ _ _ wc)
    rcases hk with rfl | rfl
    · refine wx_catch (own := R_L) C.2.2.2.1 hE [⟨0, 10, 13, 13⟩] ⟨0, 10, 17, 17⟩ [] (G.2.2.2.trans rfl) (List.forall_mem_cons.mpr ⟨⟨rfl, by decide, _, C.2.2.2.2.1 _ cl_L13, G.2.2.1 0 1 (by decide) (by decide) (by decide)⟩, (fun _ hm => nomatch hm)⟩) ⟨rfl, by decide, C.2.2.2.2.1 _ cl_L17⟩ ?_
      refine lv_astore (lv' := [(4, .ref xk), (0, .ref (h 0)), (1, .int x), (2, .int y), (3, .ref qo)]) C.1 C.2.1 d_L_read_17 hl (by decide) rfl (fun ls hl => ?_)
      refine lv_iconst (v := nI 2) C.1 C.2.1 d_L_read_19 (by decide) ?_
      exact lx_ret C hr I (by decide) (by decide) (Or.inr ⟨0, by decide, wc, rfl⟩) d_L_read_20
    · refine wx_catch (own := R_L) C.2.2.2.1 hE [] ⟨0, 10, 13, 13⟩ [⟨0, 10, 17, 17⟩] (G.2.2.2.trans rfl) (fun _ hm => nomatch hm) ⟨rfl, by decide, C.2.2.2.2.1 _ cl_L13⟩ ?_
      refine lv_astore (lv' := [(4, .ref xk), (0, .ref (h 0)), (1, .int x), (2, .int y), (3, .ref qo)]) C.1 C.2.1 d_L_read_13 hl (by decide) rfl (fun ls hl => ?_)
      refine lv_iconst (v := nI 1) C.1 C.2.1 d_L_read_15 (by decide) ?_
      exact lx_ret C hr I (by decide) (by decide) (Or.inr ⟨1, by decide, wc, rfl⟩) d_L_read_16
set_option maxHeartbeats 4000000 in
set_option maxRecDepth 100000 in
/-- SnapshotVolumeLaw.snapshot -/
theorem c_L_snapshot (l : Launch) (hlt : l.stackTraces = false) (D : va_G) (cA : Nat → ClassId) (h : Nat → Nat) (qo : Nat) (f : Nat → Int64) (sz : Nat) (bw : (Nat → Int32)) (cw : (Nat → Int32)) (ts : (Nat → Int32)) (tb : (Nat → Int32)) (st : (Nat → Int32)) (ro : Nat) (mr : Nat) (la : Nat) (fu : Option Nat) (dn : Bool) (wr : Nat)  (hfu : ∀ k, fu = some k → k < 2 ^ 31)  : wMi l D cA h qo f (bw, cw, ts, tb, st, ro, mr, la, fu, dn, wr) sz y_L_snapshot (.codeWith y_L_snapshot b_L_snapshot 3 (some .int) [(0, 8, 11, 15), (0, 8, 14, 17)]) (rmX 6) [.ref (h 0), .ref qo] (wP (cSnap) (fun a g => g 0 = (nI a).toInt64) kcS (bw, cw, ts, tb, st, ro, mr, la, fu, dn, wr)) := by
  refine lx_m (by decide) rfl (Nat.le_of_ble_eq_true rfl) ?_
  intro p e s m args below meth c C G hr hsz I ls hl
  generalize va_A (wW cA h qo f (bw, cw, ts, tb, st, ro, mr, la, fu, dn, wr)) sz = A at I G ⊢
  have hl : lv_has ls 3 [(0, .ref (h 0)), (1, .ref qo)] := hl
  refine lv_aload_n C.1 C.2.1 d_L_snapshot_0 rfl (lv_at hl 1 rfl) ?_
  refine lv_iconst (v := nI 0) C.1 C.2.1 d_L_snapshot_1 (by decide) ?_
  refine lv_aload_n C.1 C.2.1 d_L_snapshot_2 rfl (lv_at hl 0 rfl) ?_
  refine lx_call C G I (c_S_snapshot l hlt D cA h _ bw cw ts tb st ro mr la fu dn wr hfu) lk_L23 rfl rfl ⟨by decide, by decide⟩ ⟨by decide, by decide⟩ rfl hl.1 (rest := [.int (nI 0), .ref qo]) rfl (Nat.le_of_ble_eq_true rfl) d_L_snapshot_3 (fun v u' H locs wc I => ?_) (fun k xk u' H locs hE wc I => ?_)
  · obtain ⟨r1, rfl, z, hfb⟩ := wc
    refine lv_i2l C.1 C.2.1 d_L_snapshot_6 rfl ?_
    refine lx_last C I d_L_snapshot_7 (fun H locs I => ?_)
    refine lv_goto (tgt := 17) C.1 C.2.1 d_L_snapshot_8 (by decide) ?_
    refine lv_iconst (v := nI 0) C.1 C.2.1 d_L_snapshot_17 (by decide) ?_
    exact lx_ret C hr I (by decide) (by decide) (Or.inl ⟨r1, z, rfl, rfl⟩) d_L_snapshot_18
  · have hk : k = 0 ∨ k = 2 := (er_snap (S := fun k => k = 0 ∨ k = 2) (Or.inl rfl) (Or.inr (rfl))  _ _ _ wc)
    rcases hk with rfl | rfl
    · refine wx_catch (own := R_L) C.2.2.2.1 hE [⟨0, 8, 11, 15⟩] ⟨0, 8, 14, 17⟩ [] (G.2.2.2.trans rfl) (List.forall_mem_cons.mpr ⟨⟨rfl, by decide, _, C.2.2.2.2.1 _ cl_L15, G.2.2.1 0 2 (by decide) (by decide) (by decide)⟩, (fun _ hm => nomatch hm)⟩) ⟨rfl, by decide, C.2.2.2.2.1 _ cl_L17⟩ ?_
      refine lv_astore_n (lv' := [(2, .ref xk), (0, .ref (h 0)), (1, .ref qo)]) C.1 C.2.1 d_L_snapshot_14 rfl hl (by decide) rfl (fun ls hl => ?_)
      refine lv_iconst (v := nI 2) C.1 C.2.1 d_L_snapshot_15 (by decide) ?_
      exact lx_ret C hr I (by decide) (by decide) (Or.inr ⟨0, by decide, wc, rfl⟩) d_L_snapshot_16
    · refine wx_catch (own := R_L) C.2.2.2.1 hE [] ⟨0, 8, 11, 15⟩ [⟨0, 8, 14, 17⟩] (G.2.2.2.trans rfl) (fun _ hm => nomatch hm) ⟨rfl, by decide, C.2.2.2.2.1 _ cl_L15⟩ ?_
      refine lv_astore_n (lv' := [(2, .ref xk), (0, .ref (h 0)), (1, .ref qo)]) C.1 C.2.1 d_L_snapshot_11 rfl hl (by decide) rfl (fun ls hl => ?_)
      refine lv_iconst (v := nI 1) C.1 C.2.1 d_L_snapshot_12 (by decide) ?_
      exact lx_ret C hr I (by decide) (by decide) (Or.inr ⟨2, by decide, wc, rfl⟩) d_L_snapshot_13
set_option maxHeartbeats 4000000 in
set_option maxRecDepth 100000 in
/-- SnapshotVolumeLaw.drop -/
theorem c_L_drop (l : Launch) (hlt : l.stackTraces = false) (D : va_G) (cA : Nat → ClassId) (h : Nat → Nat) (qo : Nat) (f : Nat → Int64) (sz : Nat) (bw : (Nat → Int32)) (cw : (Nat → Int32)) (ts : (Nat → Int32)) (tb : (Nat → Int32)) (st : (Nat → Int32)) (ro : Nat) (mr : Nat) (la : Nat) (fu : Option Nat) (dn : Bool) (wr : Nat) (x : Int32) (hfu : ∀ k, fu = some k → k < 2 ^ 31)  : wMi l D cA h qo f (bw, cw, ts, tb, st, ro, mr, la, fu, dn, wr) sz y_L_drop (.codeWith y_L_drop b_L_drop 3 (some .int) [(0, 5, 8, 31), (0, 5, 11, 17)]) (rmX 6) [.ref (h 0), .int x] (wP (cDrop x) (fun _ _ => True) kcD (bw, cw, ts, tb, st, ro, mr, la, fu, dn, wr)) := by
  refine lx_m (by decide) rfl (Nat.le_of_ble_eq_true rfl) ?_
  intro p e s m args below meth c C G hr hsz I ls hl
  generalize va_A (wW cA h qo f (bw, cw, ts, tb, st, ro, mr, la, fu, dn, wr)) sz = A at I G ⊢
  have hl : lv_has ls 3 [(0, .ref (h 0)), (1, .int x)] := hl
  refine lv_aload_n C.1 C.2.1 d_L_drop_0 rfl (lv_at hl 0 rfl) ?_
  refine lv_iload_n C.1 C.2.1 d_L_drop_1 rfl (lv_at hl 1 rfl) ?_
  refine lx_call C G I (c_S_drop l hlt D cA h _ bw cw ts tb st ro mr la fu dn wr x hfu) lk_L27 rfl rfl ⟨by decide, by decide⟩ ⟨by decide, by decide⟩ rfl hl.1 (rest := []) rfl (Nat.le_of_ble_eq_true rfl) d_L_drop_2 (fun v u' H locs wc I => ?_) (fun k xk u' H locs hE wc I => ?_)
  · obtain ⟨rfl, z, hfb⟩ := wc
    refine lv_goto (tgt := 14) C.1 C.2.1 d_L_drop_5 (by decide) ?_
    refine lv_iconst (v := nI 0) C.1 C.2.1 d_L_drop_14 (by decide) ?_
    exact lx_ret C hr I (by decide) (by decide) (Or.inl ⟨(), z, rfl, trivial⟩) d_L_drop_15
  · have hk : k = 0 ∨ k = 3 := (er_drop (S := fun k => k = 0 ∨ k = 3) (Or.inl rfl) (Or.inr (rfl)) x _ _ _ wc)
    rcases hk with rfl | rfl
    · refine wx_catch (own := R_L) C.2.2.2.1 hE [⟨0, 5, 8, 31⟩] ⟨0, 5, 11, 17⟩ [] (G.2.2.2.trans rfl) (List.forall_mem_cons.mpr ⟨⟨rfl, by decide, _, C.2.2.2.2.1 _ cl_L31, G.2.2.1 0 3 (by decide) (by decide) (by decide)⟩, (fun _ hm => nomatch hm)⟩) ⟨rfl, by decide, C.2.2.2.2.1 _ cl_L17⟩ ?_
      refine lv_astore_n (lv' := [(2, .ref xk), (0, .ref (h 0)), (1, .int x)]) C.1 C.2.1 d_L_drop_11 rfl hl (by decide) rfl (fun ls hl => ?_)
      refine lv_iconst (v := nI 2) C.1 C.2.1 d_L_drop_12 (by decide) ?_
      exact lx_ret C hr I (by decide) (by decide) (Or.inr ⟨0, by decide, wc, rfl⟩) d_L_drop_13
    · refine wx_catch (own := R_L) C.2.2.2.1 hE [] ⟨0, 5, 8, 31⟩ [⟨0, 5, 11, 17⟩] (G.2.2.2.trans rfl) (fun _ hm => nomatch hm) ⟨rfl, by decide, C.2.2.2.2.1 _ cl_L31⟩ ?_
      refine lv_astore_n (lv' := [(2, .ref xk), (0, .ref (h 0)), (1, .int x)]) C.1 C.2.1 d_L_drop_8 rfl hl (by decide) rfl (fun ls hl => ?_)
      refine lv_iconst (v := nI 1) C.1 C.2.1 d_L_drop_9 (by decide) ?_
      exact lx_ret C hr I (by decide) (by decide) (Or.inr ⟨3, by decide, wc, rfl⟩) d_L_drop_10
set_option maxHeartbeats 4000000 in
set_option maxRecDepth 100000 in
/-- SnapshotVolumeLaw.readSnapshot -/
theorem c_L_readSnapshot (l : Launch) (hlt : l.stackTraces = false) (D : va_G) (cA : Nat → ClassId) (h : Nat → Nat) (qo : Nat) (f : Nat → Int64) (sz : Nat) (bw : (Nat → Int32)) (cw : (Nat → Int32)) (ts : (Nat → Int32)) (tb : (Nat → Int32)) (st : (Nat → Int32)) (ro : Nat) (mr : Nat) (la : Nat) (fu : Option Nat) (dn : Bool) (wr : Nat) (x y z : Int32) (hfu : ∀ k, fu = some k → k < 2 ^ 31)  : wMi l D cA h qo f (bw, cw, ts, tb, st, ro, mr, la, fu, dn, wr) sz y_L_readSnapshot (.codeWith y_L_readSnapshot b_L_readSnapshot 6 (some .int) [(0, 12, 15, 31), (0, 12, 19, 13), (0, 12, 23, 17)]) (rmX 6) [.ref (h 0), .int x, .int y, .int z, .ref qo] (wP (cReadS x y z) (fun a g => g 0 = a.toInt64) kcRS (bw, cw, ts, tb, st, ro, mr, la, fu, dn, wr)) := by
  refine lx_m (by decide) rfl (Nat.le_of_ble_eq_true rfl) ?_
  intro p e s m args below meth c C G hr hsz I ls hl
  generalize va_A (wW cA h qo f (bw, cw, ts, tb, st, ro, mr, la, fu, dn, wr)) sz = A at I G ⊢
  have hl : lv_has ls 6 [(0, .ref (h 0)), (1, .int x), (2, .int y), (3, .int z), (4, .ref qo)] := hl
  refine lv_aload C.1 C.2.1 d_L_readSnapshot_0 (lv_at hl 4 rfl) ?_
  refine lv_iconst (v := nI 0) C.1 C.2.1 d_L_readSnapshot_2 (by decide) ?_
  refine lv_aload_n C.1 C.2.1 d_L_readSnapshot_3 rfl (lv_at hl 0 rfl) ?_
  refine lv_iload_n C.1 C.2.1 d_L_readSnapshot_4 rfl (lv_at hl 1 rfl) ?_
  refine lv_iload_n C.1 C.2.1 d_L_readSnapshot_5 rfl (lv_at hl 2 rfl) ?_
  refine lv_iload_n C.1 C.2.1 d_L_readSnapshot_6 rfl (lv_at hl 3 rfl) ?_
  refine lx_call C G I (c_S_readSnapshot l hlt D cA h _ bw cw ts tb st ro mr la fu dn wr x y z hfu) lk_L33 rfl rfl ⟨by decide, by decide⟩ ⟨by decide, by decide⟩ rfl hl.1 (rest := [.int (nI 0), .ref qo]) rfl (Nat.le_of_ble_eq_true rfl) d_L_readSnapshot_7 (fun v u' H locs wc I => ?_) (fun k xk u' H locs hE wc I => ?_)
  · obtain ⟨r1, rfl, z, hfb⟩ := wc
    refine lv_i2l C.1 C.2.1 d_L_readSnapshot_10 rfl ?_
    refine lx_last C I d_L_readSnapshot_11 (fun H locs I => ?_)
    refine lv_goto (tgt := 27) C.1 C.2.1 d_L_readSnapshot_12 (by decide) ?_
    refine lv_iconst (v := nI 0) C.1 C.2.1 d_L_readSnapshot_27 (by decide) ?_
    exact lx_ret C hr I (by decide) (by decide) (Or.inl ⟨r1, z, rfl, rfl⟩) d_L_readSnapshot_28
  · have hk : k = 0 ∨ k = 1 ∨ k = 3 := (er_readS (S := fun k => k = 0 ∨ k = 1 ∨ k = 3) (Or.inl rfl) (Or.inr (Or.inl rfl)) (Or.inr (Or.inr (rfl))) x y z _ _ _ wc)
    rcases hk with rfl | rfl | rfl
    · refine wx_catch (own := R_L) C.2.2.2.1 hE [⟨0, 12, 15, 31⟩, ⟨0, 12, 19, 13⟩] ⟨0, 12, 23, 17⟩ [] (G.2.2.2.trans rfl) (List.forall_mem_cons.mpr ⟨⟨rfl, by decide, _, C.2.2.2.2.1 _ cl_L31, G.2.2.1 0 3 (by decide) (by decide) (by decide)⟩, (List.forall_mem_cons.mpr ⟨⟨rfl, by decide, _, C.2.2.2.2.1 _ cl_L13, G.2.2.1 0 1 (by decide) (by decide) (by decide)⟩, (fun _ hm => nomatch hm)⟩)⟩) ⟨rfl, by decide, C.2.2.2.2.1 _ cl_L17⟩ ?_
      refine lv_astore (lv' := [(5, .ref xk), (0, .ref (h 0)), (1, .int x), (2, .int y), (3, .int z), (4, .ref qo)]) C.1 C.2.1 d_L_readSnapshot_23 hl (by decide) rfl (fun ls hl => ?_)
      refine lv_iconst (v := nI 3) C.1 C.2.1 d_L_readSnapshot_25 (by decide) ?_
      exact lx_ret C hr I (by decide) (by decide) (Or.inr ⟨0, by decide, wc, rfl⟩) d_L_readSnapshot_26
    · refine wx_catch (own := R_L) C.2.2.2.1 hE [⟨0, 12, 15, 31⟩] ⟨0, 12, 19, 13⟩ [⟨0, 12, 23, 17⟩] (G.2.2.2.trans rfl) (List.forall_mem_cons.mpr ⟨⟨rfl, by decide, _, C.2.2.2.2.1 _ cl_L31, G.2.2.1 1 3 (by decide) (by decide) (by decide)⟩, (fun _ hm => nomatch hm)⟩) ⟨rfl, by decide, C.2.2.2.2.1 _ cl_L13⟩ ?_
      refine lv_astore (lv' := [(5, .ref xk), (0, .ref (h 0)), (1, .int x), (2, .int y), (3, .int z), (4, .ref qo)]) C.1 C.2.1 d_L_readSnapshot_19 hl (by decide) rfl (fun ls hl => ?_)
      refine lv_iconst (v := nI 2) C.1 C.2.1 d_L_readSnapshot_21 (by decide) ?_
      exact lx_ret C hr I (by decide) (by decide) (Or.inr ⟨1, by decide, wc, rfl⟩) d_L_readSnapshot_22
    · refine wx_catch (own := R_L) C.2.2.2.1 hE [] ⟨0, 12, 15, 31⟩ [⟨0, 12, 19, 13⟩, ⟨0, 12, 23, 17⟩] (G.2.2.2.trans rfl) (fun _ hm => nomatch hm) ⟨rfl, by decide, C.2.2.2.2.1 _ cl_L31⟩ ?_
      refine lv_astore (lv' := [(5, .ref xk), (0, .ref (h 0)), (1, .int x), (2, .int y), (3, .int z), (4, .ref qo)]) C.1 C.2.1 d_L_readSnapshot_15 hl (by decide) rfl (fun ls hl => ?_)
      refine lv_iconst (v := nI 1) C.1 C.2.1 d_L_readSnapshot_17 (by decide) ?_
      exact lx_ret C hr I (by decide) (by decide) (Or.inr ⟨3, by decide, wc, rfl⟩) d_L_readSnapshot_18
set_option maxHeartbeats 4000000 in
set_option maxRecDepth 100000 in
/-- SnapshotVolumeLaw.writeSnapshot -/
theorem c_L_writeSnapshot (l : Launch) (hlt : l.stackTraces = false) (D : va_G) (cA : Nat → ClassId) (h : Nat → Nat) (qo : Nat) (f : Nat → Int64) (sz : Nat) (bw : (Nat → Int32)) (cw : (Nat → Int32)) (ts : (Nat → Int32)) (tb : (Nat → Int32)) (st : (Nat → Int32)) (ro : Nat) (mr : Nat) (la : Nat) (fu : Option Nat) (dn : Bool) (wr : Nat) (x y z w0 : Int32) (hfu : ∀ k, fu = some k → k < 2 ^ 31)  : wMi l D cA h qo f (bw, cw, ts, tb, st, ro, mr, la, fu, dn, wr) sz y_L_writeSnapshot (.codeWith y_L_writeSnapshot b_L_writeSnapshot 7 (some .int) [(0, 21, 24, 31), (0, 21, 28, 13), (0, 21, 32, 15), (0, 21, 36, 17)]) (rmX 6) [.ref (h 0), .int x, .int y, .int z, .int w0, .ref qo] (wP (cWriteS x y z w0) (fun a g => g 0 = (if a = true then 1 else 0)) kcWS (bw, cw, ts, tb, st, ro, mr, la, fu, dn, wr)) := by
  refine lx_m (by decide) rfl (Nat.le_of_ble_eq_true rfl) ?_
  intro p e s m args below meth c C G hr hsz I ls hl
  generalize va_A (wW cA h qo f (bw, cw, ts, tb, st, ro, mr, la, fu, dn, wr)) sz = A at I G ⊢
  have hl : lv_has ls 7 [(0, .ref (h 0)), (1, .int x), (2, .int y), (3, .int z), (4, .int w0), (5, .ref qo)] := hl
  refine lv_aload C.1 C.2.1 d_L_writeSnapshot_0 (lv_at hl 5 rfl) ?_
  refine lv_iconst (v := nI 0) C.1 C.2.1 d_L_writeSnapshot_2 (by decide) ?_
  refine lv_aload_n C.1 C.2.1 d_L_writeSnapshot_3 rfl (lv_at hl 0 rfl) ?_
  refine lv_iload_n C.1 C.2.1 d_L_writeSnapshot_4 rfl (lv_at hl 1 rfl) ?_
  refine lv_iload_n C.1 C.2.1 d_L_writeSnapshot_5 rfl (lv_at hl 2 rfl) ?_
  refine lv_iload_n C.1 C.2.1 d_L_writeSnapshot_6 rfl (lv_at hl 3 rfl) ?_
  refine lv_iload C.1 C.2.1 d_L_writeSnapshot_7 (lv_at hl 4 rfl) ?_
  refine lx_call C G I (c_S_writeSnapshot l hlt D cA h _ bw cw ts tb st ro mr la fu dn wr x y z w0 hfu) lk_L36 rfl rfl ⟨by decide, by decide⟩ ⟨by decide, by decide⟩ rfl hl.1 (rest := [.int (nI 0), .ref qo]) rfl (Nat.le_of_ble_eq_true rfl) d_L_writeSnapshot_9 (fun v u' H locs wc I => ?_) (fun k xk u' H locs hE wc I => ?_)
  · obtain ⟨r1, rfl, z, hfb⟩ := wc
    refine n_ifeq (b := r1) (tgt := 19) C.1 C.2.1 d_L_writeSnapshot_12 (by decide) (fun q => ?_) (fun q => ?_)
    · refine lv_lconst (v := 0) C.1 C.2.1 d_L_writeSnapshot_19 (by decide) ?_
      refine lx_last C I d_L_writeSnapshot_20 (fun H locs I => ?_)
      refine lv_goto (tgt := 40) C.1 C.2.1 d_L_writeSnapshot_21 (by decide) ?_
      refine lv_iconst (v := nI 0) C.1 C.2.1 d_L_writeSnapshot_40 (by decide) ?_
      exact lx_ret C hr I (by decide) (by decide) (Or.inl ⟨r1, z, rfl, by rw [q]; rfl⟩) d_L_writeSnapshot_41
    · refine lv_lconst (v := 1) C.1 C.2.1 d_L_writeSnapshot_15 (by decide) ?_
      refine lv_goto (tgt := 20) C.1 C.2.1 d_L_writeSnapshot_16 (by decide) ?_
      refine lx_last C I d_L_writeSnapshot_20 (fun H locs I => ?_)
      refine lv_goto (tgt := 40) C.1 C.2.1 d_L_writeSnapshot_21 (by decide) ?_
      refine lv_iconst (v := nI 0) C.1 C.2.1 d_L_writeSnapshot_40 (by decide) ?_
      exact lx_ret C hr I (by decide) (by decide) (Or.inl ⟨r1, z, rfl, by rw [q]; rfl⟩) d_L_writeSnapshot_41
  · have hk : k = 0 ∨ k = 1 ∨ k = 2 ∨ k = 3 := (er_writeS (S := fun k => k = 0 ∨ k = 1 ∨ k = 2 ∨ k = 3) (Or.inl rfl) (Or.inr (Or.inl rfl)) (Or.inr (Or.inr (Or.inl rfl))) (Or.inr (Or.inr (Or.inr (rfl)))) x y z w0 _ _ _ wc)
    rcases hk with rfl | rfl | rfl | rfl
    · refine wx_catch (own := R_L) C.2.2.2.1 hE [⟨0, 21, 24, 31⟩, ⟨0, 21, 28, 13⟩, ⟨0, 21, 32, 15⟩] ⟨0, 21, 36, 17⟩ [] (G.2.2.2.trans rfl) (List.forall_mem_cons.mpr ⟨⟨rfl, by decide, _, C.2.2.2.2.1 _ cl_L31, G.2.2.1 0 3 (by decide) (by decide) (by decide)⟩, (List.forall_mem_cons.mpr ⟨⟨rfl, by decide, _, C.2.2.2.2.1 _ cl_L13, G.2.2.1 0 1 (by decide) (by decide) (by decide)⟩, (List.forall_mem_cons.mpr ⟨⟨rfl, by decide, _, C.2.2.2.2.1 _ cl_L15, G.2.2.1 0 2 (by decide) (by decide) (by decide)⟩, (fun _ hm => nomatch hm)⟩)⟩)⟩) ⟨rfl, by decide, C.2.2.2.2.1 _ cl_L17⟩ ?_
      refine lv_astore (lv' := [(6, .ref xk), (0, .ref (h 0)), (1, .int x), (2, .int y), (3, .int z), (4, .int w0), (5, .ref qo)]) C.1 C.2.1 d_L_writeSnapshot_36 hl (by decide) rfl (fun ls hl => ?_)
      refine lv_iconst (v := nI 4) C.1 C.2.1 d_L_writeSnapshot_38 (by decide) ?_
      exact lx_ret C hr I (by decide) (by decide) (Or.inr ⟨0, by decide, wc, rfl⟩) d_L_writeSnapshot_39
    · refine wx_catch (own := R_L) C.2.2.2.1 hE [⟨0, 21, 24, 31⟩] ⟨0, 21, 28, 13⟩ [⟨0, 21, 32, 15⟩, ⟨0, 21, 36, 17⟩] (G.2.2.2.trans rfl) (List.forall_mem_cons.mpr ⟨⟨rfl, by decide, _, C.2.2.2.2.1 _ cl_L31, G.2.2.1 1 3 (by decide) (by decide) (by decide)⟩, (fun _ hm => nomatch hm)⟩) ⟨rfl, by decide, C.2.2.2.2.1 _ cl_L13⟩ ?_
      refine lv_astore (lv' := [(6, .ref xk), (0, .ref (h 0)), (1, .int x), (2, .int y), (3, .int z), (4, .int w0), (5, .ref qo)]) C.1 C.2.1 d_L_writeSnapshot_28 hl (by decide) rfl (fun ls hl => ?_)
      refine lv_iconst (v := nI 2) C.1 C.2.1 d_L_writeSnapshot_30 (by decide) ?_
      exact lx_ret C hr I (by decide) (by decide) (Or.inr ⟨1, by decide, wc, rfl⟩) d_L_writeSnapshot_31
    · refine wx_catch (own := R_L) C.2.2.2.1 hE [⟨0, 21, 24, 31⟩, ⟨0, 21, 28, 13⟩] ⟨0, 21, 32, 15⟩ [⟨0, 21, 36, 17⟩] (G.2.2.2.trans rfl) (List.forall_mem_cons.mpr ⟨⟨rfl, by decide, _, C.2.2.2.2.1 _ cl_L31, G.2.2.1 2 3 (by decide) (by decide) (by decide)⟩, (List.forall_mem_cons.mpr ⟨⟨rfl, by decide, _, C.2.2.2.2.1 _ cl_L13, G.2.2.1 2 1 (by decide) (by decide) (by decide)⟩, (fun _ hm => nomatch hm)⟩)⟩) ⟨rfl, by decide, C.2.2.2.2.1 _ cl_L15⟩ ?_
      refine lv_astore (lv' := [(6, .ref xk), (0, .ref (h 0)), (1, .int x), (2, .int y), (3, .int z), (4, .int w0), (5, .ref qo)]) C.1 C.2.1 d_L_writeSnapshot_32 hl (by decide) rfl (fun ls hl => ?_)
      refine lv_iconst (v := nI 3) C.1 C.2.1 d_L_writeSnapshot_34 (by decide) ?_
      exact lx_ret C hr I (by decide) (by decide) (Or.inr ⟨2, by decide, wc, rfl⟩) d_L_writeSnapshot_35
    · refine wx_catch (own := R_L) C.2.2.2.1 hE [] ⟨0, 21, 24, 31⟩ [⟨0, 21, 28, 13⟩, ⟨0, 21, 32, 15⟩, ⟨0, 21, 36, 17⟩] (G.2.2.2.trans rfl) (fun _ hm => nomatch hm) ⟨rfl, by decide, C.2.2.2.2.1 _ cl_L31⟩ ?_
      refine lv_astore (lv' := [(6, .ref xk), (0, .ref (h 0)), (1, .int x), (2, .int y), (3, .int z), (4, .int w0), (5, .ref qo)]) C.1 C.2.1 d_L_writeSnapshot_24 hl (by decide) rfl (fun ls hl => ?_)
      refine lv_iconst (v := nI 1) C.1 C.2.1 d_L_writeSnapshot_26 (by decide) ?_
      exact lx_ret C hr I (by decide) (by decide) (Or.inr ⟨3, by decide, wc, rfl⟩) d_L_writeSnapshot_27
set_option maxHeartbeats 4000000 in
set_option maxRecDepth 100000 in
/-- SnapshotVolumeLaw.rollback -/
theorem c_L_rollback (l : Launch) (hlt : l.stackTraces = false) (D : va_G) (cA : Nat → ClassId) (h : Nat → Nat) (qo : Nat) (f : Nat → Int64) (sz : Nat) (bw : (Nat → Int32)) (cw : (Nat → Int32)) (ts : (Nat → Int32)) (tb : (Nat → Int32)) (st : (Nat → Int32)) (ro : Nat) (mr : Nat) (la : Nat) (fu : Option Nat) (dn : Bool) (wr : Nat) (x : Int32) (hfu : ∀ k, fu = some k → k < 2 ^ 31)  : wMi l D cA h qo f (bw, cw, ts, tb, st, ro, mr, la, fu, dn, wr) sz y_L_rollback (.codeWith y_L_rollback b_L_rollback 4 (some .int) [(0, 9, 12, 31), (0, 9, 15, 15), (0, 9, 18, 17)]) (rmX 6) [.ref (h 0), .int x, .ref qo] (wP (cRoll x) (fun a g => g 0 = (nI a).toInt64) kcRo (bw, cw, ts, tb, st, ro, mr, la, fu, dn, wr)) := by
  refine lx_m (by decide) rfl (Nat.le_of_ble_eq_true rfl) ?_
  intro p e s m args below meth c C G hr hsz I ls hl
  generalize va_A (wW cA h qo f (bw, cw, ts, tb, st, ro, mr, la, fu, dn, wr)) sz = A at I G ⊢
  have hl : lv_has ls 4 [(0, .ref (h 0)), (1, .int x), (2, .ref qo)] := hl
  refine lv_aload_n C.1 C.2.1 d_L_rollback_0 rfl (lv_at hl 2 rfl) ?_
  refine lv_iconst (v := nI 0) C.1 C.2.1 d_L_rollback_1 (by decide) ?_
  refine lv_aload_n C.1 C.2.1 d_L_rollback_2 rfl (lv_at hl 0 rfl) ?_
  refine lv_iload_n C.1 C.2.1 d_L_rollback_3 rfl (lv_at hl 1 rfl) ?_
  refine lx_call C G I (c_S_rollback l hlt D cA h _ bw cw ts tb st ro mr la fu dn wr x hfu) lk_L40 rfl rfl ⟨by decide, by decide⟩ ⟨by decide, by decide⟩ rfl hl.1 (rest := [.int (nI 0), .ref qo]) rfl (Nat.le_of_ble_eq_true rfl) d_L_rollback_4 (fun v u' H locs wc I => ?_) (fun k xk u' H locs hE wc I => ?_)
  · obtain ⟨r1, rfl, z, hfb⟩ := wc
    refine lv_i2l C.1 C.2.1 d_L_rollback_7 rfl ?_
    refine lx_last C I d_L_rollback_8 (fun H locs I => ?_)
    refine lv_goto (tgt := 21) C.1 C.2.1 d_L_rollback_9 (by decide) ?_
    refine lv_iconst (v := nI 0) C.1 C.2.1 d_L_rollback_21 (by decide) ?_
    exact lx_ret C hr I (by decide) (by decide) (Or.inl ⟨r1, z, rfl, rfl⟩) d_L_rollback_22
  · have hk : k = 0 ∨ k = 2 ∨ k = 3 := (er_roll (S := fun k => k = 0 ∨ k = 2 ∨ k = 3) (Or.inl rfl) (Or.inr (Or.inl rfl)) (Or.inr (Or.inr (rfl))) x _ _ _ wc)
    rcases hk with rfl | rfl | rfl
    · refine wx_catch (own := R_L) C.2.2.2.1 hE [⟨0, 9, 12, 31⟩, ⟨0, 9, 15, 15⟩] ⟨0, 9, 18, 17⟩ [] (G.2.2.2.trans rfl) (List.forall_mem_cons.mpr ⟨⟨rfl, by decide, _, C.2.2.2.2.1 _ cl_L31, G.2.2.1 0 3 (by decide) (by decide) (by decide)⟩, (List.forall_mem_cons.mpr ⟨⟨rfl, by decide, _, C.2.2.2.2.1 _ cl_L15, G.2.2.1 0 2 (by decide) (by decide) (by decide)⟩, (fun _ hm => nomatch hm)⟩)⟩) ⟨rfl, by decide, C.2.2.2.2.1 _ cl_L17⟩ ?_
      refine lv_astore_n (lv' := [(3, .ref xk), (0, .ref (h 0)), (1, .int x), (2, .ref qo)]) C.1 C.2.1 d_L_rollback_18 rfl hl (by decide) rfl (fun ls hl => ?_)
      refine lv_iconst (v := nI 3) C.1 C.2.1 d_L_rollback_19 (by decide) ?_
      exact lx_ret C hr I (by decide) (by decide) (Or.inr ⟨0, by decide, wc, rfl⟩) d_L_rollback_20
    · refine wx_catch (own := R_L) C.2.2.2.1 hE [⟨0, 9, 12, 31⟩] ⟨0, 9, 15, 15⟩ [⟨0, 9, 18, 17⟩] (G.2.2.2.trans rfl) (List.forall_mem_cons.mpr ⟨⟨rfl, by decide, _, C.2.2.2.2.1 _ cl_L31, G.2.2.1 2 3 (by decide) (by decide) (by decide)⟩, (fun _ hm => nomatch hm)⟩) ⟨rfl, by decide, C.2.2.2.2.1 _ cl_L15⟩ ?_
      refine lv_astore_n (lv' := [(3, .ref xk), (0, .ref (h 0)), (1, .int x), (2, .ref qo)]) C.1 C.2.1 d_L_rollback_15 rfl hl (by decide) rfl (fun ls hl => ?_)
      refine lv_iconst (v := nI 2) C.1 C.2.1 d_L_rollback_16 (by decide) ?_
      exact lx_ret C hr I (by decide) (by decide) (Or.inr ⟨2, by decide, wc, rfl⟩) d_L_rollback_17
    · refine wx_catch (own := R_L) C.2.2.2.1 hE [] ⟨0, 9, 12, 31⟩ [⟨0, 9, 15, 15⟩, ⟨0, 9, 18, 17⟩] (G.2.2.2.trans rfl) (fun _ hm => nomatch hm) ⟨rfl, by decide, C.2.2.2.2.1 _ cl_L31⟩ ?_
      refine lv_astore_n (lv' := [(3, .ref xk), (0, .ref (h 0)), (1, .int x), (2, .ref qo)]) C.1 C.2.1 d_L_rollback_12 rfl hl (by decide) rfl (fun ls hl => ?_)
      refine lv_iconst (v := nI 1) C.1 C.2.1 d_L_rollback_13 (by decide) ?_
      exact lx_ret C hr I (by decide) (by decide) (Or.inr ⟨3, by decide, wc, rfl⟩) d_L_rollback_14
set_option maxHeartbeats 4000000 in
set_option maxRecDepth 100000 in
/-- SnapshotVolumeLaw.recover -/
theorem c_L_recover (l : Launch) (hlt : l.stackTraces = false) (D : va_G) (cA : Nat → ClassId) (h : Nat → Nat) (qo : Nat) (f : Nat → Int64) (sz : Nat) (bw : (Nat → Int32)) (cw : (Nat → Int32)) (ts : (Nat → Int32)) (tb : (Nat → Int32)) (st : (Nat → Int32)) (ro : Nat) (mr : Nat) (la : Nat) (fu : Option Nat) (dn : Bool) (wr : Nat)  (hfu : ∀ k, fu = some k → k < 2 ^ 31) (hmr : ∀ r, ro = r + 1 → mr ≤ 6) (hro : ro ≤ 3) (hdf : dn = true → fu = none) : wMi l D cA h qo f (bw, cw, ts, tb, st, ro, mr, la, fu, dn, wr) sz y_L_recover (.codeWith y_L_recover b_L_recover 3 (some .int) [(0, 8, 11, 15)]) (rmX 6) [.ref (h 0), .ref qo] (wP (cRec) (fun a g => g 0 = (nI a).toInt64) kcX (bw, cw, ts, tb, st, ro, mr, la, fu, dn, wr)) := by
  refine lx_m (by decide) rfl (Nat.le_of_ble_eq_true rfl) ?_
  intro p e s m args below meth c C G hr hsz I ls hl
  generalize va_A (wW cA h qo f (bw, cw, ts, tb, st, ro, mr, la, fu, dn, wr)) sz = A at I G ⊢
  have hl : lv_has ls 3 [(0, .ref (h 0)), (1, .ref qo)] := hl
  refine lv_aload_n C.1 C.2.1 d_L_recover_0 rfl (lv_at hl 1 rfl) ?_
  refine lv_iconst (v := nI 0) C.1 C.2.1 d_L_recover_1 (by decide) ?_
  refine lv_aload_n C.1 C.2.1 d_L_recover_2 rfl (lv_at hl 0 rfl) ?_
  refine lx_call C G I (c_S_recover l hlt D cA h _ bw cw ts tb st ro mr la fu dn wr hmr hro hfu) lk_L44 rfl rfl ⟨by decide, by decide⟩ ⟨by decide, by decide⟩ rfl hl.1 (rest := [.int (nI 0), .ref qo]) rfl (Nat.le_of_ble_eq_true rfl) d_L_recover_3 (fun v u' H locs wc I => ?_) (fun k xk u' H locs hE wc I => ?_)
  · obtain ⟨r1, rfl, z, hfb⟩ := wc
    refine lv_i2l C.1 C.2.1 d_L_recover_6 rfl ?_
    refine lx_last C I d_L_recover_7 (fun H locs I => ?_)
    refine lv_goto (tgt := 14) C.1 C.2.1 d_L_recover_8 (by decide) ?_
    refine lv_iconst (v := nI 0) C.1 C.2.1 d_L_recover_14 (by decide) ?_
    exact lx_ret C hr I (by decide) (by decide) (Or.inl ⟨r1, z, rfl, rfl⟩) d_L_recover_15
  · have hk : k = 2 := (er_rec hdf wc)
    rcases hk with rfl
    · refine wx_catch (own := R_L) C.2.2.2.1 hE [] ⟨0, 8, 11, 15⟩ [] (G.2.2.2.trans rfl) (fun _ hm => nomatch hm) ⟨rfl, by decide, C.2.2.2.2.1 _ cl_L15⟩ ?_
      refine lv_astore_n (lv' := [(2, .ref xk), (0, .ref (h 0)), (1, .ref qo)]) C.1 C.2.1 d_L_recover_11 rfl hl (by decide) rfl (fun ls hl => ?_)
      refine lv_iconst (v := nI 1) C.1 C.2.1 d_L_recover_12 (by decide) ?_
      exact lx_ret C hr I (by decide) (by decide) (Or.inr ⟨2, by decide, wc, rfl⟩) d_L_recover_13
set_option maxHeartbeats 4000000 in
set_option maxRecDepth 100000 in
/-- SnapshotVolumeLaw.used -/
theorem c_L_used (l : Launch) (hlt : l.stackTraces = false) (D : va_G) (cA : Nat → ClassId) (h : Nat → Nat) (qo : Nat) (f : Nat → Int64) (sz : Nat) (bw : (Nat → Int32)) (cw : (Nat → Int32)) (ts : (Nat → Int32)) (tb : (Nat → Int32)) (st : (Nat → Int32)) (ro : Nat) (mr : Nat) (la : Nat) (fu : Option Nat) (dn : Bool) (wr : Nat)  (hfu : ∀ k, fu = some k → k < 2 ^ 31)  : wMi l D cA h qo f (bw, cw, ts, tb, st, ro, mr, la, fu, dn, wr) sz y_L_used (.codeWith y_L_used b_L_used 3 (some .int) [(0, 8, 11, 17)]) (rmX 6) [.ref (h 0), .ref qo] (wP (cUsed) (fun a g => g 0 = (nI a).toInt64) kcX (bw, cw, ts, tb, st, ro, mr, la, fu, dn, wr)) := by
  refine lx_m (by decide) rfl (Nat.le_of_ble_eq_true rfl) ?_
  intro p e s m args below meth c C G hr hsz I ls hl
  generalize va_A (wW cA h qo f (bw, cw, ts, tb, st, ro, mr, la, fu, dn, wr)) sz = A at I G ⊢
  have hl : lv_has ls 3 [(0, .ref (h 0)), (1, .ref qo)] := hl
  refine lv_aload_n C.1 C.2.1 d_L_used_0 rfl (lv_at hl 1 rfl) ?_
  refine lv_iconst (v := nI 0) C.1 C.2.1 d_L_used_1 (by decide) ?_
  refine lv_aload_n C.1 C.2.1 d_L_used_2 rfl (lv_at hl 0 rfl) ?_
  refine lx_call C G I (c_S_used l hlt D cA h _ bw cw ts tb st ro mr la fu dn wr hfu) lk_L47 rfl rfl ⟨by decide, by decide⟩ ⟨by decide, by decide⟩ rfl hl.1 (rest := [.int (nI 0), .ref qo]) rfl (Nat.le_of_ble_eq_true rfl) d_L_used_3 (fun v u' H locs wc I => ?_) (fun k xk u' H locs hE wc I => ?_)
  · obtain ⟨r1, rfl, z, hfb⟩ := wc
    refine lv_i2l C.1 C.2.1 d_L_used_6 rfl ?_
    refine lx_last C I d_L_used_7 (fun H locs I => ?_)
    refine lv_goto (tgt := 14) C.1 C.2.1 d_L_used_8 (by decide) ?_
    refine lv_iconst (v := nI 0) C.1 C.2.1 d_L_used_14 (by decide) ?_
    exact lx_ret C hr I (by decide) (by decide) (Or.inl ⟨r1, z, rfl, rfl⟩) d_L_used_15
  · have hk : k = 0 := (er_used (S := fun k => k = 0) (rfl)  _ _ _ wc)
    rcases hk with rfl
    · refine wx_catch (own := R_L) C.2.2.2.1 hE [] ⟨0, 8, 11, 17⟩ [] (G.2.2.2.trans rfl) (fun _ hm => nomatch hm) ⟨rfl, by decide, C.2.2.2.2.1 _ cl_L17⟩ ?_
      refine lv_astore_n (lv' := [(2, .ref xk), (0, .ref (h 0)), (1, .ref qo)]) C.1 C.2.1 d_L_used_11 rfl hl (by decide) rfl (fun ls hl => ?_)
      refine lv_iconst (v := nI 1) C.1 C.2.1 d_L_used_12 (by decide) ?_
      exact lx_ret C hr I (by decide) (by decide) (Or.inr ⟨0, by decide, wc, rfl⟩) d_L_used_13
set_option maxHeartbeats 4000000 in
set_option maxRecDepth 100000 in
/-- SnapshotVolumeLaw.copyOf -/
theorem c_L_copyOf (l : Launch) (hlt : l.stackTraces = false) (D : va_G) (cA : Nat → ClassId) (h : Nat → Nat) (qo : Nat) (f : Nat → Int64) (sz : Nat) (bw : (Nat → Int32)) (cw : (Nat → Int32)) (ts : (Nat → Int32)) (tb : (Nat → Int32)) (st : (Nat → Int32)) (ro : Nat) (mr : Nat) (la : Nat) (fu : Option Nat) (dn : Bool) (wr : Nat) (x y : Int32) (hfu : ∀ k, fu = some k → k < 2 ^ 31)  : wMi l D cA h qo f (bw, cw, ts, tb, st, ro, mr, la, fu, dn, wr) sz y_L_copyOf (.codeWith y_L_copyOf b_L_copyOf 5 (some .int) [(0, 10, 13, 31), (0, 10, 17, 13), (0, 10, 21, 17)]) (rmX 6) [.ref (h 0), .int x, .int y, .ref qo] (wP (cCopyOf x y) (fun a g => g 0 = (oI a).toInt64) kcRS (bw, cw, ts, tb, st, ro, mr, la, fu, dn, wr)) := by
  refine lx_m (by decide) rfl (Nat.le_of_ble_eq_true rfl) ?_
  intro p e s m args below meth c C G hr hsz I ls hl
  generalize va_A (wW cA h qo f (bw, cw, ts, tb, st, ro, mr, la, fu, dn, wr)) sz = A at I G ⊢
  have hl : lv_has ls 5 [(0, .ref (h 0)), (1, .int x), (2, .int y), (3, .ref qo)] := hl
  refine lv_aload_n C.1 C.2.1 d_L_copyOf_0 rfl (lv_at hl 3 rfl) ?_
  refine lv_iconst (v := nI 0) C.1 C.2.1 d_L_copyOf_1 (by decide) ?_
  refine lv_aload_n C.1 C.2.1 d_L_copyOf_2 rfl (lv_at hl 0 rfl) ?_
  refine lv_iload_n C.1 C.2.1 d_L_copyOf_3 rfl (lv_at hl 1 rfl) ?_
  refine lv_iload_n C.1 C.2.1 d_L_copyOf_4 rfl (lv_at hl 2 rfl) ?_
  refine lx_call C G I (c_S_copyOf l hlt D cA h _ bw cw ts tb st ro mr la fu dn wr x y hfu) lk_L50 rfl rfl ⟨by decide, by decide⟩ ⟨by decide, by decide⟩ rfl hl.1 (rest := [.int (nI 0), .ref qo]) rfl (Nat.le_of_ble_eq_true rfl) d_L_copyOf_5 (fun v u' H locs wc I => ?_) (fun k xk u' H locs hE wc I => ?_)
  · obtain ⟨r1, rfl, z, hfb⟩ := wc
    refine lv_i2l C.1 C.2.1 d_L_copyOf_8 rfl ?_
    refine lx_last C I d_L_copyOf_9 (fun H locs I => ?_)
    refine lv_goto (tgt := 25) C.1 C.2.1 d_L_copyOf_10 (by decide) ?_
    refine lv_iconst (v := nI 0) C.1 C.2.1 d_L_copyOf_25 (by decide) ?_
    exact lx_ret C hr I (by decide) (by decide) (Or.inl ⟨r1, z, rfl, rfl⟩) d_L_copyOf_26
  · have hk : k = 0 ∨ k = 1 ∨ k = 3 := (er_copyOf (S := fun k => k = 0 ∨ k = 1 ∨ k = 3) (Or.inl rfl) (Or.inr (Or.inl rfl)) (Or.inr (Or.inr (rfl))) x y _ _ _ wc)
    rcases hk with rfl | rfl | rfl
    · refine wx_catch (own := R_L) C.2.2.2.1 hE [⟨0, 10, 13, 31⟩, ⟨0, 10, 17, 13⟩] ⟨0, 10, 21, 17⟩ [] (G.2.2.2.trans rfl) (List.forall_mem_cons.mpr ⟨⟨rfl, by decide, _, C.2.2.2.2.1 _ cl_L31, G.2.2.1 0 3 (by decide) (by decide) (by decide)⟩, (List.forall_mem_cons.mpr ⟨⟨rfl, by decide, _, C.2.2.2.2.1 _ cl_L13, G.2.2.1 0 1 (by decide) (by decide) (by decide)⟩, (fun _ hm => nomatch hm)⟩)⟩) ⟨rfl, by decide, C.2.2.2.2.1 _ cl_L17⟩ ?_
      refine lv_astore (lv' := [(4, .ref xk), (0, .ref (h 0)), (1, .int x), (2, .int y), (3, .ref qo)]) C.1 C.2.1 d_L_copyOf_21 hl (by decide) rfl (fun ls hl => ?_)
      refine lv_iconst (v := nI 3) C.1 C.2.1 d_L_copyOf_23 (by decide) ?_
      exact lx_ret C hr I (by decide) (by decide) (Or.inr ⟨0, by decide, wc, rfl⟩) d_L_copyOf_24
    · refine wx_catch (own := R_L) C.2.2.2.1 hE [⟨0, 10, 13, 31⟩] ⟨0, 10, 17, 13⟩ [⟨0, 10, 21, 17⟩] (G.2.2.2.trans rfl) (List.forall_mem_cons.mpr ⟨⟨rfl, by decide, _, C.2.2.2.2.1 _ cl_L31, G.2.2.1 1 3 (by decide) (by decide) (by decide)⟩, (fun _ hm => nomatch hm)⟩) ⟨rfl, by decide, C.2.2.2.2.1 _ cl_L13⟩ ?_
      refine lv_astore (lv' := [(4, .ref xk), (0, .ref (h 0)), (1, .int x), (2, .int y), (3, .ref qo)]) C.1 C.2.1 d_L_copyOf_17 hl (by decide) rfl (fun ls hl => ?_)
      refine lv_iconst (v := nI 2) C.1 C.2.1 d_L_copyOf_19 (by decide) ?_
      exact lx_ret C hr I (by decide) (by decide) (Or.inr ⟨1, by decide, wc, rfl⟩) d_L_copyOf_20
    · refine wx_catch (own := R_L) C.2.2.2.1 hE [] ⟨0, 10, 13, 31⟩ [⟨0, 10, 17, 13⟩, ⟨0, 10, 21, 17⟩] (G.2.2.2.trans rfl) (fun _ hm => nomatch hm) ⟨rfl, by decide, C.2.2.2.2.1 _ cl_L31⟩ ?_
      refine lv_astore (lv' := [(4, .ref xk), (0, .ref (h 0)), (1, .int x), (2, .int y), (3, .ref qo)]) C.1 C.2.1 d_L_copyOf_13 hl (by decide) rfl (fun ls hl => ?_)
      refine lv_iconst (v := nI 1) C.1 C.2.1 d_L_copyOf_15 (by decide) ?_
      exact lx_ret C hr I (by decide) (by decide) (Or.inr ⟨3, by decide, wc, rfl⟩) d_L_copyOf_16
set_option maxHeartbeats 4000000 in
set_option maxRecDepth 100000 in
/-- SnapshotVolumeLaw.places -/
theorem c_L_places (l : Launch) (hlt : l.stackTraces = false) (D : va_G) (cA : Nat → ClassId) (h : Nat → Nat) (qo : Nat) (f : Nat → Int64) (sz : Nat) (bw : (Nat → Int32)) (cw : (Nat → Int32)) (ts : (Nat → Int32)) (tb : (Nat → Int32)) (st : (Nat → Int32)) (ro : Nat) (mr : Nat) (la : Nat) (fu : Option Nat) (dn : Bool) (wr : Nat)  (hfu : ∀ k, fu = some k → k < 2 ^ 31)  : wMi l D cA h qo f (bw, cw, ts, tb, st, ro, mr, la, fu, dn, wr) sz y_L_places (.codeWith y_L_places b_L_places 3 (some .int) [(0, 8, 11, 17)]) (rmX 6) [.ref (h 0), .ref qo] (wP (cPlaces) (fun a g => g 0 = (nI a).toInt64) kcX (bw, cw, ts, tb, st, ro, mr, la, fu, dn, wr)) := by
  refine lx_m (by decide) rfl (Nat.le_of_ble_eq_true rfl) ?_
  intro p e s m args below meth c C G hr hsz I ls hl
  generalize va_A (wW cA h qo f (bw, cw, ts, tb, st, ro, mr, la, fu, dn, wr)) sz = A at I G ⊢
  have hl : lv_has ls 3 [(0, .ref (h 0)), (1, .ref qo)] := hl
  refine lv_aload_n C.1 C.2.1 d_L_places_0 rfl (lv_at hl 1 rfl) ?_
  refine lv_iconst (v := nI 0) C.1 C.2.1 d_L_places_1 (by decide) ?_
  refine lv_aload_n C.1 C.2.1 d_L_places_2 rfl (lv_at hl 0 rfl) ?_
  refine lx_call C G I (c_S_places l hlt D cA h _ bw cw ts tb st ro mr la fu dn wr hfu) lk_L53 rfl rfl ⟨by decide, by decide⟩ ⟨by decide, by decide⟩ rfl hl.1 (rest := [.int (nI 0), .ref qo]) rfl (Nat.le_of_ble_eq_true rfl) d_L_places_3 (fun v u' H locs wc I => ?_) (fun k xk u' H locs hE wc I => ?_)
  · obtain ⟨r1, rfl, z, hfb⟩ := wc
    refine lv_i2l C.1 C.2.1 d_L_places_6 rfl ?_
    refine lx_last C I d_L_places_7 (fun H locs I => ?_)
    refine lv_goto (tgt := 14) C.1 C.2.1 d_L_places_8 (by decide) ?_
    refine lv_iconst (v := nI 0) C.1 C.2.1 d_L_places_14 (by decide) ?_
    exact lx_ret C hr I (by decide) (by decide) (Or.inl ⟨r1, z, rfl, rfl⟩) d_L_places_15
  · have hk : k = 0 := (er_places (S := fun k => k = 0) (rfl)  _ _ _ wc)
    rcases hk with rfl
    · refine wx_catch (own := R_L) C.2.2.2.1 hE [] ⟨0, 8, 11, 17⟩ [] (G.2.2.2.trans rfl) (fun _ hm => nomatch hm) ⟨rfl, by decide, C.2.2.2.2.1 _ cl_L17⟩ ?_
      refine lv_astore_n (lv' := [(2, .ref xk), (0, .ref (h 0)), (1, .ref qo)]) C.1 C.2.1 d_L_places_11 rfl hl (by decide) rfl (fun ls hl => ?_)
      refine lv_iconst (v := nI 1) C.1 C.2.1 d_L_places_12 (by decide) ?_
      exact lx_ret C hr I (by decide) (by decide) (Or.inr ⟨0, by decide, wc, rfl⟩) d_L_places_13
set_option maxHeartbeats 4000000 in
set_option maxRecDepth 100000 in
/-- SnapshotVolumeLaw.changed -/
theorem c_L_changed (l : Launch) (hlt : l.stackTraces = false) (D : va_G) (cA : Nat → ClassId) (h : Nat → Nat) (qo : Nat) (f : Nat → Int64) (sz : Nat) (bw : (Nat → Int32)) (cw : (Nat → Int32)) (ts : (Nat → Int32)) (tb : (Nat → Int32)) (st : (Nat → Int32)) (ro : Nat) (mr : Nat) (la : Nat) (fu : Option Nat) (dn : Bool) (wr : Nat) (x : Int32) (hfu : ∀ k, fu = some k → k < 2 ^ 31)  : wMi l D cA h qo f (bw, cw, ts, tb, st, ro, mr, la, fu, dn, wr) sz y_L_changed (.codeWith y_L_changed b_L_changed 4 (some .int) [(0, 9, 12, 31), (0, 9, 15, 17)]) (rmX 6) [.ref (h 0), .int x, .ref qo] (wP (cChanged x) (fun a g => g 0 = (nI a).toInt64) kcC (bw, cw, ts, tb, st, ro, mr, la, fu, dn, wr)) := by
  refine lx_m (by decide) rfl (Nat.le_of_ble_eq_true rfl) ?_
  intro p e s m args below meth c C G hr hsz I ls hl
  generalize va_A (wW cA h qo f (bw, cw, ts, tb, st, ro, mr, la, fu, dn, wr)) sz = A at I G ⊢
  have hl : lv_has ls 4 [(0, .ref (h 0)), (1, .int x), (2, .ref qo)] := hl
  refine lv_aload_n C.1 C.2.1 d_L_changed_0 rfl (lv_at hl 2 rfl) ?_
  refine lv_iconst (v := nI 0) C.1 C.2.1 d_L_changed_1 (by decide) ?_
  refine lv_aload_n C.1 C.2.1 d_L_changed_2 rfl (lv_at hl 0 rfl) ?_
  refine lv_iload_n C.1 C.2.1 d_L_changed_3 rfl (lv_at hl 1 rfl) ?_
  refine lx_call C G I (c_S_changed l hlt D cA h _ bw cw ts tb st ro mr la fu dn wr x hfu) lk_L56 rfl rfl ⟨by decide, by decide⟩ ⟨by decide, by decide⟩ rfl hl.1 (rest := [.int (nI 0), .ref qo]) rfl (Nat.le_of_ble_eq_true rfl) d_L_changed_4 (fun v u' H locs wc I => ?_) (fun k xk u' H locs hE wc I => ?_)
  · obtain ⟨r1, rfl, z, hfb⟩ := wc
    refine lv_i2l C.1 C.2.1 d_L_changed_7 rfl ?_
    refine lx_last C I d_L_changed_8 (fun H locs I => ?_)
    refine lv_goto (tgt := 18) C.1 C.2.1 d_L_changed_9 (by decide) ?_
    refine lv_iconst (v := nI 0) C.1 C.2.1 d_L_changed_18 (by decide) ?_
    exact lx_ret C hr I (by decide) (by decide) (Or.inl ⟨r1, z, rfl, rfl⟩) d_L_changed_19
  · have hk : k = 0 ∨ k = 3 := (er_changed (S := fun k => k = 0 ∨ k = 3) (Or.inl rfl) (Or.inr (rfl)) x _ _ _ wc)
    rcases hk with rfl | rfl
    · refine wx_catch (own := R_L) C.2.2.2.1 hE [⟨0, 9, 12, 31⟩] ⟨0, 9, 15, 17⟩ [] (G.2.2.2.trans rfl) (List.forall_mem_cons.mpr ⟨⟨rfl, by decide, _, C.2.2.2.2.1 _ cl_L31, G.2.2.1 0 3 (by decide) (by decide) (by decide)⟩, (fun _ hm => nomatch hm)⟩) ⟨rfl, by decide, C.2.2.2.2.1 _ cl_L17⟩ ?_
      refine lv_astore_n (lv' := [(3, .ref xk), (0, .ref (h 0)), (1, .int x), (2, .ref qo)]) C.1 C.2.1 d_L_changed_15 rfl hl (by decide) rfl (fun ls hl => ?_)
      refine lv_iconst (v := nI 2) C.1 C.2.1 d_L_changed_16 (by decide) ?_
      exact lx_ret C hr I (by decide) (by decide) (Or.inr ⟨0, by decide, wc, rfl⟩) d_L_changed_17
    · refine wx_catch (own := R_L) C.2.2.2.1 hE [] ⟨0, 9, 12, 31⟩ [⟨0, 9, 15, 17⟩] (G.2.2.2.trans rfl) (fun _ hm => nomatch hm) ⟨rfl, by decide, C.2.2.2.2.1 _ cl_L31⟩ ?_
      refine lv_astore_n (lv' := [(3, .ref xk), (0, .ref (h 0)), (1, .int x), (2, .ref qo)]) C.1 C.2.1 d_L_changed_12 rfl hl (by decide) rfl (fun ls hl => ?_)
      refine lv_iconst (v := nI 1) C.1 C.2.1 d_L_changed_13 (by decide) ?_
      exact lx_ret C hr I (by decide) (by decide) (Or.inr ⟨3, by decide, wc, rfl⟩) d_L_changed_14
