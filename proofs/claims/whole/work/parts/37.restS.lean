set_option maxHeartbeats 4000000 in
set_option maxRecDepth 100000 in
/-- R_S.fuse -/
theorem c_S_fuse (l : Launch) (D : va_G) (cA : Nat → ClassId) (h : Nat → Nat) (sz : Nat) (bw : (Nat → Int32)) (cw : (Nat → Int32)) (ts : (Nat → Int32)) (tb : (Nat → Int32)) (st : (Nat → Int32)) (ro : Nat) (mr : Nat) (la : Nat) (fu : Option Nat) (dn : Bool) (wr : Nat) (x : Int32) : svMi l D cA h (bw, cw, ts, tb, st, ro, mr, la, fu, dn, wr) sz y_S_fuse (.code y_S_fuse b_S_fuse 2 (some .boolean)) (rmL 0) [.int x] (fun r u' => r = bI (cFuse x (bw, cw, ts, tb, st, ro, mr, la, fu, dn, wr)).1 ∧ u' = (cFuse x (bw, cw, ts, tb, st, ro, mr, la, fu, dn, wr)).2) := by
  refine sv_mi (by decide) rfl (Nat.le_of_ble_eq_true rfl) ?_
  intro p e s m args below meth c C hr hsz I ls hl
  generalize svA cA h (bw, cw, ts, tb, st, ro, mr, la, fu, dn, wr) sz = A at I ⊢
  have hl : lv_has ls 2 [(0, .ref (h 0)), (1, .int x)] := hl
  refine lv_aload_n C.1 C.2.1 d_S_fuse_0 rfl (lv_at hl 0 rfl) ?_
  refine sv_g9 C I d_S_fuse_1 ?_
  refine n_ifne (b := dn) (tgt := 12) C.1 C.2.1 d_S_fuse_4 (by decide) (fun q4 => ?_) (fun q4 => ?_)
  · refine lv_iconst (v := nI 0) C.1 C.2.1 d_S_fuse_12 (by decide) ?_
    exact sv_rz (b := false) C hr I ⟨congrArg (fun z => bI z.1) (cFuse_no (by first | exact Or.inl q4 | exact Or.inr (Int32.not_le.mp q9))).symm, congrArg Prod.snd (cFuse_no (by first | exact Or.inl q4 | exact Or.inr (Int32.not_le.mp q9))).symm⟩ d_S_fuse_13
  · refine lv_iload_n C.1 C.2.1 d_S_fuse_7 rfl (lv_at hl 1 rfl) ?_
    refine lv_iconst (v := oI none) C.1 C.2.1 d_S_fuse_8 (by decide) ?_
    refine lv_icmp_ge (x := x) (y := oI none) (tgt := 14) C.1 C.2.1 d_S_fuse_9 (by decide) (fun q9 => ?_) (fun q9 => ?_)
    · rcases fuse_cases (Int32.not_lt.mpr q9) with rfl | ⟨k, hk, rfl⟩
      · refine lv_aload_n C.1 C.2.1 d_S_fuse_14 rfl (lv_at hl 0 rfl) ?_
        refine lv_iload_n C.1 C.2.1 d_S_fuse_15 rfl (lv_at hl 1 rfl) ?_
        refine sv_p8 C I none rfl d_S_fuse_16 (fun H locs I => ?_)
        refine lv_iconst (v := nI 1) C.1 C.2.1 d_S_fuse_19 (by decide) ?_
        exact sv_rz (b := true) C hr I ⟨congrArg (fun z => bI z.1) (cFuse_off q4).symm, congrArg Prod.snd (cFuse_off q4).symm⟩ d_S_fuse_20
      · refine lv_aload_n C.1 C.2.1 d_S_fuse_14 rfl (lv_at hl 0 rfl) ?_
        refine lv_iload_n C.1 C.2.1 d_S_fuse_15 rfl (lv_at hl 1 rfl) ?_
        refine sv_p8 C I (some k) rfl d_S_fuse_16 (fun H locs I => ?_)
        refine lv_iconst (v := nI 1) C.1 C.2.1 d_S_fuse_19 (by decide) ?_
        exact sv_rz (b := true) C hr I ⟨congrArg (fun z => bI z.1) (cFuse_k q4 hk).symm, congrArg Prod.snd (cFuse_k q4 hk).symm⟩ d_S_fuse_20
    · refine lv_iconst (v := nI 0) C.1 C.2.1 d_S_fuse_12 (by decide) ?_
      exact sv_rz (b := false) C hr I ⟨congrArg (fun z => bI z.1) (cFuse_no (by first | exact Or.inl q4 | exact Or.inr (Int32.not_le.mp q9))).symm, congrArg Prod.snd (cFuse_no (by first | exact Or.inl q4 | exact Or.inr (Int32.not_le.mp q9))).symm⟩ d_S_fuse_13
set_option maxHeartbeats 4000000 in
set_option maxRecDepth 100000 in
/-- R_S.isDown -/
theorem c_S_isDown (l : Launch) (D : va_G) (cA : Nat → ClassId) (h : Nat → Nat) (sz : Nat) (bw : (Nat → Int32)) (cw : (Nat → Int32)) (ts : (Nat → Int32)) (tb : (Nat → Int32)) (st : (Nat → Int32)) (ro : Nat) (mr : Nat) (la : Nat) (fu : Option Nat) (dn : Bool) (wr : Nat)  : svMi l D cA h (bw, cw, ts, tb, st, ro, mr, la, fu, dn, wr) sz y_S_isDown (.code y_S_isDown b_S_isDown 1 (some .boolean)) (rmL 0) [] (fun r u' => r = bI (dn) ∧ u' = (bw, cw, ts, tb, st, ro, mr, la, fu, dn, wr)) := by
  refine sv_mi (by decide) rfl (Nat.le_of_ble_eq_true rfl) ?_
  intro p e s m args below meth c C hr hsz I ls hl
  generalize svA cA h (bw, cw, ts, tb, st, ro, mr, la, fu, dn, wr) sz = A at I ⊢
  have hl : lv_has ls 1 [(0, .ref (h 0))] := hl
  refine lv_aload_n C.1 C.2.1 d_S_isDown_0 rfl (lv_at hl 0 rfl) ?_
  refine sv_g9 C I d_S_isDown_1 ?_
  exact sv_rz (b := dn) C hr I ⟨congrArg bI rfl, rfl⟩ d_S_isDown_4
set_option maxHeartbeats 4000000 in
set_option maxRecDepth 100000 in
/-- R_S.writes -/
theorem c_S_writes (l : Launch) (D : va_G) (cA : Nat → ClassId) (h : Nat → Nat) (sz : Nat) (bw : (Nat → Int32)) (cw : (Nat → Int32)) (ts : (Nat → Int32)) (tb : (Nat → Int32)) (st : (Nat → Int32)) (ro : Nat) (mr : Nat) (la : Nat) (fu : Option Nat) (dn : Bool) (wr : Nat)  : svMi l D cA h (bw, cw, ts, tb, st, ro, mr, la, fu, dn, wr) sz y_S_writes (.code y_S_writes b_S_writes 1 (some .int)) (rmL 0) [] (fun r u' => r = nI (wr) ∧ u' = (bw, cw, ts, tb, st, ro, mr, la, fu, dn, wr)) := by
  refine sv_mi (by decide) rfl (Nat.le_of_ble_eq_true rfl) ?_
  intro p e s m args below meth c C hr hsz I ls hl
  generalize svA cA h (bw, cw, ts, tb, st, ro, mr, la, fu, dn, wr) sz = A at I ⊢
  have hl : lv_has ls 1 [(0, .ref (h 0))] := hl
  refine lv_aload_n C.1 C.2.1 d_S_writes_0 rfl (lv_at hl 0 rfl) ?_
  refine sv_g10 C I d_S_writes_1 ?_
  exact sv_ri (v := nI wr) C hr I ⟨congrArg nI rfl, rfl⟩ d_S_writes_4
set_option maxHeartbeats 4000000 in
set_option maxRecDepth 100000 in
theorem lp_S_clearAll_72 {p : Program} {l : Launch} {e : Env} {s : State} {m : MethodId} {args : Array Value} {below : List Frame} {meth : Method} {c : Code} {D : va_G} {cA : Nat → ClassId} {A : Nat → Prop} {h : Nat → Nat} {bw : (Nat → Int32)} {cw : (Nat → Int32)} {ts : (Nat → Int32)} {tb : (Nat → Int32)} {st : (Nat → Int32)} {ro : Nat} {mr : Nat} {la : Nat} {fu : Option Nat} {dn : Bool} {wr : Nat} (C : gC p s m args meth c b_S_clearAll 2 R_S) (hr : meth.sig.returnType = none)    : ∀ (fuel : Nat) (i : Nat) (bwv : Nat → Int32) (cwv : Nat → Int32) (tsv : Nat → Int32) (tbv : Nat → Int32) (stv : Nat → Int32), 3 - i < fuel → i ≤ 3 → (∀ k, k < 24 → bwv k = nI 0) → (∀ k, k < 36 → cwv k = nI 0) → (∀ k, k < 9 → tsv k = oI none) → (∀ k, k < 9 → tbv k = nI 0) → (∀ k, k < i → stv k = nI 0) → ∀ (H : Heap) (locs : List Loc), svI D cA A s h (bwv, cwv, tsv, tbv, stv, ro, mr, la, fu, dn, wr) H locs → ∀ (ls : Array Slot), lv_has ls 2 [(0, .ref (h 0)), (1, .int (nI i))] → W p l e (rmL 0) s m args below meth c H locs 0 0 (MQ below (va_Qv (fun u' => sv0 u') (svAt D cA A h) A) args s 0 0 A) (F0 m 72 ls []) := by
  intro fuel
  induction fuel with
  | zero =>
    intro _ _ _ _ _ _ hfuel
    exact absurd hfuel (Nat.not_lt_zero _)
  | succ fuel ih =>
    intro i bwv cwv tsv tbv stv hfuel hi ha hb hc hd he H locs I ls hl
    refine lv_iload_n C.1 C.2.1 d_S_clearAll_72 rfl (lv_at hl 1 rfl) ?_
    refine lv_iconst (v := nI 3) C.1 C.2.1 d_S_clearAll_73 (by decide) ?_
    refine n_icmp_ge C.1 C.2.1 (a := i) (b := 3) (tgt := 90) (by omega) (by omega) d_S_clearAll_74 (by decide) (fun q74 => ?_) (fun q74 => ?_)
    · refine lv_aload_n C.1 C.2.1 d_S_clearAll_90 rfl (lv_at hl 0 rfl) ?_
      refine lv_iconst (v := nI 0) C.1 C.2.1 d_S_clearAll_91 (by decide) ?_
      refine sv_p5 C I 0 rfl d_S_clearAll_92 (fun H locs I => ?_)
      refine lv_aload_n C.1 C.2.1 d_S_clearAll_95 rfl (lv_at hl 0 rfl) ?_
      refine lv_iconst (v := nI 0) C.1 C.2.1 d_S_clearAll_96 (by decide) ?_
      refine sv_p6 C I 0 rfl d_S_clearAll_97 (fun H locs I => ?_)
      refine lv_aload_n C.1 C.2.1 d_S_clearAll_100 rfl (lv_at hl 0 rfl) ?_
      refine lv_iconst (v := nI 0) C.1 C.2.1 d_S_clearAll_101 (by decide) ?_
      refine sv_p7 C I 0 rfl d_S_clearAll_102 (fun H locs I => ?_)
      refine lv_aload_n C.1 C.2.1 d_S_clearAll_105 rfl (lv_at hl 0 rfl) ?_
      refine lv_iconst (v := oI none) C.1 C.2.1 d_S_clearAll_106 (by decide) ?_
      refine sv_p8 C I none rfl d_S_clearAll_107 (fun H locs I => ?_)
      refine lv_aload_n C.1 C.2.1 d_S_clearAll_110 rfl (lv_at hl 0 rfl) ?_
      refine lv_iconst (v := nI 0) C.1 C.2.1 d_S_clearAll_111 (by decide) ?_
      refine sv_p9 C I false rfl d_S_clearAll_112 (fun H locs I => ?_)
      refine lv_aload_n C.1 C.2.1 d_S_clearAll_115 rfl (lv_at hl 0 rfl) ?_
      refine lv_iconst (v := nI 0) C.1 C.2.1 d_S_clearAll_116 (by decide) ?_
      refine sv_p10 C I 0 rfl d_S_clearAll_117 (fun H locs I => ?_)
      exact sv_rv C hr I ⟨ha, hb, hc, hd, (fun k hk => he k (by omega)), rfl, rfl, rfl, rfl, rfl, rfl⟩ d_S_clearAll_120
    · refine lv_aload_n C.1 C.2.1 d_S_clearAll_77 rfl (lv_at hl 0 rfl) ?_
      refine sv_g4 C I d_S_clearAll_78 ?_
      refine lv_iload_n C.1 C.2.1 d_S_clearAll_81 rfl (lv_at hl 1 rfl) ?_
      refine lv_iconst (v := nI 0) C.1 C.2.1 d_S_clearAll_82 (by decide) ?_
      refine sv_s5 C I (k := i) (x := nI 0) (by omega) d_S_clearAll_83 (fun H locs I => ?_)
      refine lv_iinc (v := nI (i + 1)) (lv' := [(1, .int (nI (i + 1))), (0, .ref (h 0))]) C.1 C.2.1 d_S_clearAll_84 hl (k := 1) rfl (by rw [show nI (i + 1) = nI i + nI 1 from (nI_add _ _).symm]; rfl) (by decide) rfl (fun ls hl => ?_)
      refine lv_goto (tgt := 72) C.1 C.2.1 d_S_clearAll_87 (by decide) ?_
      exact ih (i + 1) bwv cwv tsv tbv (upd stv i (nI 0)) (by omega) (by omega) ha hb hc hd (upd_pre he) _ _ I ls (lv_sub hl [1, 0] rfl)
set_option maxHeartbeats 4000000 in
set_option maxRecDepth 100000 in
theorem lp_S_clearAll_44 {p : Program} {l : Launch} {e : Env} {s : State} {m : MethodId} {args : Array Value} {below : List Frame} {meth : Method} {c : Code} {D : va_G} {cA : Nat → ClassId} {A : Nat → Prop} {h : Nat → Nat} {bw : (Nat → Int32)} {cw : (Nat → Int32)} {ts : (Nat → Int32)} {tb : (Nat → Int32)} {st : (Nat → Int32)} {ro : Nat} {mr : Nat} {la : Nat} {fu : Option Nat} {dn : Bool} {wr : Nat} (C : gC p s m args meth c b_S_clearAll 2 R_S) (hr : meth.sig.returnType = none)    : ∀ (fuel : Nat) (i : Nat) (bwv : Nat → Int32) (cwv : Nat → Int32) (tsv : Nat → Int32) (tbv : Nat → Int32), 9 - i < fuel → i ≤ 9 → (∀ k, k < 24 → bwv k = nI 0) → (∀ k, k < 36 → cwv k = nI 0) → (∀ k, k < i → tsv k = oI none) → (∀ k, k < i → tbv k = nI 0) → ∀ (H : Heap) (locs : List Loc), svI D cA A s h (bwv, cwv, tsv, tbv, st, ro, mr, la, fu, dn, wr) H locs → ∀ (ls : Array Slot), lv_has ls 2 [(0, .ref (h 0)), (1, .int (nI i))] → W p l e (rmL 0) s m args below meth c H locs 0 0 (MQ below (va_Qv (fun u' => sv0 u') (svAt D cA A h) A) args s 0 0 A) (F0 m 44 ls []) := by
  intro fuel
  induction fuel with
  | zero =>
    intro _ _ _ _ _ hfuel
    exact absurd hfuel (Nat.not_lt_zero _)
  | succ fuel ih =>
    intro i bwv cwv tsv tbv hfuel hi ha hb hc hd H locs I ls hl
    refine lv_iload_n C.1 C.2.1 d_S_clearAll_44 rfl (lv_at hl 1 rfl) ?_
    refine lv_bipush (v := nI 9) C.1 C.2.1 d_S_clearAll_45 (by decide) ?_
    refine n_icmp_ge C.1 C.2.1 (a := i) (b := 9) (tgt := 70) (by omega) (by omega) d_S_clearAll_47 (by decide) (fun q47 => ?_) (fun q47 => ?_)
    · refine lv_iconst (v := nI 0) C.1 C.2.1 d_S_clearAll_70 (by decide) ?_
      refine lv_istore_n (lv' := [(1, .int (nI 0)), (0, .ref (h 0))]) C.1 C.2.1 d_S_clearAll_71 rfl hl (by decide) rfl (fun ls hl => ?_)
      exact lp_S_clearAll_72 (bw := bw) (cw := cw) (ts := ts) (tb := tb) (st := st) (ro := ro) (mr := mr) (la := la) (fu := fu) (dn := dn) (wr := wr) C hr   _ 0 bwv cwv tsv tbv st (Nat.lt_succ_self _) (by omega) ha hb (fun k hk => hc k (by omega)) (fun k hk => hd k (by omega)) (fun k hk => absurd hk (Nat.not_lt_zero k)) _ _ I ls (lv_sub hl [1, 0] rfl)
    · refine lv_aload_n C.1 C.2.1 d_S_clearAll_50 rfl (lv_at hl 0 rfl) ?_
      refine sv_g2 C I d_S_clearAll_51 ?_
      refine lv_iload_n C.1 C.2.1 d_S_clearAll_54 rfl (lv_at hl 1 rfl) ?_
      refine lv_iconst (v := oI none) C.1 C.2.1 d_S_clearAll_55 (by decide) ?_
      refine sv_s3 C I (k := i) (x := oI none) (by omega) d_S_clearAll_56 (fun H locs I => ?_)
      refine lv_aload_n C.1 C.2.1 d_S_clearAll_57 rfl (lv_at hl 0 rfl) ?_
      refine sv_g3 C I d_S_clearAll_58 ?_
      refine lv_iload_n C.1 C.2.1 d_S_clearAll_61 rfl (lv_at hl 1 rfl) ?_
      refine lv_iconst (v := nI 0) C.1 C.2.1 d_S_clearAll_62 (by decide) ?_
      refine sv_s4 C I (k := i) (x := nI 0) (by omega) d_S_clearAll_63 (fun H locs I => ?_)
      refine lv_iinc (v := nI (i + 1)) (lv' := [(1, .int (nI (i + 1))), (0, .ref (h 0))]) C.1 C.2.1 d_S_clearAll_64 hl (k := 1) rfl (by rw [show nI (i + 1) = nI i + nI 1 from (nI_add _ _).symm]; rfl) (by decide) rfl (fun ls hl => ?_)
      refine lv_goto (tgt := 44) C.1 C.2.1 d_S_clearAll_67 (by decide) ?_
      exact ih (i + 1) bwv cwv (upd tsv i (oI none)) (upd tbv i (nI 0)) (by omega) (by omega) ha hb (upd_pre hc) (upd_pre hd) _ _ I ls (lv_sub hl [1, 0] rfl)
set_option maxHeartbeats 4000000 in
set_option maxRecDepth 100000 in
theorem lp_S_clearAll_23 {p : Program} {l : Launch} {e : Env} {s : State} {m : MethodId} {args : Array Value} {below : List Frame} {meth : Method} {c : Code} {D : va_G} {cA : Nat → ClassId} {A : Nat → Prop} {h : Nat → Nat} {bw : (Nat → Int32)} {cw : (Nat → Int32)} {ts : (Nat → Int32)} {tb : (Nat → Int32)} {st : (Nat → Int32)} {ro : Nat} {mr : Nat} {la : Nat} {fu : Option Nat} {dn : Bool} {wr : Nat} (C : gC p s m args meth c b_S_clearAll 2 R_S) (hr : meth.sig.returnType = none)    : ∀ (fuel : Nat) (i : Nat) (bwv : Nat → Int32) (cwv : Nat → Int32), 36 - i < fuel → i ≤ 36 → (∀ k, k < 24 → bwv k = nI 0) → (∀ k, k < i → cwv k = nI 0) → ∀ (H : Heap) (locs : List Loc), svI D cA A s h (bwv, cwv, ts, tb, st, ro, mr, la, fu, dn, wr) H locs → ∀ (ls : Array Slot), lv_has ls 2 [(0, .ref (h 0)), (1, .int (nI i))] → W p l e (rmL 0) s m args below meth c H locs 0 0 (MQ below (va_Qv (fun u' => sv0 u') (svAt D cA A h) A) args s 0 0 A) (F0 m 23 ls []) := by
  intro fuel
  induction fuel with
  | zero =>
    intro _ _ _ hfuel
    exact absurd hfuel (Nat.not_lt_zero _)
  | succ fuel ih =>
    intro i bwv cwv hfuel hi ha hb H locs I ls hl
    refine lv_iload_n C.1 C.2.1 d_S_clearAll_23 rfl (lv_at hl 1 rfl) ?_
    refine lv_bipush (v := nI 36) C.1 C.2.1 d_S_clearAll_24 (by decide) ?_
    refine n_icmp_ge C.1 C.2.1 (a := i) (b := 36) (tgt := 42) (by omega) (by omega) d_S_clearAll_26 (by decide) (fun q26 => ?_) (fun q26 => ?_)
    · refine lv_iconst (v := nI 0) C.1 C.2.1 d_S_clearAll_42 (by decide) ?_
      refine lv_istore_n (lv' := [(1, .int (nI 0)), (0, .ref (h 0))]) C.1 C.2.1 d_S_clearAll_43 rfl hl (by decide) rfl (fun ls hl => ?_)
      exact lp_S_clearAll_44 (bw := bw) (cw := cw) (ts := ts) (tb := tb) (st := st) (ro := ro) (mr := mr) (la := la) (fu := fu) (dn := dn) (wr := wr) C hr   _ 0 bwv cwv ts tb (Nat.lt_succ_self _) (by omega) ha (fun k hk => hb k (by omega)) (fun k hk => absurd hk (Nat.not_lt_zero k)) (fun k hk => absurd hk (Nat.not_lt_zero k)) _ _ I ls (lv_sub hl [1, 0] rfl)
    · refine lv_aload_n C.1 C.2.1 d_S_clearAll_29 rfl (lv_at hl 0 rfl) ?_
      refine sv_g1 C I d_S_clearAll_30 ?_
      refine lv_iload_n C.1 C.2.1 d_S_clearAll_33 rfl (lv_at hl 1 rfl) ?_
      refine lv_iconst (v := nI 0) C.1 C.2.1 d_S_clearAll_34 (by decide) ?_
      refine sv_s2 C I (k := i) (x := nI 0) (by omega) d_S_clearAll_35 (fun H locs I => ?_)
      refine lv_iinc (v := nI (i + 1)) (lv' := [(1, .int (nI (i + 1))), (0, .ref (h 0))]) C.1 C.2.1 d_S_clearAll_36 hl (k := 1) rfl (by rw [show nI (i + 1) = nI i + nI 1 from (nI_add _ _).symm]; rfl) (by decide) rfl (fun ls hl => ?_)
      refine lv_goto (tgt := 23) C.1 C.2.1 d_S_clearAll_39 (by decide) ?_
      exact ih (i + 1) bwv (upd cwv i (nI 0)) (by omega) (by omega) ha (upd_pre hb) _ _ I ls (lv_sub hl [1, 0] rfl)
set_option maxHeartbeats 4000000 in
set_option maxRecDepth 100000 in
theorem lp_S_clearAll_2 {p : Program} {l : Launch} {e : Env} {s : State} {m : MethodId} {args : Array Value} {below : List Frame} {meth : Method} {c : Code} {D : va_G} {cA : Nat → ClassId} {A : Nat → Prop} {h : Nat → Nat} {bw : (Nat → Int32)} {cw : (Nat → Int32)} {ts : (Nat → Int32)} {tb : (Nat → Int32)} {st : (Nat → Int32)} {ro : Nat} {mr : Nat} {la : Nat} {fu : Option Nat} {dn : Bool} {wr : Nat} (C : gC p s m args meth c b_S_clearAll 2 R_S) (hr : meth.sig.returnType = none)    : ∀ (fuel : Nat) (i : Nat) (bwv : Nat → Int32), 24 - i < fuel → i ≤ 24 → (∀ k, k < i → bwv k = nI 0) → ∀ (H : Heap) (locs : List Loc), svI D cA A s h (bwv, cw, ts, tb, st, ro, mr, la, fu, dn, wr) H locs → ∀ (ls : Array Slot), lv_has ls 2 [(0, .ref (h 0)), (1, .int (nI i))] → W p l e (rmL 0) s m args below meth c H locs 0 0 (MQ below (va_Qv (fun u' => sv0 u') (svAt D cA A h) A) args s 0 0 A) (F0 m 2 ls []) := by
  intro fuel
  induction fuel with
  | zero =>
    intro _ _ hfuel
    exact absurd hfuel (Nat.not_lt_zero _)
  | succ fuel ih =>
    intro i bwv hfuel hi ha H locs I ls hl
    refine lv_iload_n C.1 C.2.1 d_S_clearAll_2 rfl (lv_at hl 1 rfl) ?_
    refine lv_bipush (v := nI 24) C.1 C.2.1 d_S_clearAll_3 (by decide) ?_
    refine n_icmp_ge C.1 C.2.1 (a := i) (b := 24) (tgt := 21) (by omega) (by omega) d_S_clearAll_5 (by decide) (fun q5 => ?_) (fun q5 => ?_)
    · refine lv_iconst (v := nI 0) C.1 C.2.1 d_S_clearAll_21 (by decide) ?_
      refine lv_istore_n (lv' := [(1, .int (nI 0)), (0, .ref (h 0))]) C.1 C.2.1 d_S_clearAll_22 rfl hl (by decide) rfl (fun ls hl => ?_)
      exact lp_S_clearAll_23 (bw := bw) (cw := cw) (ts := ts) (tb := tb) (st := st) (ro := ro) (mr := mr) (la := la) (fu := fu) (dn := dn) (wr := wr) C hr   _ 0 bwv cw (Nat.lt_succ_self _) (by omega) (fun k hk => ha k (by omega)) (fun k hk => absurd hk (Nat.not_lt_zero k)) _ _ I ls (lv_sub hl [1, 0] rfl)
    · refine lv_aload_n C.1 C.2.1 d_S_clearAll_8 rfl (lv_at hl 0 rfl) ?_
      refine sv_g0 C I d_S_clearAll_9 ?_
      refine lv_iload_n C.1 C.2.1 d_S_clearAll_12 rfl (lv_at hl 1 rfl) ?_
      refine lv_iconst (v := nI 0) C.1 C.2.1 d_S_clearAll_13 (by decide) ?_
      refine sv_s1 C I (k := i) (x := nI 0) (by omega) d_S_clearAll_14 (fun H locs I => ?_)
      refine lv_iinc (v := nI (i + 1)) (lv' := [(1, .int (nI (i + 1))), (0, .ref (h 0))]) C.1 C.2.1 d_S_clearAll_15 hl (k := 1) rfl (by rw [show nI (i + 1) = nI i + nI 1 from (nI_add _ _).symm]; rfl) (by decide) rfl (fun ls hl => ?_)
      refine lv_goto (tgt := 2) C.1 C.2.1 d_S_clearAll_18 (by decide) ?_
      exact ih (i + 1) (upd bwv i (nI 0)) (by omega) (by omega) (upd_pre ha) _ _ I ls (lv_sub hl [1, 0] rfl)
set_option maxHeartbeats 4000000 in
set_option maxRecDepth 100000 in
/-- R_S.clearAll -/
theorem c_S_clearAll (l : Launch) (D : va_G) (cA : Nat → ClassId) (h : Nat → Nat) (sz : Nat) (bw : (Nat → Int32)) (cw : (Nat → Int32)) (ts : (Nat → Int32)) (tb : (Nat → Int32)) (st : (Nat → Int32)) (ro : Nat) (mr : Nat) (la : Nat) (fu : Option Nat) (dn : Bool) (wr : Nat)  : svMv l D cA h (bw, cw, ts, tb, st, ro, mr, la, fu, dn, wr) sz y_S_clearAll (.code y_S_clearAll b_S_clearAll 2 none) (rmL 0) [] (fun u' => sv0 u') := by
  refine sv_mv (by decide) rfl (Nat.le_of_ble_eq_true rfl) ?_
  intro p e s m args below meth c C hr hsz I ls hl
  generalize svA cA h (bw, cw, ts, tb, st, ro, mr, la, fu, dn, wr) sz = A at I ⊢
  have hl : lv_has ls 2 [(0, .ref (h 0))] := hl
  refine lv_iconst (v := nI 0) C.1 C.2.1 d_S_clearAll_0 (by decide) ?_
  refine lv_istore_n (lv' := [(1, .int (nI 0)), (0, .ref (h 0))]) C.1 C.2.1 d_S_clearAll_1 rfl hl (by decide) rfl (fun ls hl => ?_)
  exact lp_S_clearAll_2 (bw := bw) (cw := cw) (ts := ts) (tb := tb) (st := st) (ro := ro) (mr := mr) (la := la) (fu := fu) (dn := dn) (wr := wr) C hr   _ 0 bw (Nat.lt_succ_self _) (by omega) (fun k hk => absurd hk (Nat.not_lt_zero k)) _ _ I ls (lv_sub hl [1, 0] rfl)
set_option maxHeartbeats 4000000 in
set_option maxRecDepth 100000 in
/-- R_S.format -/
theorem c_S_format (l : Launch) (D : va_G) (cA : Nat → ClassId) (h : Nat → Nat) (sz : Nat) (bw : (Nat → Int32)) (cw : (Nat → Int32)) (ts : (Nat → Int32)) (tb : (Nat → Int32)) (st : (Nat → Int32)) (ro : Nat) (mr : Nat) (la : Nat) (fu : Option Nat) (dn : Bool) (wr : Nat)  : svMv l D cA h (bw, cw, ts, tb, st, ro, mr, la, fu, dn, wr) sz y_S_format (.code y_S_format b_S_format 1 none) (rmL 1) [] (fun u' => sv0 u') := by
  refine sv_mv (by decide) rfl (Nat.le_of_ble_eq_true rfl) ?_
  intro p e s m args below meth c C hr hsz I ls hl
  generalize svA cA h (bw, cw, ts, tb, st, ro, mr, la, fu, dn, wr) sz = A at I ⊢
  have hl : lv_has ls 1 [(0, .ref (h 0))] := hl
  refine lv_aload_n C.1 C.2.1 d_S_format_0 rfl (lv_at hl 0 rfl) ?_
  refine sv_cv C I (c_S_clearAll l D cA h _ bw cw ts tb st ro mr la fu dn wr) lk_S25 rfl rfl ⟨by decide, by decide⟩ ⟨Nat.zero_le _, Nat.zero_le _⟩ rfl hl.1 (rest := []) rfl (Nat.le_of_ble_eq_true rfl) d_S_format_1 (fun u' H locs w1 I => ?_)
  exact sv_rv C hr I w1 d_S_format_4
